/-! The start: what holds of the machine at the law's entry. -/
set_option maxRecDepth 100000 in
theorem hm_nstIn : ∀ w ∈ hm_nst, w ∈ lw_tbl := by decide +kernel
def hm_ovs : List Cond := [.arrayOver (.object "HarbourlightMonitor$Group"), .arrayOver (.object "HarbourlightMonitor$Alert"), .arrayOver (.object "java/lang/Object"), .arrayOver (.array .int), .laysStatic "java/util/ArrayList" "DEFAULTCAPACITY_EMPTY_ELEMENTDATA" "[Ljava/lang/Object;", .laysStatic "HarbourlightMonitor" "EDGES" "[I", .laysStatic "HarbourlightMonitor" "PARTS" "[I"]
set_option maxRecDepth 100000 in
theorem hm_ovsIn : ∀ w ∈ hm_ovs, w ∈ lw_tbl := by decide +kernel
def tmL : Term := .static "java/util/ArrayList" "DEFAULTCAPACITY_EMPTY_ELEMENTDATA" "[Ljava/lang/Object;"
def tmE : Term := .static "HarbourlightMonitor" "EDGES" "[I"
def tmP : Term := .static "HarbourlightMonitor" "PARTS" "[I"
def hm_giv : List Cond := [.arrayOf tmL (.object "java/lang/Object"), .eq (.length tmL) (.int 0), .arrayOf tmE .int, .eq (.length tmE) (.int 5), .eq (.elem tmE (.int 0)) (.int 0), .eq (.elem tmE (.int 1)) (.int 10), .eq (.elem tmE (.int 2)) (.int 50), .eq (.elem tmE (.int 3)) (.int 100), .eq (.elem tmE (.int 4)) (.int 500), .arrayOf tmP .int, .eq (.length tmP) (.int 4), .eq (.elem tmP (.int 0)) (.int 50), .eq (.elem tmP (.int 1)) (.int 75), .eq (.elem tmP (.int 2)) (.int 90), .eq (.elem tmP (.int 3)) (.int 99)]
set_option maxRecDepth 100000 in
theorem hm_givIn : ∀ w ∈ hm_giv, w ∈ flatC (Jvm.Cond.and given_1 narrow_1) := by decide +kernel
theorem hm_arrI {s : State} {args : Array Value} (h : (Cond.arrayClass .int).before args s = true) : ∃ c, ArrOfT s c .int ∧ va_RA s c .int := by
  obtain ⟨c, k, comp, h1, h2, h3⟩ := Cond.arrayClass_spec h
  exact ⟨c, fun N z => ⟨(fun k h => by cases h), k, h2, comp, h3⟩, h1⟩
theorem hm_arrQ {s : State} {args : Array Value} {C : String} (h : (Cond.arrayOver (.object C)).before args s = true) : ∃ c, ArrOfT s c (.object C) ∧ va_RA s c (.object C) := by
  obtain ⟨comp, c, k, h1, -, h2, h3, h4⟩ := Cond.arrayOver_spec h
  exact ⟨c, fun N z => ⟨(fun k h => by cases h), k, h2, comp, h3⟩, k, comp, h2, h3, h1, h4⟩
theorem hm_arrA {s : State} {args : Array Value} {t : FieldType} (h : (Cond.arrayOver (.array t)).before args s = true) : ∃ c, ArrOfT s c (.array t) ∧ va_RA s c (.array t) := by
  obtain ⟨comp, c, k, h1, h2, h3, h4⟩ := Cond.arrayOver_specA h
  exact ⟨c, fun N z => ⟨(fun k h => by cases h), k, h2, comp, h3⟩, h4⟩
set_option maxHeartbeats 4000000 in
set_option maxRecDepth 100000 in
theorem start_E {s : State} {b : Nat} (hts : ∀ w ∈ lw_tbl, w.before #[Value.ref b] s = true) (hgv : (Jvm.Cond.and given_1 narrow_1).before #[Value.ref b] s = true) : ∃ g : GV, hm_E g s s.heap ∧ hm_b g 0 = s.heap.size := by
  have hW : ∀ w ∈ hm_B, w.before #[Value.ref b] s = true := fun w h => hts w (hm_Bin w h)
  have hO : ∀ w ∈ hm_ovs, w.before #[Value.ref b] s = true := fun w h => hts w (hm_ovsIn w h)
  have hV : ∀ w ∈ hm_giv, w.before #[Value.ref b] s = true := fun w h => flat_of_before _ hgv w (hm_givIn w h)
  obtain ⟨A, eA⟩ : ∃ A : Nat → Prop, A = fun q => s.heap.size ≤ q := ⟨_, rfl⟩
  have hA : ∀ a : Nat, a < s.heap.size → ¬ A a := fun a h => by rw [eA]; exact Nat.not_le.mpr h
  obtain ⟨c0, i0, hK0⟩ := u_known (C := RJx4a65c) (T := TJx4a65c) (N := 3) (n := 3) hW hi_Jx4a65c0 (hW _ hb_14)
  obtain ⟨c1, i1, hK1⟩ := u_known (C := RX0) (T := TX0) (N := 3) (n := 3) hW hi_X00 (hW _ hb_28)
  obtain ⟨c2, i2, hK2⟩ := u_known (C := RX1) (T := TX1) (N := 4) (n := 4) hW hi_X10 (hW _ hb_21)
  obtain ⟨c3, i3, hK3⟩ := u_known (C := RX2) (T := TX2) (N := 3) (n := 3) hW hi_X20 (hW _ hb_321)
  obtain ⟨c4, i4, hK4⟩ := u_known (C := RX3) (T := TX3) (N := 4) (n := 4) hW hi_X30 (hW _ hb_24)
  obtain ⟨c5, i5, hK5⟩ := u_known (C := RX4) (T := TX4) (N := 10) (n := 10) hW hi_X40 (hW _ hb_169)
  obtain ⟨c6, i6, hK6⟩ := u_known (C := RX5) (T := TX5) (N := 8) (n := 8) hW hi_X50 (hW _ hb_89)
  obtain ⟨c7, i7, hK7⟩ := u_known (C := RX6) (T := TX6) (N := 9) (n := 9) hW hi_X60 (hW _ hb_1)
  obtain ⟨a0, ha0⟩ := hm_arrI (hW _ hb_52)
  obtain ⟨a1, ha1⟩ := hm_arrQ (hO _ (List.mem_of_getElem? (i := 0) rfl))
  obtain ⟨a2, ha2⟩ := hm_arrQ (hO _ (List.mem_of_getElem? (i := 1) rfl))
  obtain ⟨a3, ha3⟩ := hm_arrQ (hO _ (List.mem_of_getElem? (i := 2) rfl))
  obtain ⟨a4, ha4⟩ := hm_arrA (hO _ (List.mem_of_getElem? (i := 3) rfl))
  obtain ⟨t1, ht1, hT1⟩ := va_Tof (N := 0) (f := fun _ => .null) (A := A) (by decide) (hV _ (List.mem_of_getElem? (i := 0) rfl)) (va_eqt (hV _ (List.mem_of_getElem? (i := 1) rfl))) (fun j hj => absurd hj (Nat.not_lt_zero _)) hA
  obtain ⟨t2, ht2, hT2⟩ := va_Tof (N := 5) (f := fun k => .int (hm_eN k)) (A := A) (by decide) (hV _ (List.mem_of_getElem? (i := 2) rfl)) (va_eqt (hV _ (List.mem_of_getElem? (i := 3) rfl))) (fun j hj => by
    rcases (show j = 0 ∨ j = 1 ∨ j = 2 ∨ j = 3 ∨ j = 4 by omega) with rfl | rfl | rfl | rfl | rfl
    · exact va_eqt (hV _ (List.mem_of_getElem? (i := 4) rfl))
    · exact va_eqt (hV _ (List.mem_of_getElem? (i := 5) rfl))
    · exact va_eqt (hV _ (List.mem_of_getElem? (i := 6) rfl))
    · exact va_eqt (hV _ (List.mem_of_getElem? (i := 7) rfl))
    · exact va_eqt (hV _ (List.mem_of_getElem? (i := 8) rfl))) hA
  obtain ⟨t3, ht3, hT3⟩ := va_Tof (N := 4) (f := fun k => .int (hm_pN k)) (A := A) (by decide) (hV _ (List.mem_of_getElem? (i := 9) rfl)) (va_eqt (hV _ (List.mem_of_getElem? (i := 10) rfl))) (fun j hj => by
    rcases (show j = 0 ∨ j = 1 ∨ j = 2 ∨ j = 3 by omega) with rfl | rfl | rfl | rfl
    · exact va_eqt (hV _ (List.mem_of_getElem? (i := 11) rfl))
    · exact va_eqt (hV _ (List.mem_of_getElem? (i := 12) rfl))
    · exact va_eqt (hV _ (List.mem_of_getElem? (i := 13) rfl))
    · exact va_eqt (hV _ (List.mem_of_getElem? (i := 14) rfl))) hA
  have hZ1 := va_Zof (hO _ (List.mem_of_getElem? (i := 4) rfl)) (hW _ hb_15) ht1 hA
  have hZ2 := va_Zof (hO _ (List.mem_of_getElem? (i := 5) rfl)) (hW _ hb_2) ht2 hA
  have hZ3 := va_Zof (hO _ (List.mem_of_getElem? (i := 6) rfl)) (hW _ hb_2) ht3 hA
  subst eA
  refine ⟨((fun k => match k with | 0 => c0 | 1 => c1 | 2 => c2 | 3 => c3 | 4 => c4 | 5 => c5 | 6 => c6 | _ => c7, fun k => match k with | 0 => i0 | 1 => i1 | 2 => i2 | 3 => i3 | 4 => i4 | 5 => i5 | 6 => i6 | _ => i7), fun k => match k with | 0 => a0 | 1 => a1 | 2 => a2 | 3 => a3 | _ => a4, fun k => match k with | 0 => s.heap.size | 1 => t1 | 2 => t2 | _ => t3), ⟨⟨?_, ?_⟩, Nat.le_refl _, ⟨⟨hZ1, hT1⟩, ⟨hZ2, hT2⟩, ⟨hZ3, hT3⟩⟩, fun w h => va_Nw.of (hm_nst_tab w h) (hts w (hm_nstIn w h)), hO _ (List.mem_of_getElem? (i := 0) rfl), hO _ (List.mem_of_getElem? (i := 1) rfl), hO _ (List.mem_of_getElem? (i := 2) rfl), hO _ (List.mem_of_getElem? (i := 3) rfl)⟩, rfl⟩
  · intro k q hq
    match k, hq with
    | 0, hq => cases hq; exact hK0
    | 1, hq => cases hq; exact hK1
    | 2, hq => cases hq; exact hK2
    | 3, hq => cases hq; exact hK3
    | 4, hq => cases hq; exact hK4
    | 5, hq => cases hq; exact hK5
    | 6, hq => cases hq; exact hK6
    | 7, hq => cases hq; exact hK7
    | k + 8, hq => exact absurd (List.getElem?_eq_some_iff.mp hq).1 (Nat.not_lt.mpr (Nat.le_add_left 8 k))
  · intro k q hq
    match k, hq with
    | 0, hq => cases hq; exact ha0
    | 1, hq => cases hq; exact ha1
    | 2, hq => cases hq; exact ha2
    | 3, hq => cases hq; exact ha3
    | 4, hq => cases hq; exact ha4
    | k + 5, hq => exact absurd (List.getElem?_eq_some_iff.mp hq).1 (Nat.not_lt.mpr (Nat.le_add_left 5 k))
