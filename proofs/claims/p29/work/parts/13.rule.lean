theorem hm_in0 {k b : Nat} (h : k ≤ b) (hb : b < 2 ^ 31) : bI (decide (nI k < 0) || decide (nI b < nI k)) = 0 := by
  show bI (decide (nI k < nI 0) || decide (nI b < nI k)) = 0
  rw [decide_eq_false (nI_nlt (a := k) (b := 0) (Nat.zero_le _) (by omega)), decide_eq_false (nI_nlt h hb)]; rfl
theorem hm_in0' {k : Int32} {lo hi : Int32} (h1 : ¬ k < lo) (h2 : ¬ hi < k) : bI (decide (k < lo) || decide (hi < k)) = 0 := by
  rw [decide_eq_false h1, decide_eq_false h2]; rfl
def hasRu (g : GV) (ad : AD) (M : CT) (r : Nat) (u : RuD) (al : Nat → AlD) : Prop := M (20, r, 0) = some (ruE ad r u) ∧ M (21, r, 0) = some (hm_ra g 2 12 (alsA ad r)) ∧ (∀ k, k < 12 → M (22, r, k) = some (alE (al k))) ∧ r < 6 ∧ rLo u < 9 ∧ rW u ≤ 12 ∧ rWa u < 3
def caL (al : Nat → AlD) (le : Int32) : Nat → Nat
  | 0 => 0
  | k + 1 => if (al k).1 < le then caL al le k else caL al le k + 1
def caF (al : Nat → AlD) (le : Int32) : Nat := caL al le 12
def koL (al : Nat → AlD) (pl : Nat) : Nat → Nat → Nat → Int32
  | 0, _, _ => -1
  | n + 1, k, ah => if (al k).1 = 0 then koL al pl n (k + 1) ah else if ah = pl then nI k else koL al pl n (k + 1) (ah + 1)
def koF (al : Nat → AlD) (pl : Nat) : Int32 := koL al pl 12 0 0
/-- a group: loud, told, toldAt, wasLoud -/
abbrev GrD : Type := (Nat → Int32) × (Nat → Int32) × Int32 × Bool
def gLo (d : GrD) : Nat → Int32 := d.1
def gTo (d : GrD) : Nat → Int32 := d.2.1
def gAt (d : GrD) : Int32 := d.2.2.1
def gWa (d : GrD) : Bool := d.2.2.2
abbrev grE (ad : AD) (j : Nat) (d : GrD) : va_E := .inr (2, [.ref (ad (61, j, 0)), .ref (ad (62, j, 0)), .int (gAt d), .int (bI (gWa d))])
def hasGr (g : GV) (ad : AD) (M : CT) (j : Nat) (d : GrD) : Prop := M (60, j, 0) = some (grE ad j d) ∧ M (61, j, 0) = some (hm_ia g 6 (gLo d)) ∧ M (62, j, 0) = some (hm_ia g 6 (gTo d))
def bc1 (x : Int32) : Int32 := x - ((x.toUInt32 >>> ((1 : Int32).toUInt32 &&& Int32.toUInt32 31)).toInt32 &&& 1431655765)
def bc2 (x : Int32) : Int32 := (x &&& 858993459) + ((x.toUInt32 >>> ((2 : Int32).toUInt32 &&& Int32.toUInt32 31)).toInt32 &&& 858993459)
def bc3 (x : Int32) : Int32 := (x + (x.toUInt32 >>> ((4 : Int32).toUInt32 &&& Int32.toUInt32 31)).toInt32) &&& 252645135
def bc4 (x : Int32) : Int32 := x + (x.toUInt32 >>> ((8 : Int32).toUInt32 &&& Int32.toUInt32 31)).toInt32
def bc5 (x : Int32) : Int32 := x + (x.toUInt32 >>> ((16 : Int32).toUInt32 &&& Int32.toUInt32 31)).toInt32
def bcF (x : Int32) : Int32 := bc5 (bc4 (bc3 (bc2 (bc1 x)))) &&& 63
def cgF (f : Nat → Int32) : Int32 := 0 + bcF (f 0) + bcF (f 1) + bcF (f 2) + bcF (f 3) + bcF (f 4) + bcF (f 5)
def nzF (f : Nat → Int32) : Bool := !(decide (f 0 = 0) && decide (f 1 = 0) && decide (f 2 = 0) && decide (f 3 = 0) && decide (f 4 = 0) && decide (f 5 = 0))
def chF (f h : Nat → Int32) : Bool := !(decide (f 0 = h 0) && decide (f 1 = h 1) && decide (f 2 = h 2) && decide (f 3 = h 3) && decide (f 4 = h 4) && decide (f 5 = h 5))
def ilF (d : GrD) : Bool := decide (0 < cgF (gLo d))
def dueF (d : GrD) (clk rep : Int32) : Bool := if ilF d then (if nzF (gTo d) then decide (rep ≤ clk - gAt d) || (decide (3 ≤ clk - gAt d) && chF (gTo d) (gLo d)) else gWa d) else nzF (gTo d)
def mkF (d : GrD) (clk : Int32) : GrD := (gLo d, va_cpy (gLo d) (gTo d) 0 0 6, clk, gWa d)
def fgF (d : GrD) : GrD := (gLo d, zeroP (gTo d), gAt d, false)
def clF (d : GrD) : GrD := (zeroP (gLo d), gTo d, gAt d, gWa d)
def alF (d : GrD) (r k : Nat) : GrD := (upd (gLo d) r (gLo d r ||| 1 <<< (nI k &&& 31)), gTo d, gAt d, gWa d)
/-- the log: rows, latest, held, ever -/
abbrev LgD : Type := (Nat → Nat → Int32) × Nat × Nat × Nat
def lRo (d : LgD) : Nat → Nat → Int32 := d.1
def lLa (d : LgD) : Nat := d.2.1
def lHe (d : LgD) : Nat := d.2.2.1
def lEv (d : LgD) : Nat := d.2.2.2
def rows30 (ad : AD) : Nat → Option Nat := fun j => if j < 30 then some (ad (51, j, 0)) else none
abbrev lgE (ad : AD) (d : LgD) : va_E := .inr (4, [.ref (ad (9, 0, 0)), .int (nI (lLa d)), .int (nI (lHe d)), .int (nI (lEv d))])
def hasLg (g : GV) (ad : AD) (M : CT) (d : LgD) : Prop := M (8, 0, 0) = some (lgE ad d) ∧ M (9, 0, 0) = some (hm_ra g 4 30 (rows30 ad)) ∧ (∀ j, j < 30 → M (51, j, 0) = some (hm_ia g 4 (lRo d j))) ∧ lLa d < 30 ∧ lHe d ≤ 30
def klLa (d : LgD) : Nat := (lLa d + 1) % 30
def klHe (d : LgD) : Nat := min (lHe d + 1) 30
def klRow (d : LgD) (a b c e : Int32) : Nat → Int32 := upd (upd (upd (upd (lRo d (klLa d)) 0 a) 1 b) 2 c) 3 e
def klF (d : LgD) (a b c e : Int32) : LgD := (fun j => if j = klLa d then klRow d a b c e else lRo d j, klLa d, klHe d, lEv d + 1)
def klM (g : GV) (ad : AD) (M : CT) (d : LgD) (a b c e : Int32) : CT := hm_up (hm_up M (8, 0, 0) (lgE ad (klF d a b c e))) (51, klLa d, 0) (hm_ia g 4 (klRow d a b c e))
def foF (d : LgD) (back what : Nat) : Int32 := lRo d ((lLa d + 30 - back) % 30) what
theorem kl_has {g : GV} {ad : AD} {M : CT} {d : LgD} {a b c e : Int32} (hs : hasLg g ad M d) : hasLg g ad (klM g ad M d a b c e) (klF d a b c e) := by
  obtain ⟨h1, h2, h3, hla, hhe⟩ := hs
  refine ⟨?_, ?_, ?_, ?_, ?_⟩
  · rw [klM, hm_up_n (by simp), hm_up_s]
  · rw [klM, hm_up_n (by simp), hm_up_n (by simp), h2]
  · intro j hj
    by_cases h : j = klLa d
    · subst h
      rw [klM, hm_up_s]
      show some (hm_ia g 4 _) = some (hm_ia g 4 ((fun j => if j = klLa d then klRow d a b c e else lRo d j) (klLa d)))
      simp
    · rw [klM, hm_up_n (by simp [h]), hm_up_n (by simp), h3 j hj]
      show some (hm_ia g 4 _) = some (hm_ia g 4 ((fun j => if j = klLa d then klRow d a b c e else lRo d j) j))
      simp [h]
  · exact Nat.mod_lt _ (by decide)
  · show min _ _ ≤ 30; omega
theorem hm_min30 (a : Nat) (h : a ≤ 30) : (if (30 : Int32) < nI (a + 1) then (30 : Int32) else nI (a + 1)) = nI (min (a + 1) 30) := by
  rcases Nat.lt_or_ge 30 (a + 1) with h1 | h1
  · show (if nI 30 < nI (a + 1) then nI 30 else nI (a + 1)) = _
    rw [if_pos (nI_lt (a := 30) h1 (by omega)), Nat.min_eq_right (by omega)]
  · show (if nI 30 < nI (a + 1) then nI 30 else nI (a + 1)) = _
    rw [if_neg (nI_nlt (a := 30) h1 (by omega)), Nat.min_eq_left h1]
theorem hm_sub30 {x y : Nat} (h : y ≤ x + 30) : nI x - nI y + 30 = nI (x + 30 - y) := by
  have h1 : nI x + 30 = nI (x + 30) := nI_add x 30
  rw [← pk_sub h, ← h1]
  simp only [Int32.sub_eq_add_neg]
  rw [Int32.add_assoc, Int32.add_comm (-nI y) 30, ← Int32.add_assoc]

abbrev rm_X4_takes : Room := { frames := 0, cells := 0, slots := 0, locals := 0 }
set_option maxHeartbeats 4000000 in
set_option maxRecDepth 100000 in
theorem c_X4_takes (l : Launch) (g : GV) (ad : AD) (M : CT) (i : Nat) (s0 : SeD) (hs : hasSe g ad M i s0) (r : Nat) (u : RuD) (al : Nat → AlD) (hu : hasRu g ad M r u al) (key : Nat) (hk : key < 12) : hm_Met l yX4_takes cX4_takes 3 (some .boolean) rm_X4_takes g ad M [.ref (ad (20, r, 0)), .ref (ad (10, i, 0)), .int (nI key)] (hm_pU ad M (some (.int (bI (tkF u i s0 key))))) := by
  refine hm_start (own := RX4) (by decide) rfl (Nat.le_of_ble_eq_true rfl) ?_
  intro p e s m args below meth c S hr hlk hnm hE hG ls hl
  have hl : lv_has ls 3 [(0, .ref (ad (20, r, 0))), (1, .ref (ad (10, i, 0))), (2, .int (nI key))] := hl
  obtain ⟨h10, h11, h12, h13, hla, hhe, hi⟩ := id hs
  obtain ⟨h20, h21, h22, hr6, hlo, hw, hwa⟩ := id hu
  refine lv_aload_n S.1 S.2.1 dX4_takes_0 rfl (lv_at hl 1 rfl) ?_
  refine hm_get (k := 2) S hE hG h10 rfl rfl hi_X50 (by decide) hb_347 rfl rfl dX4_takes_1 ?_
  refine lv_aload_n S.1 S.2.1 dX4_takes_4 rfl (lv_at hl 0 rfl) ?_
  refine hm_get (k := 1) S hE hG h20 rfl rfl hi_X40 (by decide) hb_191 rfl rfl dX4_takes_5 ?_
  refine lv_icmp_eq (tgt := 13) S.1 S.2.1 dX4_takes_8 (by decide) (fun c8 => ?_) (fun c8 => ?_)
  · skip
    refine lv_aload_n S.1 S.2.1 dX4_takes_13 rfl (lv_at hl 0 rfl) ?_
    refine hm_get (k := 4) S hE hG h20 rfl rfl hi_X40 (by decide) hb_194 rfl rfl dX4_takes_14 ?_
    have e8 : sMe s0 = rMe u := by simpa using c8
    rcases (show rWa u = 0 ∨ rWa u = 1 ∨ rWa u = 2 by omega) with ew | ew | ew
    · skip
      refine hm_top (z := 0) (by rw [ew]; rfl) ?_
      refine lv_lookup (off := 27) (tgt := 44) S.1 S.2.1 dX4_takes_17 (by decide) (by decide) (by decide) ?_
      refine lv_aload_n S.1 S.2.1 dX4_takes_44 rfl (lv_at hl 1 rfl) ?_
      refine hm_get (k := 0) S hE hG h10 rfl rfl hi_X50 (by decide) hb_348 rfl rfl dX4_takes_45 ?_
      refine lv_iload_n S.1 S.2.1 dX4_takes_48 rfl (lv_at hl 2 rfl) ?_
      refine lv_icmp_ne (tgt := 56) S.1 S.2.1 dX4_takes_49 (by decide) (fun c49 => ?_) (fun c49 => ?_)
      · skip
        have e49 : ¬ i = key := fun h => c49 (by rw [h])
        refine lv_iconst (v := 0) S.1 S.2.1 dX4_takes_56 (by decide) ?_
        exact hm_zret S hG hr hlk (by decide) (⟨by simp_all [tkF, bI], rfl, rfl⟩) (Nat.le_of_ble_eq_true rfl) (Nat.le_of_ble_eq_true rfl) dX4_takes_57
      · skip
        have e49 : i = key := hm_eqI (by omega) (by omega) (by simpa using c49)
        refine lv_iconst (v := 1) S.1 S.2.1 dX4_takes_52 (by decide) ?_
        refine lv_goto (tgt := 57) S.1 S.2.1 dX4_takes_53 (by decide) ?_
        exact hm_zret S hG hr hlk (by decide) (⟨by simp_all [tkF, bI], rfl, rfl⟩) (Nat.le_of_ble_eq_true rfl) (Nat.le_of_ble_eq_true rfl) dX4_takes_57
    · skip
      refine hm_top (z := 1) (by rw [ew]; rfl) ?_
      refine lv_lookup (off := 41) (tgt := 58) S.1 S.2.1 dX4_takes_17 (by decide) (by decide) (by decide) ?_
      refine lv_aload_n S.1 S.2.1 dX4_takes_58 rfl (lv_at hl 1 rfl) ?_
      refine hm_get (k := 3) S hE hG h10 rfl rfl hi_X50 (by decide) hb_349 rfl rfl dX4_takes_59 ?_
      refine lv_iload_n S.1 S.2.1 dX4_takes_62 rfl (lv_at hl 2 rfl) ?_
      refine lv_icmp_ne (tgt := 70) S.1 S.2.1 dX4_takes_63 (by decide) (fun c63 => ?_) (fun c63 => ?_)
      · skip
        refine lv_iconst (v := 0) S.1 S.2.1 dX4_takes_70 (by decide) ?_
        exact hm_zret S hG hr hlk (by decide) (⟨by simp_all [tkF, bI], rfl, rfl⟩) (Nat.le_of_ble_eq_true rfl) (Nat.le_of_ble_eq_true rfl) dX4_takes_71
      · skip
        refine lv_iconst (v := 1) S.1 S.2.1 dX4_takes_66 (by decide) ?_
        refine lv_goto (tgt := 71) S.1 S.2.1 dX4_takes_67 (by decide) ?_
        exact hm_zret S hG hr hlk (by decide) (⟨by simp_all [tkF, bI], rfl, rfl⟩) (Nat.le_of_ble_eq_true rfl) (Nat.le_of_ble_eq_true rfl) dX4_takes_71
    · skip
      refine hm_top (z := 2) (by rw [ew]; rfl) ?_
      refine lv_lookup (off := 55) (tgt := 72) S.1 S.2.1 dX4_takes_17 (by decide) (by decide) (by decide) ?_
      refine lv_iload_n S.1 S.2.1 dX4_takes_72 rfl (lv_at hl 2 rfl) ?_
      refine lv_if_ne (tgt := 80) S.1 S.2.1 dX4_takes_73 (by decide) (fun c73 => ?_) (fun c73 => ?_)
      · skip
        have e73 : ¬ key = 0 := fun h => c73 (by rw [h]; rfl)
        refine lv_iconst (v := 0) S.1 S.2.1 dX4_takes_80 (by decide) ?_
        exact hm_zret S hG hr hlk (by decide) (⟨by simp_all [tkF, bI], rfl, rfl⟩) (Nat.le_of_ble_eq_true rfl) (Nat.le_of_ble_eq_true rfl) dX4_takes_81
      · skip
        have e73 : key = 0 := hm_eqI (b := 0) (by omega) (by omega) c73
        refine lv_iconst (v := 1) S.1 S.2.1 dX4_takes_76 (by decide) ?_
        refine lv_goto (tgt := 81) S.1 S.2.1 dX4_takes_77 (by decide) ?_
        exact hm_zret S hG hr hlk (by decide) (⟨by simp_all [tkF, bI], rfl, rfl⟩) (Nat.le_of_ble_eq_true rfl) (Nat.le_of_ble_eq_true rfl) dX4_takes_81
  · skip
    refine lv_iconst (v := 0) S.1 S.2.1 dX4_takes_11 (by decide) ?_
    exact hm_zret S hG hr hlk (by decide) (⟨by simp_all [tkF, bI], rfl, rfl⟩) (Nat.le_of_ble_eq_true rfl) (Nat.le_of_ble_eq_true rfl) dX4_takes_12

abbrev rm_X4_isBeyond : Room := { frames := 0, cells := 0, slots := 0, locals := 0 }
set_option maxHeartbeats 4000000 in
set_option maxRecDepth 100000 in
theorem c_X4_isBeyond (l : Launch) (g : GV) (ad : AD) (M : CT) (r : Nat) (u : RuD) (al : Nat → AlD) (hu : hasRu g ad M r u al) (v b : Int32) : hm_Met l yX4_isBeyond cX4_isBeyond 3 (some .boolean) rm_X4_isBeyond g ad M [.ref (ad (20, r, 0)), .int v, .int b] (hm_pU ad M (some (.int (bI (byF u v b))))) := by
  refine hm_start (own := RX4) (by decide) rfl (Nat.le_of_ble_eq_true rfl) ?_
  intro p e s m args below meth c S hr hlk hnm hE hG ls hl
  have hl : lv_has ls 3 [(0, .ref (ad (20, r, 0))), (1, .int v), (2, .int b)] := hl
  obtain ⟨h20, h21, h22, hr6, hlo, hw, hwa⟩ := id hu
  refine lv_aload_n S.1 S.2.1 dX4_isBeyond_0 rfl (lv_at hl 0 rfl) ?_
  refine hm_get (k := 5) S hE hG h20 rfl rfl hi_X40 (by decide) hb_390 rfl rfl dX4_isBeyond_1 ?_
  refine lv_if_eq (tgt := 20) S.1 S.2.1 dX4_isBeyond_4 (by decide) (fun c4 => ?_) (fun c4 => ?_)
  · skip
    have g0 : rAb u = false := bI_0.mp c4
    refine lv_iload_n S.1 S.2.1 dX4_isBeyond_20 rfl (lv_at hl 1 rfl) ?_
    refine lv_iload_n S.1 S.2.1 dX4_isBeyond_21 rfl (lv_at hl 2 rfl) ?_
    refine lv_icmp_ge (tgt := 29) S.1 S.2.1 dX4_isBeyond_22 (by decide) (fun c22 => ?_) (fun c22 => ?_)
    · skip
      have g9 : ¬ v < b := Int32.not_lt.mpr c22
      refine lv_iconst (v := 0) S.1 S.2.1 dX4_isBeyond_29 (by decide) ?_
      exact hm_zret S hG hr hlk (by decide) (⟨by simp [byF, bI, g0, *], rfl, rfl⟩) (Nat.le_of_ble_eq_true rfl) (Nat.le_of_ble_eq_true rfl) dX4_isBeyond_30
    · skip
      have g9 : v < b := Int32.not_le.mp c22
      refine lv_iconst (v := 1) S.1 S.2.1 dX4_isBeyond_25 (by decide) ?_
      refine lv_goto (tgt := 30) S.1 S.2.1 dX4_isBeyond_26 (by decide) ?_
      exact hm_zret S hG hr hlk (by decide) (⟨by simp [byF, bI, g0, *], rfl, rfl⟩) (Nat.le_of_ble_eq_true rfl) (Nat.le_of_ble_eq_true rfl) dX4_isBeyond_30
  · skip
    have g0 : rAb u = true := bI_ne.mp c4
    refine lv_iload_n S.1 S.2.1 dX4_isBeyond_7 rfl (lv_at hl 1 rfl) ?_
    refine lv_iload_n S.1 S.2.1 dX4_isBeyond_8 rfl (lv_at hl 2 rfl) ?_
    refine lv_icmp_le (tgt := 16) S.1 S.2.1 dX4_isBeyond_9 (by decide) (fun c9 => ?_) (fun c9 => ?_)
    · skip
      have g9 : ¬ b < v := Int32.not_lt.mpr c9
      refine lv_iconst (v := 0) S.1 S.2.1 dX4_isBeyond_16 (by decide) ?_
      refine lv_goto (tgt := 30) S.1 S.2.1 dX4_isBeyond_17 (by decide) ?_
      exact hm_zret S hG hr hlk (by decide) (⟨by simp [byF, bI, g0, *], rfl, rfl⟩) (Nat.le_of_ble_eq_true rfl) (Nat.le_of_ble_eq_true rfl) dX4_isBeyond_30
    · skip
      have g9 : b < v := Int32.not_le.mp c9
      refine lv_iconst (v := 1) S.1 S.2.1 dX4_isBeyond_12 (by decide) ?_
      refine lv_goto (tgt := 30) S.1 S.2.1 dX4_isBeyond_13 (by decide) ?_
      exact hm_zret S hG hr hlk (by decide) (⟨by simp [byF, bI, g0, *], rfl, rfl⟩) (Nat.le_of_ble_eq_true rfl) (Nat.le_of_ble_eq_true rfl) dX4_isBeyond_30

abbrev rm_X4_alertOf : Room := { frames := 1, cells := 0, slots := 0, locals := 22 }
set_option maxHeartbeats 4000000 in
set_option maxRecDepth 100000 in
theorem c_X4_alertOf (l : Launch) (g : GV) (ad : AD) (M : CT) (r : Nat) (u : RuD) (al : Nat → AlD) (hu : hasRu g ad M r u al) (k : Nat) (hk : k < 12) : hm_Met l yX4_alertOf cX4_alertOf 2 (some (.object "HarbourlightMonitor$Alert")) rm_X4_alertOf g ad M [.ref (ad (20, r, 0)), .int (nI k)] (hm_pU ad M (some (.ref (ad (22, r, k))))) := by
  refine hm_start (own := RX4) (by decide) rfl (Nat.le_of_ble_eq_true rfl) ?_
  intro p e s m args below meth c S hr hlk hnm hE hG ls hl
  have hl : lv_has ls 2 [(0, .ref (ad (20, r, 0))), (1, .int (nI k))] := hl
  obtain ⟨h20, h21, h22, hr6, hlo, hw, hwa⟩ := id hu
  refine lv_iload_n S.1 S.2.1 dX4_alertOf_0 rfl (lv_at hl 1 rfl) ?_
  refine lv_iconst (v := 0) S.1 S.2.1 dX4_alertOf_1 (by decide) ?_
  refine lv_bipush (v := 11) S.1 S.2.1 dX4_alertOf_2 (by decide) ?_
  refine hm_uSN (As := [.int (nI k), .int 0, .int 11]) (rest := []) (st1 := [.int (bI (decide ((nI k) < 0) || decide (11 < (nI k))))]) S hE hG (c_X6_isOutside l g ad M (nI k) 0 11) hb_93 hb_2 hb_92 (List.mem_of_getElem? (i := 5) rfl) hd_X6_isOutside ⟨Nat.le_of_ble_eq_true rfl, Nat.le_of_ble_eq_true rfl⟩ rfl hl.1 rfl (Nat.le_of_ble_eq_true rfl) dX4_alertOf_4 ⟨Nat.le_of_ble_eq_true rfl, Nat.le_of_ble_eq_true rfl⟩ rfl (fun H locs hG => ?_)
  refine lv_if_eq (tgt := 14) S.1 S.2.1 dX4_alertOf_7 (by decide) (fun _ => ?_) (fun h9 => absurd (hm_in0 (b := 11) (by omega) (by decide)) h9)
  refine lv_aload_n S.1 S.2.1 dX4_alertOf_14 rfl (lv_at hl 0 rfl) ?_
  refine hm_get (k := 9) S hE hG h20 rfl rfl hi_X40 (by decide) hb_189 rfl rfl dX4_alertOf_15 ?_
  refine lv_iload_n S.1 S.2.1 dX4_alertOf_18 rfl (lv_at hl 1 rfl) ?_
  refine hm_aldq (q := (ad (22, r, k))) S hE hG h21 rfl rfl (vp_in_nI (n := k) hk (by decide)) (by rw [nI_clamp (Nat.lt_trans hk (by decide))]; exact if_pos hk) dX4_alertOf_19 ?_
  exact hm_aret S hG hr (Or.inl ⟨_, rfl⟩) hlk (⟨rfl, rfl, rfl⟩) (Nat.le_of_ble_eq_true rfl) (Nat.le_of_ble_eq_true rfl) dX4_alertOf_20

abbrev rm_X4_hasAlert : Room := { frames := 2, cells := 0, slots := 0, locals := 43 }
set_option maxHeartbeats 4000000 in
set_option maxRecDepth 100000 in
theorem c_X4_hasAlert (l : Launch) (g : GV) (ad : AD) (M : CT) (r : Nat) (u : RuD) (al : Nat → AlD) (hu : hasRu g ad M r u al) (k : Nat) (hk : k < 12) : hm_Met l yX4_hasAlert cX4_hasAlert 3 (some .boolean) rm_X4_hasAlert g ad M [.ref (ad (20, r, 0)), .int (nI k)] (hm_pU ad M (some (.int (bI (!decide ((al k).1 = 0)))))) := by
  refine hm_start (own := RX4) (by decide) rfl (Nat.le_of_ble_eq_true rfl) ?_
  intro p e s m args below meth c S hr hlk hnm hE hG ls hl
  have hl : lv_has ls 3 [(0, .ref (ad (20, r, 0))), (1, .int (nI k))] := hl
  obtain ⟨h20, h21, h22, hr6, hlo, hw, hwa⟩ := id hu
  refine lv_aload_n S.1 S.2.1 dX4_hasAlert_0 rfl (lv_at hl 0 rfl) ?_
  refine lv_iload_n S.1 S.2.1 dX4_hasAlert_1 rfl (lv_at hl 1 rfl) ?_
  refine hm_uV (As := [.int (nI k)]) (rest := []) (st1 := [.ref (ad (22, r, k))]) S hE hG (c_X4_alertOf l g ad M r u al hu k hk) (hm_gV hb_289 hb_290 hb_291 hb_170 hb_292) hd_X4_alertOf rfl h20 rfl rfl ⟨Nat.le_of_ble_eq_true rfl, Nat.le_of_ble_eq_true rfl⟩ rfl hl.1 rfl (Nat.le_of_ble_eq_true rfl) dX4_hasAlert_2 ⟨Nat.le_of_ble_eq_true rfl, Nat.le_of_ble_eq_true rfl⟩ rfl (fun H locs hG => ?_)
  refine lv_astore_n (lv' := [(2, .ref (ad (22, r, k))), (0, .ref (ad (20, r, 0))), (1, .int (nI k))]) S.1 S.2.1 dX4_hasAlert_5 rfl hl (by decide) rfl (fun ls hl => ?_)
  refine lv_aload_n S.1 S.2.1 dX4_hasAlert_6 rfl (lv_at hl 0 rfl) ?_
  refine lv_ifnull S.1 S.2.1 dX4_hasAlert_7 ?_
  refine lv_aload_n S.1 S.2.1 dX4_hasAlert_10 rfl (lv_at hl 0 rfl) ?_
  refine hm_get (k := 0) S hE hG (h22 k hk) rfl rfl hi_X00 (by decide) hb_275 rfl rfl dX4_hasAlert_11 ?_
  refine lv_if_eq (tgt := 21) S.1 S.2.1 dX4_hasAlert_14 (by decide) (fun c14 => ?_) (fun c14 => ?_)
  · skip
    refine lv_iconst (v := 0) S.1 S.2.1 dX4_hasAlert_21 (by decide) ?_
    exact hm_zret S hG hr hlk (by decide) (⟨by simp_all [bI], rfl, rfl⟩) (Nat.le_of_ble_eq_true rfl) (Nat.le_of_ble_eq_true rfl) dX4_hasAlert_22
  · skip
    refine lv_iconst (v := 1) S.1 S.2.1 dX4_hasAlert_17 (by decide) ?_
    refine lv_goto (tgt := 22) S.1 S.2.1 dX4_hasAlert_18 (by decide) ?_
    exact hm_zret S hG hr hlk (by decide) (⟨by simp_all [bI], rfl, rfl⟩) (Nat.le_of_ble_eq_true rfl) (Nat.le_of_ble_eq_true rfl) dX4_hasAlert_22

abbrev rm_X4_burns : Room := { frames := 2, cells := 0, slots := 0, locals := 43 }
set_option maxHeartbeats 4000000 in
set_option maxRecDepth 100000 in
theorem c_X4_burns (l : Launch) (g : GV) (ad : AD) (M : CT) (r : Nat) (u : RuD) (al : Nat → AlD) (hu : hasRu g ad M r u al) (k : Nat) (hk : k < 12) : hm_Met l yX4_burns cX4_burns 3 (some .boolean) rm_X4_burns g ad M [.ref (ad (20, r, 0)), .int (nI k)] (hm_pU ad M (some (.int (bI (decide ((al k).1 = 2)))))) := by
  refine hm_start (own := RX4) (by decide) rfl (Nat.le_of_ble_eq_true rfl) ?_
  intro p e s m args below meth c S hr hlk hnm hE hG ls hl
  have hl : lv_has ls 3 [(0, .ref (ad (20, r, 0))), (1, .int (nI k))] := hl
  obtain ⟨h20, h21, h22, hr6, hlo, hw, hwa⟩ := id hu
  refine lv_aload_n S.1 S.2.1 dX4_burns_0 rfl (lv_at hl 0 rfl) ?_
  refine lv_iload_n S.1 S.2.1 dX4_burns_1 rfl (lv_at hl 1 rfl) ?_
  refine hm_uV (As := [.int (nI k)]) (rest := []) (st1 := [.ref (ad (22, r, k))]) S hE hG (c_X4_alertOf l g ad M r u al hu k hk) (hm_gV hb_289 hb_290 hb_291 hb_170 hb_292) hd_X4_alertOf rfl h20 rfl rfl ⟨Nat.le_of_ble_eq_true rfl, Nat.le_of_ble_eq_true rfl⟩ rfl hl.1 rfl (Nat.le_of_ble_eq_true rfl) dX4_burns_2 ⟨Nat.le_of_ble_eq_true rfl, Nat.le_of_ble_eq_true rfl⟩ rfl (fun H locs hG => ?_)
  refine lv_astore_n (lv' := [(2, .ref (ad (22, r, k))), (0, .ref (ad (20, r, 0))), (1, .int (nI k))]) S.1 S.2.1 dX4_burns_5 rfl hl (by decide) rfl (fun ls hl => ?_)
  refine lv_aload_n S.1 S.2.1 dX4_burns_6 rfl (lv_at hl 0 rfl) ?_
  refine lv_ifnull S.1 S.2.1 dX4_burns_7 ?_
  refine lv_aload_n S.1 S.2.1 dX4_burns_10 rfl (lv_at hl 0 rfl) ?_
  refine hm_get (k := 0) S hE hG (h22 k hk) rfl rfl hi_X00 (by decide) hb_275 rfl rfl dX4_burns_11 ?_
  refine lv_iconst (v := 2) S.1 S.2.1 dX4_burns_14 (by decide) ?_
  refine lv_icmp_ne (tgt := 22) S.1 S.2.1 dX4_burns_15 (by decide) (fun c15 => ?_) (fun c15 => ?_)
  · skip
    refine lv_iconst (v := 0) S.1 S.2.1 dX4_burns_22 (by decide) ?_
    exact hm_zret S hG hr hlk (by decide) (⟨by simp_all [bI], rfl, rfl⟩) (Nat.le_of_ble_eq_true rfl) (Nat.le_of_ble_eq_true rfl) dX4_burns_23
  · skip
    refine lv_iconst (v := 1) S.1 S.2.1 dX4_burns_18 (by decide) ?_
    refine lv_goto (tgt := 23) S.1 S.2.1 dX4_burns_19 (by decide) ?_
    exact hm_zret S hG hr hlk (by decide) (⟨by simp_all [bI], rfl, rfl⟩) (Nat.le_of_ble_eq_true rfl) (Nat.le_of_ble_eq_true rfl) dX4_burns_23

abbrev rm_X4_countAlertsFrom : Room := { frames := 0, cells := 0, slots := 0, locals := 0 }
set_option maxHeartbeats 4000000 in
set_option maxRecDepth 100000 in
theorem c_X4_countAlertsFrom (l : Launch) (g : GV) (ad : AD) (M : CT) (r : Nat) (u : RuD) (al : Nat → AlD) (hu : hasRu g ad M r u al) (le : Int32) : hm_Met l yX4_countAlertsFrom cX4_countAlertsFrom 4 (some .int) rm_X4_countAlertsFrom g ad M [.ref (ad (20, r, 0)), .int le] (hm_pU ad M (some (.int (nI (caF al le))))) := by
  refine hm_start (own := RX4) (by decide) rfl (Nat.le_of_ble_eq_true rfl) ?_
  intro p e s m args below meth c S hr hlk hnm hE hG ls hl
  have hl : lv_has ls 4 [(0, .ref (ad (20, r, 0))), (1, .int le)] := hl
  obtain ⟨h20, h21, h22, hr6, hlo, hw, hwa⟩ := id hu
  refine lv_iconst (v := 0) S.1 S.2.1 dX4_countAlertsFrom_0 (by decide) ?_
  refine lv_istore_n (lv' := [(2, .int 0), (0, .ref (ad (20, r, 0))), (1, .int le)]) S.1 S.2.1 dX4_countAlertsFrom_1 rfl hl (by decide) rfl (fun ls hl => ?_)
  refine lv_iconst (v := 0) S.1 S.2.1 dX4_countAlertsFrom_2 (by decide) ?_
  refine lv_istore_n (lv' := [(3, .int 0), (2, .int 0), (0, .ref (ad (20, r, 0))), (1, .int le)]) S.1 S.2.1 dX4_countAlertsFrom_3 rfl hl (by decide) rfl (fun ls hl => ?_)
  have L4_0 : ∀ (n : Nat) (k : Nat), n + k = 12 → ∀ (H : Heap) (locs : List Loc) (ls : Array Slot), hm_G g ad M s.heap H locs → lv_has ls 4 [(0, .ref (ad (20, r, 0))), (1, .int le), (2, .int (nI (caL al le k))), (3, .int (nI k))] → W p l e rm_X4_countAlertsFrom s m args below meth c H locs 0 0 (MQ below (hm_Q g (hm_pU ad M (some (.int (nI (caF al le)))))) args s rm_X4_countAlertsFrom.cells rm_X4_countAlertsFrom.slots (hm_A g)) (F0 m 4 ls []) := by
    intro n
    induction n with
    | zero =>
      intro k hk0 H locs ls hG hl
      obtain rfl : k = 12 := by omega
      refine lv_iload_n S.1 S.2.1 dX4_countAlertsFrom_4 rfl (lv_at hl 3 rfl) ?_
      refine lv_bipush (v := 12) S.1 S.2.1 dX4_countAlertsFrom_5 (by decide) ?_
      refine lv_icmp_ge (tgt := 32) S.1 S.2.1 dX4_countAlertsFrom_7 (by decide) (fun _ => ?_) (fun h9 => absurd (by decide) h9)
      refine lv_iload_n S.1 S.2.1 dX4_countAlertsFrom_32 rfl (lv_at hl 2 rfl) ?_
      exact hm_iret S hG hr hlk (⟨rfl, rfl, rfl⟩) (Nat.le_of_ble_eq_true rfl) (Nat.le_of_ble_eq_true rfl) dX4_countAlertsFrom_33
    | succ n ih =>
      intro k hk0 H locs ls hG hl
      have hk : k < 12 := by omega
      refine lv_iload_n S.1 S.2.1 dX4_countAlertsFrom_4 rfl (lv_at hl 3 rfl) ?_
      refine lv_bipush (v := 12) S.1 S.2.1 dX4_countAlertsFrom_5 (by decide) ?_
      refine lv_icmp_ge (tgt := 32) S.1 S.2.1 dX4_countAlertsFrom_7 (by decide) (fun h9 => absurd h9 (nI_ge (b := 12) hk (by decide))) (fun _ => ?_)
      refine lv_aload_n S.1 S.2.1 dX4_countAlertsFrom_10 rfl (lv_at hl 0 rfl) ?_
      refine hm_get (k := 9) S hE hG h20 rfl rfl hi_X40 (by decide) hb_189 rfl rfl dX4_countAlertsFrom_11 ?_
      refine lv_iload_n S.1 S.2.1 dX4_countAlertsFrom_14 rfl (lv_at hl 3 rfl) ?_
      refine hm_aldq (q := (ad (22, r, k))) S hE hG h21 rfl rfl (vp_in_nI (n := k) hk (by decide)) (by rw [nI_clamp (Nat.lt_trans hk (by decide))]; exact if_pos hk) dX4_countAlertsFrom_15 ?_
      refine hm_get (k := 0) S hE hG (h22 k hk) rfl rfl hi_X00 (by decide) hb_275 rfl rfl dX4_countAlertsFrom_16 ?_
      refine lv_iload_n S.1 S.2.1 dX4_countAlertsFrom_19 rfl (lv_at hl 1 rfl) ?_
      refine lv_icmp_lt (tgt := 26) S.1 S.2.1 dX4_countAlertsFrom_20 (by decide) (fun c20 => ?_) (fun c20 => ?_)
      · skip
        have e20 : caL al le (k + 1) = caL al le k := by rw [caL, if_pos c20]
        rw [← e20] at hl
        refine lv_iinc (v := nI (k + 1)) (lv' := [(3, .int (nI (k + 1))), (0, .ref (ad (20, r, 0))), (1, .int le), (2, .int (nI (caL al le (k + 1))))]) S.1 S.2.1 dX4_countAlertsFrom_26 hl (k := 3) rfl (nI_1 k) (by decide) rfl (fun ls hl => ?_)
        refine lv_goto (tgt := 4) S.1 S.2.1 dX4_countAlertsFrom_29 (by decide) ?_
        exact ih (k + 1) (by omega) _ _ _ hG (lv_sub hl [1, 2, 3, 0] rfl)
      · skip
        refine lv_iinc (v := nI (caL al le (k + 1))) (lv' := [(2, .int (nI (caL al le (k + 1)))), (0, .ref (ad (20, r, 0))), (1, .int le), (3, .int (nI k))]) S.1 S.2.1 dX4_countAlertsFrom_23 hl (k := 2) rfl (by rw [caL, if_neg c20]; exact nI_1 _) (by decide) rfl (fun ls hl => ?_)
        refine lv_iinc (v := nI (k + 1)) (lv' := [(3, .int (nI (k + 1))), (2, .int (nI (caL al le (k + 1)))), (0, .ref (ad (20, r, 0))), (1, .int le)]) S.1 S.2.1 dX4_countAlertsFrom_26 hl (k := 3) rfl (nI_1 k) (by decide) rfl (fun ls hl => ?_)
        refine lv_goto (tgt := 4) S.1 S.2.1 dX4_countAlertsFrom_29 (by decide) ?_
        exact ih (k + 1) (by omega) _ _ _ hG (lv_sub hl [2, 3, 1, 0] rfl)
  exact L4_0 12 0 rfl _ _ _ hG (lv_sub hl [2, 3, 1, 0] rfl)

abbrev rm_X4_keyOfAlert : Room := { frames := 0, cells := 0, slots := 0, locals := 0 }
set_option maxHeartbeats 4000000 in
set_option maxRecDepth 100000 in
theorem c_X4_keyOfAlert (l : Launch) (g : GV) (ad : AD) (M : CT) (r : Nat) (u : RuD) (al : Nat → AlD) (hu : hasRu g ad M r u al) (pl : Nat) (hpl : pl < 1000) : hm_Met l yX4_keyOfAlert cX4_keyOfAlert 4 (some .int) rm_X4_keyOfAlert g ad M [.ref (ad (20, r, 0)), .int (nI pl)] (hm_pU ad M (some (.int (koF al pl)))) := by
  refine hm_start (own := RX4) (by decide) rfl (Nat.le_of_ble_eq_true rfl) ?_
  intro p e s m args below meth c S hr hlk hnm hE hG ls hl
  have hl : lv_has ls 4 [(0, .ref (ad (20, r, 0))), (1, .int (nI pl))] := hl
  obtain ⟨h20, h21, h22, hr6, hlo, hw, hwa⟩ := id hu
  refine lv_iconst (v := 0) S.1 S.2.1 dX4_keyOfAlert_0 (by decide) ?_
  refine lv_istore_n (lv' := [(2, .int 0), (0, .ref (ad (20, r, 0))), (1, .int (nI pl))]) S.1 S.2.1 dX4_keyOfAlert_1 rfl hl (by decide) rfl (fun ls hl => ?_)
  refine lv_iconst (v := 0) S.1 S.2.1 dX4_keyOfAlert_2 (by decide) ?_
  refine lv_istore_n (lv' := [(3, .int 0), (2, .int 0), (0, .ref (ad (20, r, 0))), (1, .int (nI pl))]) S.1 S.2.1 dX4_keyOfAlert_3 rfl hl (by decide) rfl (fun ls hl => ?_)
  have L4_0 : ∀ (n : Nat) (k : Nat) (ah : Nat), koL al pl n k ah = koF al pl → n + k = 12 → ah ≤ k → ∀ (H : Heap) (locs : List Loc) (ls : Array Slot), hm_G g ad M s.heap H locs → lv_has ls 4 [(0, .ref (ad (20, r, 0))), (1, .int (nI pl)), (2, .int (nI ah)), (3, .int (nI k))] → W p l e rm_X4_keyOfAlert s m args below meth c H locs 0 0 (MQ below (hm_Q g (hm_pU ad M (some (.int (koF al pl))))) args s rm_X4_keyOfAlert.cells rm_X4_keyOfAlert.slots (hm_A g)) (F0 m 4 ls []) := by
    intro n
    induction n with
    | zero =>
      intro k ah hF hk0 hah H locs ls hG hl
      obtain rfl : k = 12 := by omega
      refine lv_iload_n S.1 S.2.1 dX4_keyOfAlert_4 rfl (lv_at hl 3 rfl) ?_
      refine lv_bipush (v := 12) S.1 S.2.1 dX4_keyOfAlert_5 (by decide) ?_
      refine lv_icmp_ge (tgt := 38) S.1 S.2.1 dX4_keyOfAlert_7 (by decide) (fun _ => ?_) (fun h9 => absurd (by decide) h9)
      refine lv_iconst (v := (-1)) S.1 S.2.1 dX4_keyOfAlert_38 (by decide) ?_
      exact hm_iret S hG hr hlk (⟨by rw [← hF]; rfl, rfl, rfl⟩) (Nat.le_of_ble_eq_true rfl) (Nat.le_of_ble_eq_true rfl) dX4_keyOfAlert_39
    | succ n ih =>
      intro k ah hF hk0 hah H locs ls hG hl
      have hk : k < 12 := by omega
      refine lv_iload_n S.1 S.2.1 dX4_keyOfAlert_4 rfl (lv_at hl 3 rfl) ?_
      refine lv_bipush (v := 12) S.1 S.2.1 dX4_keyOfAlert_5 (by decide) ?_
      refine lv_icmp_ge (tgt := 38) S.1 S.2.1 dX4_keyOfAlert_7 (by decide) (fun h9 => absurd h9 (nI_ge (b := 12) hk (by decide))) (fun _ => ?_)
      refine lv_aload_n S.1 S.2.1 dX4_keyOfAlert_10 rfl (lv_at hl 0 rfl) ?_
      refine hm_get (k := 9) S hE hG h20 rfl rfl hi_X40 (by decide) hb_189 rfl rfl dX4_keyOfAlert_11 ?_
      refine lv_iload_n S.1 S.2.1 dX4_keyOfAlert_14 rfl (lv_at hl 3 rfl) ?_
      refine hm_aldq (q := (ad (22, r, k))) S hE hG h21 rfl rfl (vp_in_nI (n := k) hk (by decide)) (by rw [nI_clamp (Nat.lt_trans hk (by decide))]; exact if_pos hk) dX4_keyOfAlert_15 ?_
      refine hm_get (k := 0) S hE hG (h22 k hk) rfl rfl hi_X00 (by decide) hb_275 rfl rfl dX4_keyOfAlert_16 ?_
      refine lv_if_eq (tgt := 32) S.1 S.2.1 dX4_keyOfAlert_19 (by decide) (fun c19 => ?_) (fun c19 => ?_)
      · skip
        refine lv_iinc (v := nI (k + 1)) (lv' := [(3, .int (nI (k + 1))), (0, .ref (ad (20, r, 0))), (1, .int (nI pl)), (2, .int (nI ah))]) S.1 S.2.1 dX4_keyOfAlert_32 hl (k := 3) rfl (nI_1 k) (by decide) rfl (fun ls hl => ?_)
        refine lv_goto (tgt := 4) S.1 S.2.1 dX4_keyOfAlert_35 (by decide) ?_
        exact ih (k + 1) ah (by rw [← hF, koL, if_pos c19]) (by omega) (by omega) _ _ _ hG (lv_sub hl [1, 2, 3, 0] rfl)
      · skip
        refine lv_iload_n S.1 S.2.1 dX4_keyOfAlert_22 rfl (lv_at hl 2 rfl) ?_
        refine lv_iload_n S.1 S.2.1 dX4_keyOfAlert_23 rfl (lv_at hl 1 rfl) ?_
        refine lv_icmp_ne (tgt := 29) S.1 S.2.1 dX4_keyOfAlert_24 (by decide) (fun c24 => ?_) (fun c24 => ?_)
        · skip
          refine lv_iinc (v := nI (ah + 1)) (lv' := [(2, .int (nI (ah + 1))), (0, .ref (ad (20, r, 0))), (1, .int (nI pl)), (3, .int (nI k))]) S.1 S.2.1 dX4_keyOfAlert_29 hl (k := 2) rfl (nI_1 ah) (by decide) rfl (fun ls hl => ?_)
          refine lv_iinc (v := nI (k + 1)) (lv' := [(3, .int (nI (k + 1))), (2, .int (nI (ah + 1))), (0, .ref (ad (20, r, 0))), (1, .int (nI pl))]) S.1 S.2.1 dX4_keyOfAlert_32 hl (k := 3) rfl (nI_1 k) (by decide) rfl (fun ls hl => ?_)
          refine lv_goto (tgt := 4) S.1 S.2.1 dX4_keyOfAlert_35 (by decide) ?_
          exact ih (k + 1) (ah + 1) (by rw [← hF, koL, if_neg c19, if_neg (fun h => c24 (by rw [h]))]) (by omega) (by omega) _ _ _ hG (lv_sub hl [2, 3, 1, 0] rfl)
        · skip
          refine lv_iload_n S.1 S.2.1 dX4_keyOfAlert_27 rfl (lv_at hl 3 rfl) ?_
          exact hm_iret S hG hr hlk (⟨by rw [← hF, koL, if_neg c19, if_pos (hm_eqI (by omega) (by omega) (by simpa using c24))], rfl, rfl⟩) (Nat.le_of_ble_eq_true rfl) (Nat.le_of_ble_eq_true rfl) dX4_keyOfAlert_28
  exact L4_0 12 0 0 rfl rfl (by decide) _ _ _ hG (lv_sub hl [2, 3, 1, 0] rfl)

abbrev rm_J6_bitCount_0f7a4 : Room := { frames := 0, cells := 0, slots := 0, locals := 0 }
set_option maxHeartbeats 4000000 in
set_option maxRecDepth 100000 in
theorem c_J6_bitCount_0f7a4 (l : Launch) (g : GV) (ad : AD) (M : CT) (x : Int32) : hm_Met l yJ6_bitCount_0f7a4 cJ6_bitCount_0f7a4 1 (some .int) rm_J6_bitCount_0f7a4 g ad M [.int x] (hm_pU ad M (some (.int (bcF x)))) := by
  refine hm_start (own := RJ6) (by decide) rfl (Nat.le_of_ble_eq_true rfl) ?_
  intro p e s m args below meth c S hr hlk hnm hE hG ls hl
  have hl : lv_has ls 1 [(0, .int x)] := hl
  refine lv_iload_n S.1 S.2.1 dJ6_bitCount_0f7a4_0 rfl (lv_at hl 0 rfl) ?_
  refine lv_iload_n S.1 S.2.1 dJ6_bitCount_0f7a4_1 rfl (lv_at hl 0 rfl) ?_
  refine lv_iconst (v := 1) S.1 S.2.1 dJ6_bitCount_0f7a4_2 (by decide) ?_
  refine lv_iushr S.1 S.2.1 dJ6_bitCount_0f7a4_3 rfl ?_
  refine lv_ldcw S.1 S.2.1 S.2.2.2.1 (S.2.2.2.2 _ hb_453) dJ6_bitCount_0f7a4_4 ?_
  refine lv_iand S.1 S.2.1 dJ6_bitCount_0f7a4_7 ?_
  refine lv_isub S.1 S.2.1 dJ6_bitCount_0f7a4_8 ?_
  refine hm_top (z := bc1 x) (rfl) ?_
  refine lv_istore_n (lv' := [(0, .int (bc1 x))]) S.1 S.2.1 dJ6_bitCount_0f7a4_9 rfl hl (by decide) rfl (fun ls hl => ?_)
  refine lv_iload_n S.1 S.2.1 dJ6_bitCount_0f7a4_10 rfl (lv_at hl 0 rfl) ?_
  refine lv_ldcw S.1 S.2.1 S.2.2.2.1 (S.2.2.2.2 _ hb_454) dJ6_bitCount_0f7a4_11 ?_
  refine lv_iand S.1 S.2.1 dJ6_bitCount_0f7a4_14 ?_
  refine lv_iload_n S.1 S.2.1 dJ6_bitCount_0f7a4_15 rfl (lv_at hl 0 rfl) ?_
  refine lv_iconst (v := 2) S.1 S.2.1 dJ6_bitCount_0f7a4_16 (by decide) ?_
  refine lv_iushr S.1 S.2.1 dJ6_bitCount_0f7a4_17 rfl ?_
  refine lv_ldcw S.1 S.2.1 S.2.2.2.1 (S.2.2.2.2 _ hb_454) dJ6_bitCount_0f7a4_18 ?_
  refine lv_iand S.1 S.2.1 dJ6_bitCount_0f7a4_21 ?_
  refine lv_iadd S.1 S.2.1 dJ6_bitCount_0f7a4_22 ?_
  refine hm_top (z := bc2 (bc1 x)) (rfl) ?_
  refine lv_istore_n (lv' := [(0, .int (bc2 (bc1 x)))]) S.1 S.2.1 dJ6_bitCount_0f7a4_23 rfl hl (by decide) rfl (fun ls hl => ?_)
  refine lv_iload_n S.1 S.2.1 dJ6_bitCount_0f7a4_24 rfl (lv_at hl 0 rfl) ?_
  refine lv_iload_n S.1 S.2.1 dJ6_bitCount_0f7a4_25 rfl (lv_at hl 0 rfl) ?_
  refine lv_iconst (v := 4) S.1 S.2.1 dJ6_bitCount_0f7a4_26 (by decide) ?_
  refine lv_iushr S.1 S.2.1 dJ6_bitCount_0f7a4_27 rfl ?_
  refine lv_iadd S.1 S.2.1 dJ6_bitCount_0f7a4_28 ?_
  refine lv_ldcw S.1 S.2.1 S.2.2.2.1 (S.2.2.2.2 _ hb_455) dJ6_bitCount_0f7a4_29 ?_
  refine lv_iand S.1 S.2.1 dJ6_bitCount_0f7a4_32 ?_
  refine hm_top (z := bc3 (bc2 (bc1 x))) (rfl) ?_
  refine lv_istore_n (lv' := [(0, .int (bc3 (bc2 (bc1 x))))]) S.1 S.2.1 dJ6_bitCount_0f7a4_33 rfl hl (by decide) rfl (fun ls hl => ?_)
  refine lv_iload_n S.1 S.2.1 dJ6_bitCount_0f7a4_34 rfl (lv_at hl 0 rfl) ?_
  refine lv_iload_n S.1 S.2.1 dJ6_bitCount_0f7a4_35 rfl (lv_at hl 0 rfl) ?_
  refine lv_bipush (v := 8) S.1 S.2.1 dJ6_bitCount_0f7a4_36 (by decide) ?_
  refine lv_iushr S.1 S.2.1 dJ6_bitCount_0f7a4_38 rfl ?_
  refine lv_iadd S.1 S.2.1 dJ6_bitCount_0f7a4_39 ?_
  refine hm_top (z := bc4 (bc3 (bc2 (bc1 x)))) (rfl) ?_
  refine lv_istore_n (lv' := [(0, .int (bc4 (bc3 (bc2 (bc1 x)))))]) S.1 S.2.1 dJ6_bitCount_0f7a4_40 rfl hl (by decide) rfl (fun ls hl => ?_)
  refine lv_iload_n S.1 S.2.1 dJ6_bitCount_0f7a4_41 rfl (lv_at hl 0 rfl) ?_
  refine lv_iload_n S.1 S.2.1 dJ6_bitCount_0f7a4_42 rfl (lv_at hl 0 rfl) ?_
  refine lv_bipush (v := 16) S.1 S.2.1 dJ6_bitCount_0f7a4_43 (by decide) ?_
  refine lv_iushr S.1 S.2.1 dJ6_bitCount_0f7a4_45 rfl ?_
  refine lv_iadd S.1 S.2.1 dJ6_bitCount_0f7a4_46 ?_
  refine hm_top (z := bc5 (bc4 (bc3 (bc2 (bc1 x))))) (rfl) ?_
  refine lv_istore_n (lv' := [(0, .int (bc5 (bc4 (bc3 (bc2 (bc1 x))))))]) S.1 S.2.1 dJ6_bitCount_0f7a4_47 rfl hl (by decide) rfl (fun ls hl => ?_)
  refine lv_iload_n S.1 S.2.1 dJ6_bitCount_0f7a4_48 rfl (lv_at hl 0 rfl) ?_
  refine lv_bipush (v := 63) S.1 S.2.1 dJ6_bitCount_0f7a4_49 (by decide) ?_
  refine lv_iand S.1 S.2.1 dJ6_bitCount_0f7a4_51 ?_
  exact hm_iret S hG hr hlk (⟨rfl, rfl, rfl⟩) (Nat.le_of_ble_eq_true rfl) (Nat.le_of_ble_eq_true rfl) dJ6_bitCount_0f7a4_52

abbrev rm_X1_countLoudNow : Room := { frames := 1, cells := 0, slots := 0, locals := 20 }
set_option maxHeartbeats 4000000 in
set_option maxRecDepth 100000 in
theorem c_X1_countLoudNow (l : Launch) (g : GV) (ad : AD) (M : CT) (j : Nat) (d : GrD) (hd : hasGr g ad M j d) : hm_Met l yX1_countLoudNow cX1_countLoudNow 3 (some .int) rm_X1_countLoudNow g ad M [.ref (ad (60, j, 0))] (hm_pU ad M (some (.int (cgF (gLo d))))) := by
  refine hm_start (own := RX1) (by decide) rfl (Nat.le_of_ble_eq_true rfl) ?_
  intro p e s m args below meth c S hr hlk hnm hE hG ls hl
  have hl : lv_has ls 3 [(0, .ref (ad (60, j, 0)))] := hl
  obtain ⟨h60, h61, h62⟩ := id hd
  refine lv_iconst (v := 0) S.1 S.2.1 dX1_countLoudNow_0 (by decide) ?_
  refine lv_istore_n (lv' := [(1, .int 0), (0, .ref (ad (60, j, 0)))]) S.1 S.2.1 dX1_countLoudNow_1 rfl hl (by decide) rfl (fun ls hl => ?_)
  refine lv_iconst (v := 0) S.1 S.2.1 dX1_countLoudNow_2 (by decide) ?_
  refine lv_istore_n (lv' := [(2, .int 0), (1, .int 0), (0, .ref (ad (60, j, 0)))]) S.1 S.2.1 dX1_countLoudNow_3 rfl hl (by decide) rfl (fun ls hl => ?_)
  refine lv_iload_n S.1 S.2.1 dX1_countLoudNow_4 rfl (lv_at hl 0 rfl) ?_
  refine lv_bipush (v := 6) S.1 S.2.1 dX1_countLoudNow_5 (by decide) ?_
  refine lv_icmp_ge (tgt := 28) S.1 S.2.1 dX1_countLoudNow_7 (by decide) (fun h9 => absurd h9 (by decide)) (fun _ => ?_)
  refine lv_iload_n S.1 S.2.1 dX1_countLoudNow_10 rfl (lv_at hl 1 rfl) ?_
  refine lv_aload_n S.1 S.2.1 dX1_countLoudNow_11 rfl (lv_at hl 2 rfl) ?_
  refine hm_get (k := 0) S hE hG h60 rfl rfl hi_X10 (by decide) hb_53 rfl rfl dX1_countLoudNow_12 ?_
  refine lv_iload_n S.1 S.2.1 dX1_countLoudNow_15 rfl (lv_at hl 0 rfl) ?_
  refine hm_iald (x := (gLo d) 0) S hE hG h61 rfl (by unfold vp_in; decide) (congrArg (gLo d) (by decide)) dX1_countLoudNow_16 ?_
  refine hm_uS (As := [.int ((gLo d) 0)]) (rest := [.int 0]) (st1 := [.int (bcF ((gLo d) 0)), .int 0]) S hE hG (c_J6_bitCount_0f7a4 l g ad M ((gLo d) 0)) (hm_gS hb_449 hb_450 hb_451 hb_452) hd_J6_bitCount_0f7a4 ⟨Nat.le_of_ble_eq_true rfl, Nat.le_of_ble_eq_true rfl⟩ rfl hl.1 rfl (Nat.le_of_ble_eq_true rfl) dX1_countLoudNow_17 ⟨Nat.le_of_ble_eq_true rfl, Nat.le_of_ble_eq_true rfl⟩ rfl (fun H locs hG => ?_)
  refine lv_iadd S.1 S.2.1 dX1_countLoudNow_20 ?_
  refine lv_istore_n (lv' := [(1, .int (0 + (bcF ((gLo d) 0)))), (2, .int 0), (0, .ref (ad (60, j, 0)))]) S.1 S.2.1 dX1_countLoudNow_21 rfl hl (by decide) rfl (fun ls hl => ?_)
  refine lv_iinc (v := 1) (lv' := [(2, .int 1), (1, .int (0 + (bcF ((gLo d) 0)))), (0, .ref (ad (60, j, 0)))]) S.1 S.2.1 dX1_countLoudNow_22 hl (k := 1) rfl (by decide) (by decide) rfl (fun ls hl => ?_)
  refine lv_goto (tgt := 4) S.1 S.2.1 dX1_countLoudNow_25 (by decide) ?_
  refine lv_iload_n S.1 S.2.1 dX1_countLoudNow_4 rfl (lv_at hl 0 rfl) ?_
  refine lv_bipush (v := 6) S.1 S.2.1 dX1_countLoudNow_5 (by decide) ?_
  refine lv_icmp_ge (tgt := 28) S.1 S.2.1 dX1_countLoudNow_7 (by decide) (fun h9 => absurd h9 (by decide)) (fun _ => ?_)
  refine lv_iload_n S.1 S.2.1 dX1_countLoudNow_10 rfl (lv_at hl 1 rfl) ?_
  refine lv_aload_n S.1 S.2.1 dX1_countLoudNow_11 rfl (lv_at hl 2 rfl) ?_
  refine hm_get (k := 0) S hE hG h60 rfl rfl hi_X10 (by decide) hb_53 rfl rfl dX1_countLoudNow_12 ?_
  refine lv_iload_n S.1 S.2.1 dX1_countLoudNow_15 rfl (lv_at hl 0 rfl) ?_
  refine hm_iald (x := (gLo d) 1) S hE hG h61 rfl (by unfold vp_in; decide) (congrArg (gLo d) (by decide)) dX1_countLoudNow_16 ?_
  refine hm_uS (As := [.int ((gLo d) 1)]) (rest := [.int (0 + (bcF ((gLo d) 0)))]) (st1 := [.int (bcF ((gLo d) 1)), .int (0 + (bcF ((gLo d) 0)))]) S hE hG (c_J6_bitCount_0f7a4 l g ad M ((gLo d) 1)) (hm_gS hb_449 hb_450 hb_451 hb_452) hd_J6_bitCount_0f7a4 ⟨Nat.le_of_ble_eq_true rfl, Nat.le_of_ble_eq_true rfl⟩ rfl hl.1 rfl (Nat.le_of_ble_eq_true rfl) dX1_countLoudNow_17 ⟨Nat.le_of_ble_eq_true rfl, Nat.le_of_ble_eq_true rfl⟩ rfl (fun H locs hG => ?_)
  refine lv_iadd S.1 S.2.1 dX1_countLoudNow_20 ?_
  refine lv_istore_n (lv' := [(1, .int ((0 + (bcF ((gLo d) 0))) + (bcF ((gLo d) 1)))), (2, .int 1), (0, .ref (ad (60, j, 0)))]) S.1 S.2.1 dX1_countLoudNow_21 rfl hl (by decide) rfl (fun ls hl => ?_)
  refine lv_iinc (v := 2) (lv' := [(2, .int 2), (1, .int ((0 + (bcF ((gLo d) 0))) + (bcF ((gLo d) 1)))), (0, .ref (ad (60, j, 0)))]) S.1 S.2.1 dX1_countLoudNow_22 hl (k := 1) rfl (by decide) (by decide) rfl (fun ls hl => ?_)
  refine lv_goto (tgt := 4) S.1 S.2.1 dX1_countLoudNow_25 (by decide) ?_
  refine lv_iload_n S.1 S.2.1 dX1_countLoudNow_4 rfl (lv_at hl 0 rfl) ?_
  refine lv_bipush (v := 6) S.1 S.2.1 dX1_countLoudNow_5 (by decide) ?_
  refine lv_icmp_ge (tgt := 28) S.1 S.2.1 dX1_countLoudNow_7 (by decide) (fun h9 => absurd h9 (by decide)) (fun _ => ?_)
  refine lv_iload_n S.1 S.2.1 dX1_countLoudNow_10 rfl (lv_at hl 1 rfl) ?_
  refine lv_aload_n S.1 S.2.1 dX1_countLoudNow_11 rfl (lv_at hl 2 rfl) ?_
  refine hm_get (k := 0) S hE hG h60 rfl rfl hi_X10 (by decide) hb_53 rfl rfl dX1_countLoudNow_12 ?_
  refine lv_iload_n S.1 S.2.1 dX1_countLoudNow_15 rfl (lv_at hl 0 rfl) ?_
  refine hm_iald (x := (gLo d) 2) S hE hG h61 rfl (by unfold vp_in; decide) (congrArg (gLo d) (by decide)) dX1_countLoudNow_16 ?_
  refine hm_uS (As := [.int ((gLo d) 2)]) (rest := [.int ((0 + (bcF ((gLo d) 0))) + (bcF ((gLo d) 1)))]) (st1 := [.int (bcF ((gLo d) 2)), .int ((0 + (bcF ((gLo d) 0))) + (bcF ((gLo d) 1)))]) S hE hG (c_J6_bitCount_0f7a4 l g ad M ((gLo d) 2)) (hm_gS hb_449 hb_450 hb_451 hb_452) hd_J6_bitCount_0f7a4 ⟨Nat.le_of_ble_eq_true rfl, Nat.le_of_ble_eq_true rfl⟩ rfl hl.1 rfl (Nat.le_of_ble_eq_true rfl) dX1_countLoudNow_17 ⟨Nat.le_of_ble_eq_true rfl, Nat.le_of_ble_eq_true rfl⟩ rfl (fun H locs hG => ?_)
  refine lv_iadd S.1 S.2.1 dX1_countLoudNow_20 ?_
  refine lv_istore_n (lv' := [(1, .int (((0 + (bcF ((gLo d) 0))) + (bcF ((gLo d) 1))) + (bcF ((gLo d) 2)))), (2, .int 2), (0, .ref (ad (60, j, 0)))]) S.1 S.2.1 dX1_countLoudNow_21 rfl hl (by decide) rfl (fun ls hl => ?_)
  refine lv_iinc (v := 3) (lv' := [(2, .int 3), (1, .int (((0 + (bcF ((gLo d) 0))) + (bcF ((gLo d) 1))) + (bcF ((gLo d) 2)))), (0, .ref (ad (60, j, 0)))]) S.1 S.2.1 dX1_countLoudNow_22 hl (k := 1) rfl (by decide) (by decide) rfl (fun ls hl => ?_)
  refine lv_goto (tgt := 4) S.1 S.2.1 dX1_countLoudNow_25 (by decide) ?_
  refine lv_iload_n S.1 S.2.1 dX1_countLoudNow_4 rfl (lv_at hl 0 rfl) ?_
  refine lv_bipush (v := 6) S.1 S.2.1 dX1_countLoudNow_5 (by decide) ?_
  refine lv_icmp_ge (tgt := 28) S.1 S.2.1 dX1_countLoudNow_7 (by decide) (fun h9 => absurd h9 (by decide)) (fun _ => ?_)
  refine lv_iload_n S.1 S.2.1 dX1_countLoudNow_10 rfl (lv_at hl 1 rfl) ?_
  refine lv_aload_n S.1 S.2.1 dX1_countLoudNow_11 rfl (lv_at hl 2 rfl) ?_
  refine hm_get (k := 0) S hE hG h60 rfl rfl hi_X10 (by decide) hb_53 rfl rfl dX1_countLoudNow_12 ?_
  refine lv_iload_n S.1 S.2.1 dX1_countLoudNow_15 rfl (lv_at hl 0 rfl) ?_
  refine hm_iald (x := (gLo d) 3) S hE hG h61 rfl (by unfold vp_in; decide) (congrArg (gLo d) (by decide)) dX1_countLoudNow_16 ?_
  refine hm_uS (As := [.int ((gLo d) 3)]) (rest := [.int (((0 + (bcF ((gLo d) 0))) + (bcF ((gLo d) 1))) + (bcF ((gLo d) 2)))]) (st1 := [.int (bcF ((gLo d) 3)), .int (((0 + (bcF ((gLo d) 0))) + (bcF ((gLo d) 1))) + (bcF ((gLo d) 2)))]) S hE hG (c_J6_bitCount_0f7a4 l g ad M ((gLo d) 3)) (hm_gS hb_449 hb_450 hb_451 hb_452) hd_J6_bitCount_0f7a4 ⟨Nat.le_of_ble_eq_true rfl, Nat.le_of_ble_eq_true rfl⟩ rfl hl.1 rfl (Nat.le_of_ble_eq_true rfl) dX1_countLoudNow_17 ⟨Nat.le_of_ble_eq_true rfl, Nat.le_of_ble_eq_true rfl⟩ rfl (fun H locs hG => ?_)
  refine lv_iadd S.1 S.2.1 dX1_countLoudNow_20 ?_
  refine lv_istore_n (lv' := [(1, .int ((((0 + (bcF ((gLo d) 0))) + (bcF ((gLo d) 1))) + (bcF ((gLo d) 2))) + (bcF ((gLo d) 3)))), (2, .int 3), (0, .ref (ad (60, j, 0)))]) S.1 S.2.1 dX1_countLoudNow_21 rfl hl (by decide) rfl (fun ls hl => ?_)
  refine lv_iinc (v := 4) (lv' := [(2, .int 4), (1, .int ((((0 + (bcF ((gLo d) 0))) + (bcF ((gLo d) 1))) + (bcF ((gLo d) 2))) + (bcF ((gLo d) 3)))), (0, .ref (ad (60, j, 0)))]) S.1 S.2.1 dX1_countLoudNow_22 hl (k := 1) rfl (by decide) (by decide) rfl (fun ls hl => ?_)
  refine lv_goto (tgt := 4) S.1 S.2.1 dX1_countLoudNow_25 (by decide) ?_
  refine lv_iload_n S.1 S.2.1 dX1_countLoudNow_4 rfl (lv_at hl 0 rfl) ?_
  refine lv_bipush (v := 6) S.1 S.2.1 dX1_countLoudNow_5 (by decide) ?_
  refine lv_icmp_ge (tgt := 28) S.1 S.2.1 dX1_countLoudNow_7 (by decide) (fun h9 => absurd h9 (by decide)) (fun _ => ?_)
  refine lv_iload_n S.1 S.2.1 dX1_countLoudNow_10 rfl (lv_at hl 1 rfl) ?_
  refine lv_aload_n S.1 S.2.1 dX1_countLoudNow_11 rfl (lv_at hl 2 rfl) ?_
  refine hm_get (k := 0) S hE hG h60 rfl rfl hi_X10 (by decide) hb_53 rfl rfl dX1_countLoudNow_12 ?_
  refine lv_iload_n S.1 S.2.1 dX1_countLoudNow_15 rfl (lv_at hl 0 rfl) ?_
  refine hm_iald (x := (gLo d) 4) S hE hG h61 rfl (by unfold vp_in; decide) (congrArg (gLo d) (by decide)) dX1_countLoudNow_16 ?_
  refine hm_uS (As := [.int ((gLo d) 4)]) (rest := [.int ((((0 + (bcF ((gLo d) 0))) + (bcF ((gLo d) 1))) + (bcF ((gLo d) 2))) + (bcF ((gLo d) 3)))]) (st1 := [.int (bcF ((gLo d) 4)), .int ((((0 + (bcF ((gLo d) 0))) + (bcF ((gLo d) 1))) + (bcF ((gLo d) 2))) + (bcF ((gLo d) 3)))]) S hE hG (c_J6_bitCount_0f7a4 l g ad M ((gLo d) 4)) (hm_gS hb_449 hb_450 hb_451 hb_452) hd_J6_bitCount_0f7a4 ⟨Nat.le_of_ble_eq_true rfl, Nat.le_of_ble_eq_true rfl⟩ rfl hl.1 rfl (Nat.le_of_ble_eq_true rfl) dX1_countLoudNow_17 ⟨Nat.le_of_ble_eq_true rfl, Nat.le_of_ble_eq_true rfl⟩ rfl (fun H locs hG => ?_)
  refine lv_iadd S.1 S.2.1 dX1_countLoudNow_20 ?_
  refine lv_istore_n (lv' := [(1, .int (((((0 + (bcF ((gLo d) 0))) + (bcF ((gLo d) 1))) + (bcF ((gLo d) 2))) + (bcF ((gLo d) 3))) + (bcF ((gLo d) 4)))), (2, .int 4), (0, .ref (ad (60, j, 0)))]) S.1 S.2.1 dX1_countLoudNow_21 rfl hl (by decide) rfl (fun ls hl => ?_)
  refine lv_iinc (v := 5) (lv' := [(2, .int 5), (1, .int (((((0 + (bcF ((gLo d) 0))) + (bcF ((gLo d) 1))) + (bcF ((gLo d) 2))) + (bcF ((gLo d) 3))) + (bcF ((gLo d) 4)))), (0, .ref (ad (60, j, 0)))]) S.1 S.2.1 dX1_countLoudNow_22 hl (k := 1) rfl (by decide) (by decide) rfl (fun ls hl => ?_)
  refine lv_goto (tgt := 4) S.1 S.2.1 dX1_countLoudNow_25 (by decide) ?_
  refine lv_iload_n S.1 S.2.1 dX1_countLoudNow_4 rfl (lv_at hl 0 rfl) ?_
  refine lv_bipush (v := 6) S.1 S.2.1 dX1_countLoudNow_5 (by decide) ?_
  refine lv_icmp_ge (tgt := 28) S.1 S.2.1 dX1_countLoudNow_7 (by decide) (fun h9 => absurd h9 (by decide)) (fun _ => ?_)
  refine lv_iload_n S.1 S.2.1 dX1_countLoudNow_10 rfl (lv_at hl 1 rfl) ?_
  refine lv_aload_n S.1 S.2.1 dX1_countLoudNow_11 rfl (lv_at hl 2 rfl) ?_
  refine hm_get (k := 0) S hE hG h60 rfl rfl hi_X10 (by decide) hb_53 rfl rfl dX1_countLoudNow_12 ?_
  refine lv_iload_n S.1 S.2.1 dX1_countLoudNow_15 rfl (lv_at hl 0 rfl) ?_
  refine hm_iald (x := (gLo d) 5) S hE hG h61 rfl (by unfold vp_in; decide) (congrArg (gLo d) (by decide)) dX1_countLoudNow_16 ?_
  refine hm_uS (As := [.int ((gLo d) 5)]) (rest := [.int (((((0 + (bcF ((gLo d) 0))) + (bcF ((gLo d) 1))) + (bcF ((gLo d) 2))) + (bcF ((gLo d) 3))) + (bcF ((gLo d) 4)))]) (st1 := [.int (bcF ((gLo d) 5)), .int (((((0 + (bcF ((gLo d) 0))) + (bcF ((gLo d) 1))) + (bcF ((gLo d) 2))) + (bcF ((gLo d) 3))) + (bcF ((gLo d) 4)))]) S hE hG (c_J6_bitCount_0f7a4 l g ad M ((gLo d) 5)) (hm_gS hb_449 hb_450 hb_451 hb_452) hd_J6_bitCount_0f7a4 ⟨Nat.le_of_ble_eq_true rfl, Nat.le_of_ble_eq_true rfl⟩ rfl hl.1 rfl (Nat.le_of_ble_eq_true rfl) dX1_countLoudNow_17 ⟨Nat.le_of_ble_eq_true rfl, Nat.le_of_ble_eq_true rfl⟩ rfl (fun H locs hG => ?_)
  refine lv_iadd S.1 S.2.1 dX1_countLoudNow_20 ?_
  refine lv_istore_n (lv' := [(1, .int ((((((0 + (bcF ((gLo d) 0))) + (bcF ((gLo d) 1))) + (bcF ((gLo d) 2))) + (bcF ((gLo d) 3))) + (bcF ((gLo d) 4))) + (bcF ((gLo d) 5)))), (2, .int 5), (0, .ref (ad (60, j, 0)))]) S.1 S.2.1 dX1_countLoudNow_21 rfl hl (by decide) rfl (fun ls hl => ?_)
  refine lv_iinc (v := 6) (lv' := [(2, .int 6), (1, .int ((((((0 + (bcF ((gLo d) 0))) + (bcF ((gLo d) 1))) + (bcF ((gLo d) 2))) + (bcF ((gLo d) 3))) + (bcF ((gLo d) 4))) + (bcF ((gLo d) 5)))), (0, .ref (ad (60, j, 0)))]) S.1 S.2.1 dX1_countLoudNow_22 hl (k := 1) rfl (by decide) (by decide) rfl (fun ls hl => ?_)
  refine lv_goto (tgt := 4) S.1 S.2.1 dX1_countLoudNow_25 (by decide) ?_
  refine lv_iload_n S.1 S.2.1 dX1_countLoudNow_4 rfl (lv_at hl 0 rfl) ?_
  refine lv_bipush (v := 6) S.1 S.2.1 dX1_countLoudNow_5 (by decide) ?_
  refine lv_icmp_ge (tgt := 28) S.1 S.2.1 dX1_countLoudNow_7 (by decide) (fun _ => ?_) (fun h9 => absurd (by decide) h9)
  refine lv_iload_n S.1 S.2.1 dX1_countLoudNow_28 rfl (lv_at hl 1 rfl) ?_
  exact hm_iret S hG hr hlk (⟨rfl, rfl, rfl⟩) (Nat.le_of_ble_eq_true rfl) (Nat.le_of_ble_eq_true rfl) dX1_countLoudNow_29

abbrev rm_X1_isLoud : Room := { frames := 2, cells := 0, slots := 0, locals := 42 }
set_option maxHeartbeats 4000000 in
set_option maxRecDepth 100000 in
theorem c_X1_isLoud (l : Launch) (g : GV) (ad : AD) (M : CT) (j : Nat) (d : GrD) (hd : hasGr g ad M j d) : hm_Met l yX1_isLoud cX1_isLoud 1 (some .boolean) rm_X1_isLoud g ad M [.ref (ad (60, j, 0))] (hm_pU ad M (some (.int (bI (ilF d))))) := by
  refine hm_start (own := RX1) (by decide) rfl (Nat.le_of_ble_eq_true rfl) ?_
  intro p e s m args below meth c S hr hlk hnm hE hG ls hl
  have hl : lv_has ls 1 [(0, .ref (ad (60, j, 0)))] := hl
  obtain ⟨h60, h61, h62⟩ := id hd
  refine lv_aload_n S.1 S.2.1 dX1_isLoud_0 rfl (lv_at hl 0 rfl) ?_
  refine hm_uV (As := []) (rest := []) (st1 := [.int (cgF (gLo d))]) S hE hG (c_X1_countLoudNow l g ad M j d hd) (hm_gV hb_445 hb_446 hb_447 hb_22 hb_448) hd_X1_countLoudNow rfl h60 rfl rfl ⟨Nat.le_of_ble_eq_true rfl, Nat.le_of_ble_eq_true rfl⟩ rfl hl.1 rfl (Nat.le_of_ble_eq_true rfl) dX1_isLoud_1 ⟨Nat.le_of_ble_eq_true rfl, Nat.le_of_ble_eq_true rfl⟩ rfl (fun H locs hG => ?_)
  refine lv_if_le (tgt := 11) S.1 S.2.1 dX1_isLoud_4 (by decide) (fun c4 => ?_) (fun c4 => ?_)
  · skip
    refine lv_iconst (v := 0) S.1 S.2.1 dX1_isLoud_11 (by decide) ?_
    exact hm_zret S hG hr hlk (by decide) (⟨by rw [ilF, decide_eq_false (Int32.not_lt.mpr c4)]; rfl, rfl, rfl⟩) (Nat.le_of_ble_eq_true rfl) (Nat.le_of_ble_eq_true rfl) dX1_isLoud_12
  · skip
    refine lv_iconst (v := 1) S.1 S.2.1 dX1_isLoud_7 (by decide) ?_
    refine lv_goto (tgt := 12) S.1 S.2.1 dX1_isLoud_8 (by decide) ?_
    exact hm_zret S hG hr hlk (by decide) (⟨by rw [ilF, decide_eq_true (Int32.not_le.mp c4)]; rfl, rfl, rfl⟩) (Nat.le_of_ble_eq_true rfl) (Nat.le_of_ble_eq_true rfl) dX1_isLoud_12

abbrev rm_X1_hasTold : Room := { frames := 0, cells := 0, slots := 0, locals := 0 }
set_option maxHeartbeats 4000000 in
set_option maxRecDepth 100000 in
theorem c_X1_hasTold (l : Launch) (g : GV) (ad : AD) (M : CT) (j : Nat) (d : GrD) (hd : hasGr g ad M j d) : hm_Met l yX1_hasTold cX1_hasTold 2 (some .boolean) rm_X1_hasTold g ad M [.ref (ad (60, j, 0))] (hm_pU ad M (some (.int (bI (nzF (gTo d)))))) := by
  refine hm_start (own := RX1) (by decide) rfl (Nat.le_of_ble_eq_true rfl) ?_
  intro p e s m args below meth c S hr hlk hnm hE hG ls hl
  have hl : lv_has ls 2 [(0, .ref (ad (60, j, 0)))] := hl
  obtain ⟨h60, h61, h62⟩ := id hd
  refine lv_iconst (v := 0) S.1 S.2.1 dX1_hasTold_0 (by decide) ?_
  refine lv_istore_n (lv' := [(1, .int 0), (0, .ref (ad (60, j, 0)))]) S.1 S.2.1 dX1_hasTold_1 rfl hl (by decide) rfl (fun ls hl => ?_)
  refine lv_iload_n S.1 S.2.1 dX1_hasTold_2 rfl (lv_at hl 0 rfl) ?_
  refine lv_bipush (v := 6) S.1 S.2.1 dX1_hasTold_3 (by decide) ?_
  refine lv_icmp_ge (tgt := 25) S.1 S.2.1 dX1_hasTold_5 (by decide) (fun h9 => absurd h9 (by decide)) (fun _ => ?_)
  refine lv_aload_n S.1 S.2.1 dX1_hasTold_8 rfl (lv_at hl 1 rfl) ?_
  refine hm_get (k := 1) S hE hG h60 rfl rfl hi_X10 (by decide) hb_54 rfl rfl dX1_hasTold_9 ?_
  refine lv_iload_n S.1 S.2.1 dX1_hasTold_12 rfl (lv_at hl 0 rfl) ?_
  refine hm_iald (x := (gTo d) 0) S hE hG h62 rfl (by unfold vp_in; decide) (congrArg (gTo d) (by decide)) dX1_hasTold_13 ?_
  refine lv_if_eq (tgt := 19) S.1 S.2.1 dX1_hasTold_14 (by decide) (fun c14 => ?_) (fun c14 => ?_)
  · skip
    refine lv_iinc (v := 1) (lv' := [(1, .int 1), (0, .ref (ad (60, j, 0)))]) S.1 S.2.1 dX1_hasTold_19 hl (k := 0) rfl (by decide) (by decide) rfl (fun ls hl => ?_)
    refine lv_goto (tgt := 2) S.1 S.2.1 dX1_hasTold_22 (by decide) ?_
    refine lv_iload_n S.1 S.2.1 dX1_hasTold_2 rfl (lv_at hl 0 rfl) ?_
    refine lv_bipush (v := 6) S.1 S.2.1 dX1_hasTold_3 (by decide) ?_
    refine lv_icmp_ge (tgt := 25) S.1 S.2.1 dX1_hasTold_5 (by decide) (fun h9 => absurd h9 (by decide)) (fun _ => ?_)
    refine lv_aload_n S.1 S.2.1 dX1_hasTold_8 rfl (lv_at hl 1 rfl) ?_
    refine hm_get (k := 1) S hE hG h60 rfl rfl hi_X10 (by decide) hb_54 rfl rfl dX1_hasTold_9 ?_
    refine lv_iload_n S.1 S.2.1 dX1_hasTold_12 rfl (lv_at hl 0 rfl) ?_
    refine hm_iald (x := (gTo d) 1) S hE hG h62 rfl (by unfold vp_in; decide) (congrArg (gTo d) (by decide)) dX1_hasTold_13 ?_
    refine lv_if_eq (tgt := 19) S.1 S.2.1 dX1_hasTold_14 (by decide) (fun c14 => ?_) (fun c14 => ?_)
    · skip
      refine lv_iinc (v := 2) (lv' := [(1, .int 2), (0, .ref (ad (60, j, 0)))]) S.1 S.2.1 dX1_hasTold_19 hl (k := 0) rfl (by decide) (by decide) rfl (fun ls hl => ?_)
      refine lv_goto (tgt := 2) S.1 S.2.1 dX1_hasTold_22 (by decide) ?_
      refine lv_iload_n S.1 S.2.1 dX1_hasTold_2 rfl (lv_at hl 0 rfl) ?_
      refine lv_bipush (v := 6) S.1 S.2.1 dX1_hasTold_3 (by decide) ?_
      refine lv_icmp_ge (tgt := 25) S.1 S.2.1 dX1_hasTold_5 (by decide) (fun h9 => absurd h9 (by decide)) (fun _ => ?_)
      refine lv_aload_n S.1 S.2.1 dX1_hasTold_8 rfl (lv_at hl 1 rfl) ?_
      refine hm_get (k := 1) S hE hG h60 rfl rfl hi_X10 (by decide) hb_54 rfl rfl dX1_hasTold_9 ?_
      refine lv_iload_n S.1 S.2.1 dX1_hasTold_12 rfl (lv_at hl 0 rfl) ?_
      refine hm_iald (x := (gTo d) 2) S hE hG h62 rfl (by unfold vp_in; decide) (congrArg (gTo d) (by decide)) dX1_hasTold_13 ?_
      refine lv_if_eq (tgt := 19) S.1 S.2.1 dX1_hasTold_14 (by decide) (fun c14 => ?_) (fun c14 => ?_)
      · skip
        refine lv_iinc (v := 3) (lv' := [(1, .int 3), (0, .ref (ad (60, j, 0)))]) S.1 S.2.1 dX1_hasTold_19 hl (k := 0) rfl (by decide) (by decide) rfl (fun ls hl => ?_)
        refine lv_goto (tgt := 2) S.1 S.2.1 dX1_hasTold_22 (by decide) ?_
        refine lv_iload_n S.1 S.2.1 dX1_hasTold_2 rfl (lv_at hl 0 rfl) ?_
        refine lv_bipush (v := 6) S.1 S.2.1 dX1_hasTold_3 (by decide) ?_
        refine lv_icmp_ge (tgt := 25) S.1 S.2.1 dX1_hasTold_5 (by decide) (fun h9 => absurd h9 (by decide)) (fun _ => ?_)
        refine lv_aload_n S.1 S.2.1 dX1_hasTold_8 rfl (lv_at hl 1 rfl) ?_
        refine hm_get (k := 1) S hE hG h60 rfl rfl hi_X10 (by decide) hb_54 rfl rfl dX1_hasTold_9 ?_
        refine lv_iload_n S.1 S.2.1 dX1_hasTold_12 rfl (lv_at hl 0 rfl) ?_
        refine hm_iald (x := (gTo d) 3) S hE hG h62 rfl (by unfold vp_in; decide) (congrArg (gTo d) (by decide)) dX1_hasTold_13 ?_
        refine lv_if_eq (tgt := 19) S.1 S.2.1 dX1_hasTold_14 (by decide) (fun c14 => ?_) (fun c14 => ?_)
        · skip
          refine lv_iinc (v := 4) (lv' := [(1, .int 4), (0, .ref (ad (60, j, 0)))]) S.1 S.2.1 dX1_hasTold_19 hl (k := 0) rfl (by decide) (by decide) rfl (fun ls hl => ?_)
          refine lv_goto (tgt := 2) S.1 S.2.1 dX1_hasTold_22 (by decide) ?_
          refine lv_iload_n S.1 S.2.1 dX1_hasTold_2 rfl (lv_at hl 0 rfl) ?_
          refine lv_bipush (v := 6) S.1 S.2.1 dX1_hasTold_3 (by decide) ?_
          refine lv_icmp_ge (tgt := 25) S.1 S.2.1 dX1_hasTold_5 (by decide) (fun h9 => absurd h9 (by decide)) (fun _ => ?_)
          refine lv_aload_n S.1 S.2.1 dX1_hasTold_8 rfl (lv_at hl 1 rfl) ?_
          refine hm_get (k := 1) S hE hG h60 rfl rfl hi_X10 (by decide) hb_54 rfl rfl dX1_hasTold_9 ?_
          refine lv_iload_n S.1 S.2.1 dX1_hasTold_12 rfl (lv_at hl 0 rfl) ?_
          refine hm_iald (x := (gTo d) 4) S hE hG h62 rfl (by unfold vp_in; decide) (congrArg (gTo d) (by decide)) dX1_hasTold_13 ?_
          refine lv_if_eq (tgt := 19) S.1 S.2.1 dX1_hasTold_14 (by decide) (fun c14 => ?_) (fun c14 => ?_)
          · skip
            refine lv_iinc (v := 5) (lv' := [(1, .int 5), (0, .ref (ad (60, j, 0)))]) S.1 S.2.1 dX1_hasTold_19 hl (k := 0) rfl (by decide) (by decide) rfl (fun ls hl => ?_)
            refine lv_goto (tgt := 2) S.1 S.2.1 dX1_hasTold_22 (by decide) ?_
            refine lv_iload_n S.1 S.2.1 dX1_hasTold_2 rfl (lv_at hl 0 rfl) ?_
            refine lv_bipush (v := 6) S.1 S.2.1 dX1_hasTold_3 (by decide) ?_
            refine lv_icmp_ge (tgt := 25) S.1 S.2.1 dX1_hasTold_5 (by decide) (fun h9 => absurd h9 (by decide)) (fun _ => ?_)
            refine lv_aload_n S.1 S.2.1 dX1_hasTold_8 rfl (lv_at hl 1 rfl) ?_
            refine hm_get (k := 1) S hE hG h60 rfl rfl hi_X10 (by decide) hb_54 rfl rfl dX1_hasTold_9 ?_
            refine lv_iload_n S.1 S.2.1 dX1_hasTold_12 rfl (lv_at hl 0 rfl) ?_
            refine hm_iald (x := (gTo d) 5) S hE hG h62 rfl (by unfold vp_in; decide) (congrArg (gTo d) (by decide)) dX1_hasTold_13 ?_
            refine lv_if_eq (tgt := 19) S.1 S.2.1 dX1_hasTold_14 (by decide) (fun c14 => ?_) (fun c14 => ?_)
            · skip
              refine lv_iinc (v := 6) (lv' := [(1, .int 6), (0, .ref (ad (60, j, 0)))]) S.1 S.2.1 dX1_hasTold_19 hl (k := 0) rfl (by decide) (by decide) rfl (fun ls hl => ?_)
              refine lv_goto (tgt := 2) S.1 S.2.1 dX1_hasTold_22 (by decide) ?_
              refine lv_iload_n S.1 S.2.1 dX1_hasTold_2 rfl (lv_at hl 0 rfl) ?_
              refine lv_bipush (v := 6) S.1 S.2.1 dX1_hasTold_3 (by decide) ?_
              refine lv_icmp_ge (tgt := 25) S.1 S.2.1 dX1_hasTold_5 (by decide) (fun _ => ?_) (fun h9 => absurd (by decide) h9)
              refine lv_iconst (v := 0) S.1 S.2.1 dX1_hasTold_25 (by decide) ?_
              exact hm_zret S hG hr hlk (by decide) (⟨by simp [nzF, bI, *], rfl, rfl⟩) (Nat.le_of_ble_eq_true rfl) (Nat.le_of_ble_eq_true rfl) dX1_hasTold_26
            · skip
              refine lv_iconst (v := 1) S.1 S.2.1 dX1_hasTold_17 (by decide) ?_
              exact hm_zret S hG hr hlk (by decide) (⟨by simp [nzF, bI, *], rfl, rfl⟩) (Nat.le_of_ble_eq_true rfl) (Nat.le_of_ble_eq_true rfl) dX1_hasTold_18
          · skip
            refine lv_iconst (v := 1) S.1 S.2.1 dX1_hasTold_17 (by decide) ?_
            exact hm_zret S hG hr hlk (by decide) (⟨by simp [nzF, bI, *], rfl, rfl⟩) (Nat.le_of_ble_eq_true rfl) (Nat.le_of_ble_eq_true rfl) dX1_hasTold_18
        · skip
          refine lv_iconst (v := 1) S.1 S.2.1 dX1_hasTold_17 (by decide) ?_
          exact hm_zret S hG hr hlk (by decide) (⟨by simp [nzF, bI, *], rfl, rfl⟩) (Nat.le_of_ble_eq_true rfl) (Nat.le_of_ble_eq_true rfl) dX1_hasTold_18
      · skip
        refine lv_iconst (v := 1) S.1 S.2.1 dX1_hasTold_17 (by decide) ?_
        exact hm_zret S hG hr hlk (by decide) (⟨by simp [nzF, bI, *], rfl, rfl⟩) (Nat.le_of_ble_eq_true rfl) (Nat.le_of_ble_eq_true rfl) dX1_hasTold_18
    · skip
      refine lv_iconst (v := 1) S.1 S.2.1 dX1_hasTold_17 (by decide) ?_
      exact hm_zret S hG hr hlk (by decide) (⟨by simp [nzF, bI, *], rfl, rfl⟩) (Nat.le_of_ble_eq_true rfl) (Nat.le_of_ble_eq_true rfl) dX1_hasTold_18
  · skip
    refine lv_iconst (v := 1) S.1 S.2.1 dX1_hasTold_17 (by decide) ?_
    exact hm_zret S hG hr hlk (by decide) (⟨by simp [nzF, bI, *], rfl, rfl⟩) (Nat.le_of_ble_eq_true rfl) (Nat.le_of_ble_eq_true rfl) dX1_hasTold_18

abbrev rm_X1_hasChanged : Room := { frames := 0, cells := 0, slots := 0, locals := 0 }
set_option maxHeartbeats 4000000 in
set_option maxRecDepth 100000 in
theorem c_X1_hasChanged (l : Launch) (g : GV) (ad : AD) (M : CT) (j : Nat) (d : GrD) (hd : hasGr g ad M j d) : hm_Met l yX1_hasChanged cX1_hasChanged 2 (some .boolean) rm_X1_hasChanged g ad M [.ref (ad (60, j, 0))] (hm_pU ad M (some (.int (bI (chF (gTo d) (gLo d)))))) := by
  refine hm_start (own := RX1) (by decide) rfl (Nat.le_of_ble_eq_true rfl) ?_
  intro p e s m args below meth c S hr hlk hnm hE hG ls hl
  have hl : lv_has ls 2 [(0, .ref (ad (60, j, 0)))] := hl
  obtain ⟨h60, h61, h62⟩ := id hd
  refine lv_iconst (v := 0) S.1 S.2.1 dX1_hasChanged_0 (by decide) ?_
  refine lv_istore_n (lv' := [(1, .int 0), (0, .ref (ad (60, j, 0)))]) S.1 S.2.1 dX1_hasChanged_1 rfl hl (by decide) rfl (fun ls hl => ?_)
  refine lv_iload_n S.1 S.2.1 dX1_hasChanged_2 rfl (lv_at hl 0 rfl) ?_
  refine lv_bipush (v := 6) S.1 S.2.1 dX1_hasChanged_3 (by decide) ?_
  refine lv_icmp_ge (tgt := 31) S.1 S.2.1 dX1_hasChanged_5 (by decide) (fun h9 => absurd h9 (by decide)) (fun _ => ?_)
  refine lv_aload_n S.1 S.2.1 dX1_hasChanged_8 rfl (lv_at hl 1 rfl) ?_
  refine hm_get (k := 1) S hE hG h60 rfl rfl hi_X10 (by decide) hb_54 rfl rfl dX1_hasChanged_9 ?_
  refine lv_iload_n S.1 S.2.1 dX1_hasChanged_12 rfl (lv_at hl 0 rfl) ?_
  refine hm_iald (x := (gTo d) 0) S hE hG h62 rfl (by unfold vp_in; decide) (congrArg (gTo d) (by decide)) dX1_hasChanged_13 ?_
  refine lv_aload_n S.1 S.2.1 dX1_hasChanged_14 rfl (lv_at hl 1 rfl) ?_
  refine hm_get (k := 0) S hE hG h60 rfl rfl hi_X10 (by decide) hb_53 rfl rfl dX1_hasChanged_15 ?_
  refine lv_iload_n S.1 S.2.1 dX1_hasChanged_18 rfl (lv_at hl 0 rfl) ?_
  refine hm_iald (x := (gLo d) 0) S hE hG h61 rfl (by unfold vp_in; decide) (congrArg (gLo d) (by decide)) dX1_hasChanged_19 ?_
  refine lv_icmp_eq (tgt := 25) S.1 S.2.1 dX1_hasChanged_20 (by decide) (fun c20 => ?_) (fun c20 => ?_)
  · skip
    refine lv_iinc (v := 1) (lv' := [(1, .int 1), (0, .ref (ad (60, j, 0)))]) S.1 S.2.1 dX1_hasChanged_25 hl (k := 0) rfl (by decide) (by decide) rfl (fun ls hl => ?_)
    refine lv_goto (tgt := 2) S.1 S.2.1 dX1_hasChanged_28 (by decide) ?_
    refine lv_iload_n S.1 S.2.1 dX1_hasChanged_2 rfl (lv_at hl 0 rfl) ?_
    refine lv_bipush (v := 6) S.1 S.2.1 dX1_hasChanged_3 (by decide) ?_
    refine lv_icmp_ge (tgt := 31) S.1 S.2.1 dX1_hasChanged_5 (by decide) (fun h9 => absurd h9 (by decide)) (fun _ => ?_)
    refine lv_aload_n S.1 S.2.1 dX1_hasChanged_8 rfl (lv_at hl 1 rfl) ?_
    refine hm_get (k := 1) S hE hG h60 rfl rfl hi_X10 (by decide) hb_54 rfl rfl dX1_hasChanged_9 ?_
    refine lv_iload_n S.1 S.2.1 dX1_hasChanged_12 rfl (lv_at hl 0 rfl) ?_
    refine hm_iald (x := (gTo d) 1) S hE hG h62 rfl (by unfold vp_in; decide) (congrArg (gTo d) (by decide)) dX1_hasChanged_13 ?_
    refine lv_aload_n S.1 S.2.1 dX1_hasChanged_14 rfl (lv_at hl 1 rfl) ?_
    refine hm_get (k := 0) S hE hG h60 rfl rfl hi_X10 (by decide) hb_53 rfl rfl dX1_hasChanged_15 ?_
    refine lv_iload_n S.1 S.2.1 dX1_hasChanged_18 rfl (lv_at hl 0 rfl) ?_
    refine hm_iald (x := (gLo d) 1) S hE hG h61 rfl (by unfold vp_in; decide) (congrArg (gLo d) (by decide)) dX1_hasChanged_19 ?_
    refine lv_icmp_eq (tgt := 25) S.1 S.2.1 dX1_hasChanged_20 (by decide) (fun c20 => ?_) (fun c20 => ?_)
    · skip
      refine lv_iinc (v := 2) (lv' := [(1, .int 2), (0, .ref (ad (60, j, 0)))]) S.1 S.2.1 dX1_hasChanged_25 hl (k := 0) rfl (by decide) (by decide) rfl (fun ls hl => ?_)
      refine lv_goto (tgt := 2) S.1 S.2.1 dX1_hasChanged_28 (by decide) ?_
      refine lv_iload_n S.1 S.2.1 dX1_hasChanged_2 rfl (lv_at hl 0 rfl) ?_
      refine lv_bipush (v := 6) S.1 S.2.1 dX1_hasChanged_3 (by decide) ?_
      refine lv_icmp_ge (tgt := 31) S.1 S.2.1 dX1_hasChanged_5 (by decide) (fun h9 => absurd h9 (by decide)) (fun _ => ?_)
      refine lv_aload_n S.1 S.2.1 dX1_hasChanged_8 rfl (lv_at hl 1 rfl) ?_
      refine hm_get (k := 1) S hE hG h60 rfl rfl hi_X10 (by decide) hb_54 rfl rfl dX1_hasChanged_9 ?_
      refine lv_iload_n S.1 S.2.1 dX1_hasChanged_12 rfl (lv_at hl 0 rfl) ?_
      refine hm_iald (x := (gTo d) 2) S hE hG h62 rfl (by unfold vp_in; decide) (congrArg (gTo d) (by decide)) dX1_hasChanged_13 ?_
      refine lv_aload_n S.1 S.2.1 dX1_hasChanged_14 rfl (lv_at hl 1 rfl) ?_
      refine hm_get (k := 0) S hE hG h60 rfl rfl hi_X10 (by decide) hb_53 rfl rfl dX1_hasChanged_15 ?_
      refine lv_iload_n S.1 S.2.1 dX1_hasChanged_18 rfl (lv_at hl 0 rfl) ?_
      refine hm_iald (x := (gLo d) 2) S hE hG h61 rfl (by unfold vp_in; decide) (congrArg (gLo d) (by decide)) dX1_hasChanged_19 ?_
      refine lv_icmp_eq (tgt := 25) S.1 S.2.1 dX1_hasChanged_20 (by decide) (fun c20 => ?_) (fun c20 => ?_)
      · skip
        refine lv_iinc (v := 3) (lv' := [(1, .int 3), (0, .ref (ad (60, j, 0)))]) S.1 S.2.1 dX1_hasChanged_25 hl (k := 0) rfl (by decide) (by decide) rfl (fun ls hl => ?_)
        refine lv_goto (tgt := 2) S.1 S.2.1 dX1_hasChanged_28 (by decide) ?_
        refine lv_iload_n S.1 S.2.1 dX1_hasChanged_2 rfl (lv_at hl 0 rfl) ?_
        refine lv_bipush (v := 6) S.1 S.2.1 dX1_hasChanged_3 (by decide) ?_
        refine lv_icmp_ge (tgt := 31) S.1 S.2.1 dX1_hasChanged_5 (by decide) (fun h9 => absurd h9 (by decide)) (fun _ => ?_)
        refine lv_aload_n S.1 S.2.1 dX1_hasChanged_8 rfl (lv_at hl 1 rfl) ?_
        refine hm_get (k := 1) S hE hG h60 rfl rfl hi_X10 (by decide) hb_54 rfl rfl dX1_hasChanged_9 ?_
        refine lv_iload_n S.1 S.2.1 dX1_hasChanged_12 rfl (lv_at hl 0 rfl) ?_
        refine hm_iald (x := (gTo d) 3) S hE hG h62 rfl (by unfold vp_in; decide) (congrArg (gTo d) (by decide)) dX1_hasChanged_13 ?_
        refine lv_aload_n S.1 S.2.1 dX1_hasChanged_14 rfl (lv_at hl 1 rfl) ?_
        refine hm_get (k := 0) S hE hG h60 rfl rfl hi_X10 (by decide) hb_53 rfl rfl dX1_hasChanged_15 ?_
        refine lv_iload_n S.1 S.2.1 dX1_hasChanged_18 rfl (lv_at hl 0 rfl) ?_
        refine hm_iald (x := (gLo d) 3) S hE hG h61 rfl (by unfold vp_in; decide) (congrArg (gLo d) (by decide)) dX1_hasChanged_19 ?_
        refine lv_icmp_eq (tgt := 25) S.1 S.2.1 dX1_hasChanged_20 (by decide) (fun c20 => ?_) (fun c20 => ?_)
        · skip
          refine lv_iinc (v := 4) (lv' := [(1, .int 4), (0, .ref (ad (60, j, 0)))]) S.1 S.2.1 dX1_hasChanged_25 hl (k := 0) rfl (by decide) (by decide) rfl (fun ls hl => ?_)
          refine lv_goto (tgt := 2) S.1 S.2.1 dX1_hasChanged_28 (by decide) ?_
          refine lv_iload_n S.1 S.2.1 dX1_hasChanged_2 rfl (lv_at hl 0 rfl) ?_
          refine lv_bipush (v := 6) S.1 S.2.1 dX1_hasChanged_3 (by decide) ?_
          refine lv_icmp_ge (tgt := 31) S.1 S.2.1 dX1_hasChanged_5 (by decide) (fun h9 => absurd h9 (by decide)) (fun _ => ?_)
          refine lv_aload_n S.1 S.2.1 dX1_hasChanged_8 rfl (lv_at hl 1 rfl) ?_
          refine hm_get (k := 1) S hE hG h60 rfl rfl hi_X10 (by decide) hb_54 rfl rfl dX1_hasChanged_9 ?_
          refine lv_iload_n S.1 S.2.1 dX1_hasChanged_12 rfl (lv_at hl 0 rfl) ?_
          refine hm_iald (x := (gTo d) 4) S hE hG h62 rfl (by unfold vp_in; decide) (congrArg (gTo d) (by decide)) dX1_hasChanged_13 ?_
          refine lv_aload_n S.1 S.2.1 dX1_hasChanged_14 rfl (lv_at hl 1 rfl) ?_
          refine hm_get (k := 0) S hE hG h60 rfl rfl hi_X10 (by decide) hb_53 rfl rfl dX1_hasChanged_15 ?_
          refine lv_iload_n S.1 S.2.1 dX1_hasChanged_18 rfl (lv_at hl 0 rfl) ?_
          refine hm_iald (x := (gLo d) 4) S hE hG h61 rfl (by unfold vp_in; decide) (congrArg (gLo d) (by decide)) dX1_hasChanged_19 ?_
          refine lv_icmp_eq (tgt := 25) S.1 S.2.1 dX1_hasChanged_20 (by decide) (fun c20 => ?_) (fun c20 => ?_)
          · skip
            refine lv_iinc (v := 5) (lv' := [(1, .int 5), (0, .ref (ad (60, j, 0)))]) S.1 S.2.1 dX1_hasChanged_25 hl (k := 0) rfl (by decide) (by decide) rfl (fun ls hl => ?_)
            refine lv_goto (tgt := 2) S.1 S.2.1 dX1_hasChanged_28 (by decide) ?_
            refine lv_iload_n S.1 S.2.1 dX1_hasChanged_2 rfl (lv_at hl 0 rfl) ?_
            refine lv_bipush (v := 6) S.1 S.2.1 dX1_hasChanged_3 (by decide) ?_
            refine lv_icmp_ge (tgt := 31) S.1 S.2.1 dX1_hasChanged_5 (by decide) (fun h9 => absurd h9 (by decide)) (fun _ => ?_)
            refine lv_aload_n S.1 S.2.1 dX1_hasChanged_8 rfl (lv_at hl 1 rfl) ?_
            refine hm_get (k := 1) S hE hG h60 rfl rfl hi_X10 (by decide) hb_54 rfl rfl dX1_hasChanged_9 ?_
            refine lv_iload_n S.1 S.2.1 dX1_hasChanged_12 rfl (lv_at hl 0 rfl) ?_
            refine hm_iald (x := (gTo d) 5) S hE hG h62 rfl (by unfold vp_in; decide) (congrArg (gTo d) (by decide)) dX1_hasChanged_13 ?_
            refine lv_aload_n S.1 S.2.1 dX1_hasChanged_14 rfl (lv_at hl 1 rfl) ?_
            refine hm_get (k := 0) S hE hG h60 rfl rfl hi_X10 (by decide) hb_53 rfl rfl dX1_hasChanged_15 ?_
            refine lv_iload_n S.1 S.2.1 dX1_hasChanged_18 rfl (lv_at hl 0 rfl) ?_
            refine hm_iald (x := (gLo d) 5) S hE hG h61 rfl (by unfold vp_in; decide) (congrArg (gLo d) (by decide)) dX1_hasChanged_19 ?_
            refine lv_icmp_eq (tgt := 25) S.1 S.2.1 dX1_hasChanged_20 (by decide) (fun c20 => ?_) (fun c20 => ?_)
            · skip
              refine lv_iinc (v := 6) (lv' := [(1, .int 6), (0, .ref (ad (60, j, 0)))]) S.1 S.2.1 dX1_hasChanged_25 hl (k := 0) rfl (by decide) (by decide) rfl (fun ls hl => ?_)
              refine lv_goto (tgt := 2) S.1 S.2.1 dX1_hasChanged_28 (by decide) ?_
              refine lv_iload_n S.1 S.2.1 dX1_hasChanged_2 rfl (lv_at hl 0 rfl) ?_
              refine lv_bipush (v := 6) S.1 S.2.1 dX1_hasChanged_3 (by decide) ?_
              refine lv_icmp_ge (tgt := 31) S.1 S.2.1 dX1_hasChanged_5 (by decide) (fun _ => ?_) (fun h9 => absurd (by decide) h9)
              refine lv_iconst (v := 0) S.1 S.2.1 dX1_hasChanged_31 (by decide) ?_
              exact hm_zret S hG hr hlk (by decide) (⟨by simp [chF, bI, *], rfl, rfl⟩) (Nat.le_of_ble_eq_true rfl) (Nat.le_of_ble_eq_true rfl) dX1_hasChanged_32
            · skip
              refine lv_iconst (v := 1) S.1 S.2.1 dX1_hasChanged_23 (by decide) ?_
              exact hm_zret S hG hr hlk (by decide) (⟨by simp [chF, bI, *], rfl, rfl⟩) (Nat.le_of_ble_eq_true rfl) (Nat.le_of_ble_eq_true rfl) dX1_hasChanged_24
          · skip
            refine lv_iconst (v := 1) S.1 S.2.1 dX1_hasChanged_23 (by decide) ?_
            exact hm_zret S hG hr hlk (by decide) (⟨by simp [chF, bI, *], rfl, rfl⟩) (Nat.le_of_ble_eq_true rfl) (Nat.le_of_ble_eq_true rfl) dX1_hasChanged_24
        · skip
          refine lv_iconst (v := 1) S.1 S.2.1 dX1_hasChanged_23 (by decide) ?_
          exact hm_zret S hG hr hlk (by decide) (⟨by simp [chF, bI, *], rfl, rfl⟩) (Nat.le_of_ble_eq_true rfl) (Nat.le_of_ble_eq_true rfl) dX1_hasChanged_24
      · skip
        refine lv_iconst (v := 1) S.1 S.2.1 dX1_hasChanged_23 (by decide) ?_
        exact hm_zret S hG hr hlk (by decide) (⟨by simp [chF, bI, *], rfl, rfl⟩) (Nat.le_of_ble_eq_true rfl) (Nat.le_of_ble_eq_true rfl) dX1_hasChanged_24
    · skip
      refine lv_iconst (v := 1) S.1 S.2.1 dX1_hasChanged_23 (by decide) ?_
      exact hm_zret S hG hr hlk (by decide) (⟨by simp [chF, bI, *], rfl, rfl⟩) (Nat.le_of_ble_eq_true rfl) (Nat.le_of_ble_eq_true rfl) dX1_hasChanged_24
  · skip
    refine lv_iconst (v := 1) S.1 S.2.1 dX1_hasChanged_23 (by decide) ?_
    exact hm_zret S hG hr hlk (by decide) (⟨by simp [chF, bI, *], rfl, rfl⟩) (Nat.le_of_ble_eq_true rfl) (Nat.le_of_ble_eq_true rfl) dX1_hasChanged_24

abbrev rm_X1_isDue : Room := { frames := 3, cells := 0, slots := 0, locals := 62 }
set_option maxHeartbeats 4000000 in
set_option maxRecDepth 100000 in
theorem c_X1_isDue (l : Launch) (g : GV) (ad : AD) (M : CT) (j : Nat) (d : GrD) (hd : hasGr g ad M j d) (clk rep : Int32) : hm_Met l yX1_isDue cX1_isDue 4 (some .boolean) rm_X1_isDue g ad M [.ref (ad (60, j, 0)), .int clk, .int rep] (hm_pU ad M (some (.int (bI (dueF d clk rep))))) := by
  refine hm_start (own := RX1) (by decide) rfl (Nat.le_of_ble_eq_true rfl) ?_
  intro p e s m args below meth c S hr hlk hnm hE hG ls hl
  have hl : lv_has ls 4 [(0, .ref (ad (60, j, 0))), (1, .int clk), (2, .int rep)] := hl
  obtain ⟨h60, h61, h62⟩ := id hd
  refine lv_aload_n S.1 S.2.1 dX1_isDue_0 rfl (lv_at hl 0 rfl) ?_
  refine hm_uV (As := []) (rest := []) (st1 := [.int (bI (ilF d))]) S hE hG (c_X1_isLoud l g ad M j d hd) (hm_gV hb_441 hb_442 hb_443 hb_22 hb_444) hd_X1_isLoud rfl h60 rfl rfl ⟨Nat.le_of_ble_eq_true rfl, Nat.le_of_ble_eq_true rfl⟩ rfl hl.1 rfl (Nat.le_of_ble_eq_true rfl) dX1_isDue_1 ⟨Nat.le_of_ble_eq_true rfl, Nat.le_of_ble_eq_true rfl⟩ rfl (fun H locs hG => ?_)
  refine lv_if_ne (tgt := 12) S.1 S.2.1 dX1_isDue_4 (by decide) (fun c4 => ?_) (fun c4 => ?_)
  · skip
    have e4 : ilF d = true := bI_ne.mp c4
    refine lv_aload_n S.1 S.2.1 dX1_isDue_12 rfl (lv_at hl 0 rfl) ?_
    refine hm_uV (As := []) (rest := []) (st1 := [.int (bI (nzF (gTo d)))]) S hE hG (c_X1_hasTold l g ad M j d hd) (hm_gV hb_456 hb_457 hb_458 hb_22 hb_459) hd_X1_hasTold rfl h60 rfl rfl ⟨Nat.le_of_ble_eq_true rfl, Nat.le_of_ble_eq_true rfl⟩ rfl hl.1 rfl (Nat.le_of_ble_eq_true rfl) dX1_isDue_13 ⟨Nat.le_of_ble_eq_true rfl, Nat.le_of_ble_eq_true rfl⟩ rfl (fun H locs hG => ?_)
    refine lv_if_ne (tgt := 24) S.1 S.2.1 dX1_isDue_16 (by decide) (fun c16 => ?_) (fun c16 => ?_)
    · skip
      have e16 : nzF (gTo d) = true := bI_ne.mp c16
      refine lv_iload_n S.1 S.2.1 dX1_isDue_24 rfl (lv_at hl 1 rfl) ?_
      refine lv_aload_n S.1 S.2.1 dX1_isDue_25 rfl (lv_at hl 0 rfl) ?_
      refine hm_get (k := 2) S hE hG h60 rfl rfl hi_X10 (by decide) hb_55 rfl rfl dX1_isDue_26 ?_
      refine lv_isub S.1 S.2.1 dX1_isDue_29 ?_
      refine lv_istore_n (lv' := [(3, .int (clk - (gAt d))), (0, .ref (ad (60, j, 0))), (1, .int clk), (2, .int rep)]) S.1 S.2.1 dX1_isDue_30 rfl hl (by decide) rfl (fun ls hl => ?_)
      refine lv_iload_n S.1 S.2.1 dX1_isDue_31 rfl (lv_at hl 0 rfl) ?_
      refine lv_iload_n S.1 S.2.1 dX1_isDue_32 rfl (lv_at hl 3 rfl) ?_
      refine lv_icmp_ge (tgt := 48) S.1 S.2.1 dX1_isDue_33 (by decide) (fun c33 => ?_) (fun c33 => ?_)
      · skip
        refine lv_iconst (v := 1) S.1 S.2.1 dX1_isDue_48 (by decide) ?_
        refine lv_goto (tgt := 53) S.1 S.2.1 dX1_isDue_49 (by decide) ?_
        exact hm_zret S hG hr hlk (by decide) (⟨by rw [dueF]; simp [bI, *], rfl, rfl⟩) (Nat.le_of_ble_eq_true rfl) (Nat.le_of_ble_eq_true rfl) dX1_isDue_53
      · skip
        refine lv_iload_n S.1 S.2.1 dX1_isDue_36 rfl (lv_at hl 0 rfl) ?_
        refine lv_iconst (v := 3) S.1 S.2.1 dX1_isDue_37 (by decide) ?_
        refine lv_icmp_lt (tgt := 52) S.1 S.2.1 dX1_isDue_38 (by decide) (fun c38 => ?_) (fun c38 => ?_)
        · skip
          have e38 : ¬ 3 ≤ clk - gAt d := Int32.not_le.mpr c38
          refine lv_iconst (v := 0) S.1 S.2.1 dX1_isDue_52 (by decide) ?_
          exact hm_zret S hG hr hlk (by decide) (⟨by rw [dueF]; simp [bI, *], rfl, rfl⟩) (Nat.le_of_ble_eq_true rfl) (Nat.le_of_ble_eq_true rfl) dX1_isDue_53
        · skip
          have e38 : 3 ≤ clk - gAt d := Int32.not_lt.mp c38
          refine lv_aload_n S.1 S.2.1 dX1_isDue_41 rfl (lv_at hl 1 rfl) ?_
          refine hm_uV (As := []) (rest := []) (st1 := [.int (bI (chF (gTo d) (gLo d)))]) S hE hG (c_X1_hasChanged l g ad M j d hd) (hm_gV hb_460 hb_461 hb_462 hb_22 hb_463) hd_X1_hasChanged rfl h60 rfl rfl ⟨Nat.le_of_ble_eq_true rfl, Nat.le_of_ble_eq_true rfl⟩ rfl hl.1 rfl (Nat.le_of_ble_eq_true rfl) dX1_isDue_42 ⟨Nat.le_of_ble_eq_true rfl, Nat.le_of_ble_eq_true rfl⟩ rfl (fun H locs hG => ?_)
          refine lv_if_eq (tgt := 52) S.1 S.2.1 dX1_isDue_45 (by decide) (fun c45 => ?_) (fun c45 => ?_)
          · skip
            have e45 : chF (gTo d) (gLo d) = false := bI_0.mp c45
            refine lv_iconst (v := 0) S.1 S.2.1 dX1_isDue_52 (by decide) ?_
            exact hm_zret S hG hr hlk (by decide) (⟨by rw [dueF]; simp [bI, *], rfl, rfl⟩) (Nat.le_of_ble_eq_true rfl) (Nat.le_of_ble_eq_true rfl) dX1_isDue_53
          · skip
            have e45 : chF (gTo d) (gLo d) = true := bI_ne.mp c45
            refine lv_iconst (v := 1) S.1 S.2.1 dX1_isDue_48 (by decide) ?_
            refine lv_goto (tgt := 53) S.1 S.2.1 dX1_isDue_49 (by decide) ?_
            exact hm_zret S hG hr hlk (by decide) (⟨by rw [dueF]; simp [bI, *], rfl, rfl⟩) (Nat.le_of_ble_eq_true rfl) (Nat.le_of_ble_eq_true rfl) dX1_isDue_53
    · skip
      have e16 : nzF (gTo d) = false := bI_0.mp c16
      refine lv_aload_n S.1 S.2.1 dX1_isDue_19 rfl (lv_at hl 0 rfl) ?_
      refine hm_get (k := 3) S hE hG h60 rfl rfl hi_X10 (by decide) hb_56 rfl rfl dX1_isDue_20 ?_
      exact hm_zret S hG hr hlk (bI_01 _) (⟨by rw [dueF]; simp [bI, *], rfl, rfl⟩) (Nat.le_of_ble_eq_true rfl) (Nat.le_of_ble_eq_true rfl) dX1_isDue_23
  · skip
    have e4 : ilF d = false := bI_0.mp c4
    refine lv_aload_n S.1 S.2.1 dX1_isDue_7 rfl (lv_at hl 0 rfl) ?_
    refine hm_uV (As := []) (rest := []) (st1 := [.int (bI (nzF (gTo d)))]) S hE hG (c_X1_hasTold l g ad M j d hd) (hm_gV hb_456 hb_457 hb_458 hb_22 hb_459) hd_X1_hasTold rfl h60 rfl rfl ⟨Nat.le_of_ble_eq_true rfl, Nat.le_of_ble_eq_true rfl⟩ rfl hl.1 rfl (Nat.le_of_ble_eq_true rfl) dX1_isDue_8 ⟨Nat.le_of_ble_eq_true rfl, Nat.le_of_ble_eq_true rfl⟩ rfl (fun H locs hG => ?_)
    exact hm_zret S hG hr hlk (bI_01 _) (⟨by rw [dueF]; simp [bI, *], rfl, rfl⟩) (Nat.le_of_ble_eq_true rfl) (Nat.le_of_ble_eq_true rfl) dX1_isDue_11

abbrev rm_X1_hasLoudOf : Room := { frames := 1, cells := 0, slots := 0, locals := 22 }
set_option maxHeartbeats 4000000 in
set_option maxRecDepth 100000 in
theorem c_X1_hasLoudOf (l : Launch) (g : GV) (ad : AD) (M : CT) (j : Nat) (d : GrD) (hd : hasGr g ad M j d) (r : Nat) (hr6 : r < 6) : hm_Met l yX1_hasLoudOf cX1_hasLoudOf 2 (some .boolean) rm_X1_hasLoudOf g ad M [.ref (ad (60, j, 0)), .int (nI r)] (hm_pU ad M (some (.int (bI (!decide (gLo d r = 0)))))) := by
  refine hm_start (own := RX1) (by decide) rfl (Nat.le_of_ble_eq_true rfl) ?_
  intro p e s m args below meth c S hr hlk hnm hE hG ls hl
  have hl : lv_has ls 2 [(0, .ref (ad (60, j, 0))), (1, .int (nI r))] := hl
  obtain ⟨h60, h61, h62⟩ := id hd
  refine lv_iload_n S.1 S.2.1 dX1_hasLoudOf_0 rfl (lv_at hl 1 rfl) ?_
  refine lv_iconst (v := 0) S.1 S.2.1 dX1_hasLoudOf_1 (by decide) ?_
  refine lv_iconst (v := 5) S.1 S.2.1 dX1_hasLoudOf_2 (by decide) ?_
  refine hm_uSN (As := [.int (nI r), .int 0, .int 5]) (rest := []) (st1 := [.int (bI (decide ((nI r) < 0) || decide (5 < (nI r))))]) S hE hG (c_X6_isOutside l g ad M (nI r) 0 5) hb_93 hb_2 hb_92 (List.mem_of_getElem? (i := 3) rfl) hd_X6_isOutside ⟨Nat.le_of_ble_eq_true rfl, Nat.le_of_ble_eq_true rfl⟩ rfl hl.1 rfl (Nat.le_of_ble_eq_true rfl) dX1_hasLoudOf_3 ⟨Nat.le_of_ble_eq_true rfl, Nat.le_of_ble_eq_true rfl⟩ rfl (fun H locs hG => ?_)
  refine lv_if_ne (tgt := 22) S.1 S.2.1 dX1_hasLoudOf_6 (by decide) (fun h9 => absurd (hm_in0 (b := 5) (by omega) (by decide)) h9) (fun _ => ?_)
  refine lv_aload_n S.1 S.2.1 dX1_hasLoudOf_9 rfl (lv_at hl 0 rfl) ?_
  refine hm_get (k := 0) S hE hG h60 rfl rfl hi_X10 (by decide) hb_53 rfl rfl dX1_hasLoudOf_10 ?_
  refine lv_iload_n S.1 S.2.1 dX1_hasLoudOf_13 rfl (lv_at hl 1 rfl) ?_
  refine hm_iald (x := (gLo d) r) S hE hG h61 rfl (vp_in_nI (hr6) (by decide)) (congrArg (gLo d) (nI_clamp (Nat.lt_trans (hr6) (by decide)))) dX1_hasLoudOf_14 ?_
  refine lv_if_eq (tgt := 22) S.1 S.2.1 dX1_hasLoudOf_15 (by decide) (fun c15 => ?_) (fun c15 => ?_)
  · skip
    refine lv_iconst (v := 0) S.1 S.2.1 dX1_hasLoudOf_22 (by decide) ?_
    exact hm_zret S hG hr hlk (by decide) (⟨by simp [bI, *], rfl, rfl⟩) (Nat.le_of_ble_eq_true rfl) (Nat.le_of_ble_eq_true rfl) dX1_hasLoudOf_23
  · skip
    refine lv_iconst (v := 1) S.1 S.2.1 dX1_hasLoudOf_18 (by decide) ?_
    refine lv_goto (tgt := 23) S.1 S.2.1 dX1_hasLoudOf_19 (by decide) ?_
    exact hm_zret S hG hr hlk (by decide) (⟨by simp [bI, *], rfl, rfl⟩) (Nat.le_of_ble_eq_true rfl) (Nat.le_of_ble_eq_true rfl) dX1_hasLoudOf_23

abbrev rm_X1_addLoud : Room := { frames := 1, cells := 0, slots := 0, locals := 22 }
set_option maxHeartbeats 4000000 in
set_option maxRecDepth 100000 in
theorem c_X1_addLoud (l : Launch) (g : GV) (ad : AD) (M : CT) (j : Nat) (d : GrD) (hd : hasGr g ad M j d) (r k : Nat) (hr6 : r < 6) : hm_Met l yX1_addLoud cX1_addLoud 3 none rm_X1_addLoud g ad M [.ref (ad (60, j, 0)), .int (nI r), .int (nI k)] (hm_pU ad (hm_up M (61, j, 0) (hm_ia g 6 (gLo (alF d r k)))) none) := by
  refine hm_start (own := RX1) (by decide) rfl (Nat.le_of_ble_eq_true rfl) ?_
  intro p e s m args below meth c S hr hlk hnm hE hG ls hl
  have hl : lv_has ls 3 [(0, .ref (ad (60, j, 0))), (1, .int (nI r)), (2, .int (nI k))] := hl
  obtain ⟨h60, h61, h62⟩ := id hd
  refine lv_iload_n S.1 S.2.1 dX1_addLoud_0 rfl (lv_at hl 1 rfl) ?_
  refine lv_iconst (v := 0) S.1 S.2.1 dX1_addLoud_1 (by decide) ?_
  refine lv_iconst (v := 5) S.1 S.2.1 dX1_addLoud_2 (by decide) ?_
  refine hm_uSN (As := [.int (nI r), .int 0, .int 5]) (rest := []) (st1 := [.int (bI (decide ((nI r) < 0) || decide (5 < (nI r))))]) S hE hG (c_X6_isOutside l g ad M (nI r) 0 5) hb_93 hb_2 hb_92 (List.mem_of_getElem? (i := 3) rfl) hd_X6_isOutside ⟨Nat.le_of_ble_eq_true rfl, Nat.le_of_ble_eq_true rfl⟩ rfl hl.1 rfl (Nat.le_of_ble_eq_true rfl) dX1_addLoud_3 ⟨Nat.le_of_ble_eq_true rfl, Nat.le_of_ble_eq_true rfl⟩ rfl (fun H locs hG => ?_)
  refine lv_if_ne (tgt := 21) S.1 S.2.1 dX1_addLoud_6 (by decide) (fun h9 => absurd (hm_in0 (b := 5) (by omega) (by decide)) h9) (fun _ => ?_)
  refine lv_aload_n S.1 S.2.1 dX1_addLoud_9 rfl (lv_at hl 0 rfl) ?_
  refine hm_get (k := 0) S hE hG h60 rfl rfl hi_X10 (by decide) hb_53 rfl rfl dX1_addLoud_10 ?_
  refine lv_iload_n S.1 S.2.1 dX1_addLoud_13 rfl (lv_at hl 1 rfl) ?_
  refine lv_dup2_11 S.1 S.2.1 dX1_addLoud_14 rfl rfl ?_
  refine hm_iald (x := (gLo d) r) S hE hG h61 rfl (vp_in_nI (hr6) (by decide)) (congrArg (gLo d) (nI_clamp (Nat.lt_trans (hr6) (by decide)))) dX1_addLoud_15 ?_
  refine lv_iconst (v := 1) S.1 S.2.1 dX1_addLoud_16 (by decide) ?_
  refine lv_iload_n S.1 S.2.1 dX1_addLoud_17 rfl (lv_at hl 2 rfl) ?_
  refine lv_ishl S.1 S.2.1 dX1_addLoud_18 ?_
  refine lv_ior S.1 S.2.1 dX1_addLoud_19 ?_
  refine hm_iast2 (j := r) (x := (((gLo d) r) ||| (1 <<< ((nI k) &&& 31)))) S hE hG h61 rfl (vp_in_nI (hr6) (by decide)) (nI_clamp (Nat.lt_trans (hr6) (by decide))) dX1_addLoud_20 (fun H locs hG => ?_)
  obtain ⟨M_1, eM_1⟩ : ∃ z, z = hm_up M (61, j, 0) (hm_ia g 6 (upd (gLo d) r (((gLo d) r) ||| (1 <<< ((nI k) &&& 31))))) := ⟨_, rfl⟩
  rw [← eM_1] at hG
  have h_2 : M_1 (60, j, 0) = some (.inr (2, [.ref (ad (61, j, 0)), .ref (ad (62, j, 0)), .int (gAt d), .int (bI (gWa d))])) := by rw [eM_1]; exact (hm_up_n (by simp)).trans h60
  have h_3 : M_1 (61, j, 0) = some (hm_ia g 6 (upd (gLo d) r (((gLo d) r) ||| (1 <<< ((nI k) &&& 31))))) := by rw [eM_1]; exact hm_up_s
  have h_4 : M_1 (62, j, 0) = some (hm_ia g 6 (gTo d)) := by rw [eM_1]; exact (hm_up_n (by simp)).trans h62
  exact hm_vret S hG hr hlk (⟨rfl, rfl, by subst_vars; rfl⟩) (Nat.le_of_ble_eq_true rfl) (Nat.le_of_ble_eq_true rfl) dX1_addLoud_21

abbrev rm_X1_clearLoud : Room := { frames := 0, cells := 0, slots := 0, locals := 0 }
set_option maxHeartbeats 4000000 in
set_option maxRecDepth 100000 in
theorem c_X1_clearLoud (l : Launch) (g : GV) (ad : AD) (M : CT) (j : Nat) (d : GrD) (hd : hasGr g ad M j d) : hm_Met l yX1_clearLoud cX1_clearLoud 2 none rm_X1_clearLoud g ad M [.ref (ad (60, j, 0))] (hm_pU ad (hm_up M (61, j, 0) (hm_ia g 6 (gLo (clF d)))) none) := by
  refine hm_start (own := RX1) (by decide) rfl (Nat.le_of_ble_eq_true rfl) ?_
  intro p e s m args below meth c S hr hlk hnm hE hG ls hl
  have hl : lv_has ls 2 [(0, .ref (ad (60, j, 0)))] := hl
  obtain ⟨h60, h61, h62⟩ := id hd
  refine lv_iconst (v := 0) S.1 S.2.1 dX1_clearLoud_0 (by decide) ?_
  refine lv_istore_n (lv' := [(1, .int 0), (0, .ref (ad (60, j, 0)))]) S.1 S.2.1 dX1_clearLoud_1 rfl hl (by decide) rfl (fun ls hl => ?_)
  refine lv_iload_n S.1 S.2.1 dX1_clearLoud_2 rfl (lv_at hl 0 rfl) ?_
  refine lv_bipush (v := 6) S.1 S.2.1 dX1_clearLoud_3 (by decide) ?_
  refine lv_icmp_ge (tgt := 21) S.1 S.2.1 dX1_clearLoud_5 (by decide) (fun h9 => absurd h9 (by decide)) (fun _ => ?_)
  refine lv_aload_n S.1 S.2.1 dX1_clearLoud_8 rfl (lv_at hl 1 rfl) ?_
  refine hm_get (k := 0) S hE hG h60 rfl rfl hi_X10 (by decide) hb_53 rfl rfl dX1_clearLoud_9 ?_
  refine lv_iload_n S.1 S.2.1 dX1_clearLoud_12 rfl (lv_at hl 0 rfl) ?_
  refine lv_iconst (v := 0) S.1 S.2.1 dX1_clearLoud_13 (by decide) ?_
  refine hm_iast2 (j := 0) (x := 0) S hE hG h61 rfl (by unfold vp_in; decide) (by decide) dX1_clearLoud_14 (fun H locs hG => ?_)
  obtain ⟨M_1, eM_1⟩ : ∃ z, z = hm_up M (61, j, 0) (hm_ia g 6 (upd (gLo d) 0 0)) := ⟨_, rfl⟩
  rw [← eM_1] at hG
  have h_2 : M_1 (60, j, 0) = some (.inr (2, [.ref (ad (61, j, 0)), .ref (ad (62, j, 0)), .int (gAt d), .int (bI (gWa d))])) := by rw [eM_1]; exact (hm_up_n (by simp)).trans h60
  have h_3 : M_1 (61, j, 0) = some (hm_ia g 6 (upd (gLo d) 0 0)) := by rw [eM_1]; exact hm_up_s
  have h_4 : M_1 (62, j, 0) = some (hm_ia g 6 (gTo d)) := by rw [eM_1]; exact (hm_up_n (by simp)).trans h62
  refine lv_iinc (v := 1) (lv' := [(1, .int 1), (0, .ref (ad (60, j, 0)))]) S.1 S.2.1 dX1_clearLoud_15 hl (k := 0) rfl (by decide) (by decide) rfl (fun ls hl => ?_)
  refine lv_goto (tgt := 2) S.1 S.2.1 dX1_clearLoud_18 (by decide) ?_
  refine lv_iload_n S.1 S.2.1 dX1_clearLoud_2 rfl (lv_at hl 0 rfl) ?_
  refine lv_bipush (v := 6) S.1 S.2.1 dX1_clearLoud_3 (by decide) ?_
  refine lv_icmp_ge (tgt := 21) S.1 S.2.1 dX1_clearLoud_5 (by decide) (fun h9 => absurd h9 (by decide)) (fun _ => ?_)
  refine lv_aload_n S.1 S.2.1 dX1_clearLoud_8 rfl (lv_at hl 1 rfl) ?_
  refine hm_get (k := 0) S hE hG h_2 rfl rfl hi_X10 (by decide) hb_53 rfl rfl dX1_clearLoud_9 ?_
  refine lv_iload_n S.1 S.2.1 dX1_clearLoud_12 rfl (lv_at hl 0 rfl) ?_
  refine lv_iconst (v := 0) S.1 S.2.1 dX1_clearLoud_13 (by decide) ?_
  refine hm_iast2 (j := 1) (x := 0) S hE hG h_3 rfl (by unfold vp_in; decide) (by decide) dX1_clearLoud_14 (fun H locs hG => ?_)
  obtain ⟨M_5, eM_5⟩ : ∃ z, z = hm_up M_1 (61, j, 0) (hm_ia g 6 (upd (upd (gLo d) 0 0) 1 0)) := ⟨_, rfl⟩
  rw [← eM_5] at hG
  have h_6 : M_5 (60, j, 0) = some (.inr (2, [.ref (ad (61, j, 0)), .ref (ad (62, j, 0)), .int (gAt d), .int (bI (gWa d))])) := by rw [eM_5]; exact (hm_up_n (by simp)).trans h_2
  have h_7 : M_5 (61, j, 0) = some (hm_ia g 6 (upd (upd (gLo d) 0 0) 1 0)) := by rw [eM_5]; exact hm_up_s
  have h_8 : M_5 (62, j, 0) = some (hm_ia g 6 (gTo d)) := by rw [eM_5]; exact (hm_up_n (by simp)).trans h_4
  refine lv_iinc (v := 2) (lv' := [(1, .int 2), (0, .ref (ad (60, j, 0)))]) S.1 S.2.1 dX1_clearLoud_15 hl (k := 0) rfl (by decide) (by decide) rfl (fun ls hl => ?_)
  refine lv_goto (tgt := 2) S.1 S.2.1 dX1_clearLoud_18 (by decide) ?_
  refine lv_iload_n S.1 S.2.1 dX1_clearLoud_2 rfl (lv_at hl 0 rfl) ?_
  refine lv_bipush (v := 6) S.1 S.2.1 dX1_clearLoud_3 (by decide) ?_
  refine lv_icmp_ge (tgt := 21) S.1 S.2.1 dX1_clearLoud_5 (by decide) (fun h9 => absurd h9 (by decide)) (fun _ => ?_)
  refine lv_aload_n S.1 S.2.1 dX1_clearLoud_8 rfl (lv_at hl 1 rfl) ?_
  refine hm_get (k := 0) S hE hG h_6 rfl rfl hi_X10 (by decide) hb_53 rfl rfl dX1_clearLoud_9 ?_
  refine lv_iload_n S.1 S.2.1 dX1_clearLoud_12 rfl (lv_at hl 0 rfl) ?_
  refine lv_iconst (v := 0) S.1 S.2.1 dX1_clearLoud_13 (by decide) ?_
  refine hm_iast2 (j := 2) (x := 0) S hE hG h_7 rfl (by unfold vp_in; decide) (by decide) dX1_clearLoud_14 (fun H locs hG => ?_)
  obtain ⟨M_9, eM_9⟩ : ∃ z, z = hm_up M_5 (61, j, 0) (hm_ia g 6 (upd (upd (upd (gLo d) 0 0) 1 0) 2 0)) := ⟨_, rfl⟩
  rw [← eM_9] at hG
  have h_10 : M_9 (60, j, 0) = some (.inr (2, [.ref (ad (61, j, 0)), .ref (ad (62, j, 0)), .int (gAt d), .int (bI (gWa d))])) := by rw [eM_9]; exact (hm_up_n (by simp)).trans h_6
  have h_11 : M_9 (61, j, 0) = some (hm_ia g 6 (upd (upd (upd (gLo d) 0 0) 1 0) 2 0)) := by rw [eM_9]; exact hm_up_s
  have h_12 : M_9 (62, j, 0) = some (hm_ia g 6 (gTo d)) := by rw [eM_9]; exact (hm_up_n (by simp)).trans h_8
  refine lv_iinc (v := 3) (lv' := [(1, .int 3), (0, .ref (ad (60, j, 0)))]) S.1 S.2.1 dX1_clearLoud_15 hl (k := 0) rfl (by decide) (by decide) rfl (fun ls hl => ?_)
  refine lv_goto (tgt := 2) S.1 S.2.1 dX1_clearLoud_18 (by decide) ?_
  refine lv_iload_n S.1 S.2.1 dX1_clearLoud_2 rfl (lv_at hl 0 rfl) ?_
  refine lv_bipush (v := 6) S.1 S.2.1 dX1_clearLoud_3 (by decide) ?_
  refine lv_icmp_ge (tgt := 21) S.1 S.2.1 dX1_clearLoud_5 (by decide) (fun h9 => absurd h9 (by decide)) (fun _ => ?_)
  refine lv_aload_n S.1 S.2.1 dX1_clearLoud_8 rfl (lv_at hl 1 rfl) ?_
  refine hm_get (k := 0) S hE hG h_10 rfl rfl hi_X10 (by decide) hb_53 rfl rfl dX1_clearLoud_9 ?_
  refine lv_iload_n S.1 S.2.1 dX1_clearLoud_12 rfl (lv_at hl 0 rfl) ?_
  refine lv_iconst (v := 0) S.1 S.2.1 dX1_clearLoud_13 (by decide) ?_
  refine hm_iast2 (j := 3) (x := 0) S hE hG h_11 rfl (by unfold vp_in; decide) (by decide) dX1_clearLoud_14 (fun H locs hG => ?_)
  obtain ⟨M_13, eM_13⟩ : ∃ z, z = hm_up M_9 (61, j, 0) (hm_ia g 6 (upd (upd (upd (upd (gLo d) 0 0) 1 0) 2 0) 3 0)) := ⟨_, rfl⟩
  rw [← eM_13] at hG
  have h_14 : M_13 (60, j, 0) = some (.inr (2, [.ref (ad (61, j, 0)), .ref (ad (62, j, 0)), .int (gAt d), .int (bI (gWa d))])) := by rw [eM_13]; exact (hm_up_n (by simp)).trans h_10
  have h_15 : M_13 (61, j, 0) = some (hm_ia g 6 (upd (upd (upd (upd (gLo d) 0 0) 1 0) 2 0) 3 0)) := by rw [eM_13]; exact hm_up_s
  have h_16 : M_13 (62, j, 0) = some (hm_ia g 6 (gTo d)) := by rw [eM_13]; exact (hm_up_n (by simp)).trans h_12
  refine lv_iinc (v := 4) (lv' := [(1, .int 4), (0, .ref (ad (60, j, 0)))]) S.1 S.2.1 dX1_clearLoud_15 hl (k := 0) rfl (by decide) (by decide) rfl (fun ls hl => ?_)
  refine lv_goto (tgt := 2) S.1 S.2.1 dX1_clearLoud_18 (by decide) ?_
  refine lv_iload_n S.1 S.2.1 dX1_clearLoud_2 rfl (lv_at hl 0 rfl) ?_
  refine lv_bipush (v := 6) S.1 S.2.1 dX1_clearLoud_3 (by decide) ?_
  refine lv_icmp_ge (tgt := 21) S.1 S.2.1 dX1_clearLoud_5 (by decide) (fun h9 => absurd h9 (by decide)) (fun _ => ?_)
  refine lv_aload_n S.1 S.2.1 dX1_clearLoud_8 rfl (lv_at hl 1 rfl) ?_
  refine hm_get (k := 0) S hE hG h_14 rfl rfl hi_X10 (by decide) hb_53 rfl rfl dX1_clearLoud_9 ?_
  refine lv_iload_n S.1 S.2.1 dX1_clearLoud_12 rfl (lv_at hl 0 rfl) ?_
  refine lv_iconst (v := 0) S.1 S.2.1 dX1_clearLoud_13 (by decide) ?_
  refine hm_iast2 (j := 4) (x := 0) S hE hG h_15 rfl (by unfold vp_in; decide) (by decide) dX1_clearLoud_14 (fun H locs hG => ?_)
  obtain ⟨M_17, eM_17⟩ : ∃ z, z = hm_up M_13 (61, j, 0) (hm_ia g 6 (upd (upd (upd (upd (upd (gLo d) 0 0) 1 0) 2 0) 3 0) 4 0)) := ⟨_, rfl⟩
  rw [← eM_17] at hG
  have h_18 : M_17 (60, j, 0) = some (.inr (2, [.ref (ad (61, j, 0)), .ref (ad (62, j, 0)), .int (gAt d), .int (bI (gWa d))])) := by rw [eM_17]; exact (hm_up_n (by simp)).trans h_14
  have h_19 : M_17 (61, j, 0) = some (hm_ia g 6 (upd (upd (upd (upd (upd (gLo d) 0 0) 1 0) 2 0) 3 0) 4 0)) := by rw [eM_17]; exact hm_up_s
  have h_20 : M_17 (62, j, 0) = some (hm_ia g 6 (gTo d)) := by rw [eM_17]; exact (hm_up_n (by simp)).trans h_16
  refine lv_iinc (v := 5) (lv' := [(1, .int 5), (0, .ref (ad (60, j, 0)))]) S.1 S.2.1 dX1_clearLoud_15 hl (k := 0) rfl (by decide) (by decide) rfl (fun ls hl => ?_)
  refine lv_goto (tgt := 2) S.1 S.2.1 dX1_clearLoud_18 (by decide) ?_
  refine lv_iload_n S.1 S.2.1 dX1_clearLoud_2 rfl (lv_at hl 0 rfl) ?_
  refine lv_bipush (v := 6) S.1 S.2.1 dX1_clearLoud_3 (by decide) ?_
  refine lv_icmp_ge (tgt := 21) S.1 S.2.1 dX1_clearLoud_5 (by decide) (fun h9 => absurd h9 (by decide)) (fun _ => ?_)
  refine lv_aload_n S.1 S.2.1 dX1_clearLoud_8 rfl (lv_at hl 1 rfl) ?_
  refine hm_get (k := 0) S hE hG h_18 rfl rfl hi_X10 (by decide) hb_53 rfl rfl dX1_clearLoud_9 ?_
  refine lv_iload_n S.1 S.2.1 dX1_clearLoud_12 rfl (lv_at hl 0 rfl) ?_
  refine lv_iconst (v := 0) S.1 S.2.1 dX1_clearLoud_13 (by decide) ?_
  refine hm_iast2 (j := 5) (x := 0) S hE hG h_19 rfl (by unfold vp_in; decide) (by decide) dX1_clearLoud_14 (fun H locs hG => ?_)
  obtain ⟨M_21, eM_21⟩ : ∃ z, z = hm_up M_17 (61, j, 0) (hm_ia g 6 (upd (upd (upd (upd (upd (upd (gLo d) 0 0) 1 0) 2 0) 3 0) 4 0) 5 0)) := ⟨_, rfl⟩
  rw [← eM_21] at hG
  have h_22 : M_21 (60, j, 0) = some (.inr (2, [.ref (ad (61, j, 0)), .ref (ad (62, j, 0)), .int (gAt d), .int (bI (gWa d))])) := by rw [eM_21]; exact (hm_up_n (by simp)).trans h_18
  have h_23 : M_21 (61, j, 0) = some (hm_ia g 6 (upd (upd (upd (upd (upd (upd (gLo d) 0 0) 1 0) 2 0) 3 0) 4 0) 5 0)) := by rw [eM_21]; exact hm_up_s
  have h_24 : M_21 (62, j, 0) = some (hm_ia g 6 (gTo d)) := by rw [eM_21]; exact (hm_up_n (by simp)).trans h_20
  refine lv_iinc (v := 6) (lv' := [(1, .int 6), (0, .ref (ad (60, j, 0)))]) S.1 S.2.1 dX1_clearLoud_15 hl (k := 0) rfl (by decide) (by decide) rfl (fun ls hl => ?_)
  refine lv_goto (tgt := 2) S.1 S.2.1 dX1_clearLoud_18 (by decide) ?_
  refine lv_iload_n S.1 S.2.1 dX1_clearLoud_2 rfl (lv_at hl 0 rfl) ?_
  refine lv_bipush (v := 6) S.1 S.2.1 dX1_clearLoud_3 (by decide) ?_
  refine lv_icmp_ge (tgt := 21) S.1 S.2.1 dX1_clearLoud_5 (by decide) (fun _ => ?_) (fun h9 => absurd (by decide) h9)
  exact hm_vret S hG hr hlk (⟨rfl, rfl, by subst_vars; simp only [hm_up_up]; rfl⟩) (Nat.le_of_ble_eq_true rfl) (Nat.le_of_ble_eq_true rfl) dX1_clearLoud_21

abbrev rm_X1_forget : Room := { frames := 0, cells := 0, slots := 0, locals := 0 }
set_option maxHeartbeats 4000000 in
set_option maxRecDepth 100000 in
theorem c_X1_forget (l : Launch) (g : GV) (ad : AD) (M : CT) (j : Nat) (d : GrD) (hd : hasGr g ad M j d) : hm_Met l yX1_forget cX1_forget 2 none rm_X1_forget g ad M [.ref (ad (60, j, 0))] (hm_pU ad (hm_up (hm_up M (62, j, 0) (hm_ia g 6 (gTo (fgF d)))) (60, j, 0) (grE ad j (fgF d))) none) := by
  refine hm_start (own := RX1) (by decide) rfl (Nat.le_of_ble_eq_true rfl) ?_
  intro p e s m args below meth c S hr hlk hnm hE hG ls hl
  have hl : lv_has ls 2 [(0, .ref (ad (60, j, 0)))] := hl
  obtain ⟨h60, h61, h62⟩ := id hd
  refine lv_iconst (v := 0) S.1 S.2.1 dX1_forget_0 (by decide) ?_
  refine lv_istore_n (lv' := [(1, .int 0), (0, .ref (ad (60, j, 0)))]) S.1 S.2.1 dX1_forget_1 rfl hl (by decide) rfl (fun ls hl => ?_)
  refine lv_iload_n S.1 S.2.1 dX1_forget_2 rfl (lv_at hl 0 rfl) ?_
  refine lv_bipush (v := 6) S.1 S.2.1 dX1_forget_3 (by decide) ?_
  refine lv_icmp_ge (tgt := 21) S.1 S.2.1 dX1_forget_5 (by decide) (fun h9 => absurd h9 (by decide)) (fun _ => ?_)
  refine lv_aload_n S.1 S.2.1 dX1_forget_8 rfl (lv_at hl 1 rfl) ?_
  refine hm_get (k := 1) S hE hG h60 rfl rfl hi_X10 (by decide) hb_54 rfl rfl dX1_forget_9 ?_
  refine lv_iload_n S.1 S.2.1 dX1_forget_12 rfl (lv_at hl 0 rfl) ?_
  refine lv_iconst (v := 0) S.1 S.2.1 dX1_forget_13 (by decide) ?_
  refine hm_iast2 (j := 0) (x := 0) S hE hG h62 rfl (by unfold vp_in; decide) (by decide) dX1_forget_14 (fun H locs hG => ?_)
  obtain ⟨M_1, eM_1⟩ : ∃ z, z = hm_up M (62, j, 0) (hm_ia g 6 (upd (gTo d) 0 0)) := ⟨_, rfl⟩
  rw [← eM_1] at hG
  have h_2 : M_1 (60, j, 0) = some (.inr (2, [.ref (ad (61, j, 0)), .ref (ad (62, j, 0)), .int (gAt d), .int (bI (gWa d))])) := by rw [eM_1]; exact (hm_up_n (by simp)).trans h60
  have h_3 : M_1 (61, j, 0) = some (hm_ia g 6 (gLo d)) := by rw [eM_1]; exact (hm_up_n (by simp)).trans h61
  have h_4 : M_1 (62, j, 0) = some (hm_ia g 6 (upd (gTo d) 0 0)) := by rw [eM_1]; exact hm_up_s
  refine lv_iinc (v := 1) (lv' := [(1, .int 1), (0, .ref (ad (60, j, 0)))]) S.1 S.2.1 dX1_forget_15 hl (k := 0) rfl (by decide) (by decide) rfl (fun ls hl => ?_)
  refine lv_goto (tgt := 2) S.1 S.2.1 dX1_forget_18 (by decide) ?_
  refine lv_iload_n S.1 S.2.1 dX1_forget_2 rfl (lv_at hl 0 rfl) ?_
  refine lv_bipush (v := 6) S.1 S.2.1 dX1_forget_3 (by decide) ?_
  refine lv_icmp_ge (tgt := 21) S.1 S.2.1 dX1_forget_5 (by decide) (fun h9 => absurd h9 (by decide)) (fun _ => ?_)
  refine lv_aload_n S.1 S.2.1 dX1_forget_8 rfl (lv_at hl 1 rfl) ?_
  refine hm_get (k := 1) S hE hG h_2 rfl rfl hi_X10 (by decide) hb_54 rfl rfl dX1_forget_9 ?_
  refine lv_iload_n S.1 S.2.1 dX1_forget_12 rfl (lv_at hl 0 rfl) ?_
  refine lv_iconst (v := 0) S.1 S.2.1 dX1_forget_13 (by decide) ?_
  refine hm_iast2 (j := 1) (x := 0) S hE hG h_4 rfl (by unfold vp_in; decide) (by decide) dX1_forget_14 (fun H locs hG => ?_)
  obtain ⟨M_5, eM_5⟩ : ∃ z, z = hm_up M_1 (62, j, 0) (hm_ia g 6 (upd (upd (gTo d) 0 0) 1 0)) := ⟨_, rfl⟩
  rw [← eM_5] at hG
  have h_6 : M_5 (60, j, 0) = some (.inr (2, [.ref (ad (61, j, 0)), .ref (ad (62, j, 0)), .int (gAt d), .int (bI (gWa d))])) := by rw [eM_5]; exact (hm_up_n (by simp)).trans h_2
  have h_7 : M_5 (61, j, 0) = some (hm_ia g 6 (gLo d)) := by rw [eM_5]; exact (hm_up_n (by simp)).trans h_3
  have h_8 : M_5 (62, j, 0) = some (hm_ia g 6 (upd (upd (gTo d) 0 0) 1 0)) := by rw [eM_5]; exact hm_up_s
  refine lv_iinc (v := 2) (lv' := [(1, .int 2), (0, .ref (ad (60, j, 0)))]) S.1 S.2.1 dX1_forget_15 hl (k := 0) rfl (by decide) (by decide) rfl (fun ls hl => ?_)
  refine lv_goto (tgt := 2) S.1 S.2.1 dX1_forget_18 (by decide) ?_
  refine lv_iload_n S.1 S.2.1 dX1_forget_2 rfl (lv_at hl 0 rfl) ?_
  refine lv_bipush (v := 6) S.1 S.2.1 dX1_forget_3 (by decide) ?_
  refine lv_icmp_ge (tgt := 21) S.1 S.2.1 dX1_forget_5 (by decide) (fun h9 => absurd h9 (by decide)) (fun _ => ?_)
  refine lv_aload_n S.1 S.2.1 dX1_forget_8 rfl (lv_at hl 1 rfl) ?_
  refine hm_get (k := 1) S hE hG h_6 rfl rfl hi_X10 (by decide) hb_54 rfl rfl dX1_forget_9 ?_
  refine lv_iload_n S.1 S.2.1 dX1_forget_12 rfl (lv_at hl 0 rfl) ?_
  refine lv_iconst (v := 0) S.1 S.2.1 dX1_forget_13 (by decide) ?_
  refine hm_iast2 (j := 2) (x := 0) S hE hG h_8 rfl (by unfold vp_in; decide) (by decide) dX1_forget_14 (fun H locs hG => ?_)
  obtain ⟨M_9, eM_9⟩ : ∃ z, z = hm_up M_5 (62, j, 0) (hm_ia g 6 (upd (upd (upd (gTo d) 0 0) 1 0) 2 0)) := ⟨_, rfl⟩
  rw [← eM_9] at hG
  have h_10 : M_9 (60, j, 0) = some (.inr (2, [.ref (ad (61, j, 0)), .ref (ad (62, j, 0)), .int (gAt d), .int (bI (gWa d))])) := by rw [eM_9]; exact (hm_up_n (by simp)).trans h_6
  have h_11 : M_9 (61, j, 0) = some (hm_ia g 6 (gLo d)) := by rw [eM_9]; exact (hm_up_n (by simp)).trans h_7
  have h_12 : M_9 (62, j, 0) = some (hm_ia g 6 (upd (upd (upd (gTo d) 0 0) 1 0) 2 0)) := by rw [eM_9]; exact hm_up_s
  refine lv_iinc (v := 3) (lv' := [(1, .int 3), (0, .ref (ad (60, j, 0)))]) S.1 S.2.1 dX1_forget_15 hl (k := 0) rfl (by decide) (by decide) rfl (fun ls hl => ?_)
  refine lv_goto (tgt := 2) S.1 S.2.1 dX1_forget_18 (by decide) ?_
  refine lv_iload_n S.1 S.2.1 dX1_forget_2 rfl (lv_at hl 0 rfl) ?_
  refine lv_bipush (v := 6) S.1 S.2.1 dX1_forget_3 (by decide) ?_
  refine lv_icmp_ge (tgt := 21) S.1 S.2.1 dX1_forget_5 (by decide) (fun h9 => absurd h9 (by decide)) (fun _ => ?_)
  refine lv_aload_n S.1 S.2.1 dX1_forget_8 rfl (lv_at hl 1 rfl) ?_
  refine hm_get (k := 1) S hE hG h_10 rfl rfl hi_X10 (by decide) hb_54 rfl rfl dX1_forget_9 ?_
  refine lv_iload_n S.1 S.2.1 dX1_forget_12 rfl (lv_at hl 0 rfl) ?_
  refine lv_iconst (v := 0) S.1 S.2.1 dX1_forget_13 (by decide) ?_
  refine hm_iast2 (j := 3) (x := 0) S hE hG h_12 rfl (by unfold vp_in; decide) (by decide) dX1_forget_14 (fun H locs hG => ?_)
  obtain ⟨M_13, eM_13⟩ : ∃ z, z = hm_up M_9 (62, j, 0) (hm_ia g 6 (upd (upd (upd (upd (gTo d) 0 0) 1 0) 2 0) 3 0)) := ⟨_, rfl⟩
  rw [← eM_13] at hG
  have h_14 : M_13 (60, j, 0) = some (.inr (2, [.ref (ad (61, j, 0)), .ref (ad (62, j, 0)), .int (gAt d), .int (bI (gWa d))])) := by rw [eM_13]; exact (hm_up_n (by simp)).trans h_10
  have h_15 : M_13 (61, j, 0) = some (hm_ia g 6 (gLo d)) := by rw [eM_13]; exact (hm_up_n (by simp)).trans h_11
  have h_16 : M_13 (62, j, 0) = some (hm_ia g 6 (upd (upd (upd (upd (gTo d) 0 0) 1 0) 2 0) 3 0)) := by rw [eM_13]; exact hm_up_s
  refine lv_iinc (v := 4) (lv' := [(1, .int 4), (0, .ref (ad (60, j, 0)))]) S.1 S.2.1 dX1_forget_15 hl (k := 0) rfl (by decide) (by decide) rfl (fun ls hl => ?_)
  refine lv_goto (tgt := 2) S.1 S.2.1 dX1_forget_18 (by decide) ?_
  refine lv_iload_n S.1 S.2.1 dX1_forget_2 rfl (lv_at hl 0 rfl) ?_
  refine lv_bipush (v := 6) S.1 S.2.1 dX1_forget_3 (by decide) ?_
  refine lv_icmp_ge (tgt := 21) S.1 S.2.1 dX1_forget_5 (by decide) (fun h9 => absurd h9 (by decide)) (fun _ => ?_)
  refine lv_aload_n S.1 S.2.1 dX1_forget_8 rfl (lv_at hl 1 rfl) ?_
  refine hm_get (k := 1) S hE hG h_14 rfl rfl hi_X10 (by decide) hb_54 rfl rfl dX1_forget_9 ?_
  refine lv_iload_n S.1 S.2.1 dX1_forget_12 rfl (lv_at hl 0 rfl) ?_
  refine lv_iconst (v := 0) S.1 S.2.1 dX1_forget_13 (by decide) ?_
  refine hm_iast2 (j := 4) (x := 0) S hE hG h_16 rfl (by unfold vp_in; decide) (by decide) dX1_forget_14 (fun H locs hG => ?_)
  obtain ⟨M_17, eM_17⟩ : ∃ z, z = hm_up M_13 (62, j, 0) (hm_ia g 6 (upd (upd (upd (upd (upd (gTo d) 0 0) 1 0) 2 0) 3 0) 4 0)) := ⟨_, rfl⟩
  rw [← eM_17] at hG
  have h_18 : M_17 (60, j, 0) = some (.inr (2, [.ref (ad (61, j, 0)), .ref (ad (62, j, 0)), .int (gAt d), .int (bI (gWa d))])) := by rw [eM_17]; exact (hm_up_n (by simp)).trans h_14
  have h_19 : M_17 (61, j, 0) = some (hm_ia g 6 (gLo d)) := by rw [eM_17]; exact (hm_up_n (by simp)).trans h_15
  have h_20 : M_17 (62, j, 0) = some (hm_ia g 6 (upd (upd (upd (upd (upd (gTo d) 0 0) 1 0) 2 0) 3 0) 4 0)) := by rw [eM_17]; exact hm_up_s
  refine lv_iinc (v := 5) (lv' := [(1, .int 5), (0, .ref (ad (60, j, 0)))]) S.1 S.2.1 dX1_forget_15 hl (k := 0) rfl (by decide) (by decide) rfl (fun ls hl => ?_)
  refine lv_goto (tgt := 2) S.1 S.2.1 dX1_forget_18 (by decide) ?_
  refine lv_iload_n S.1 S.2.1 dX1_forget_2 rfl (lv_at hl 0 rfl) ?_
  refine lv_bipush (v := 6) S.1 S.2.1 dX1_forget_3 (by decide) ?_
  refine lv_icmp_ge (tgt := 21) S.1 S.2.1 dX1_forget_5 (by decide) (fun h9 => absurd h9 (by decide)) (fun _ => ?_)
  refine lv_aload_n S.1 S.2.1 dX1_forget_8 rfl (lv_at hl 1 rfl) ?_
  refine hm_get (k := 1) S hE hG h_18 rfl rfl hi_X10 (by decide) hb_54 rfl rfl dX1_forget_9 ?_
  refine lv_iload_n S.1 S.2.1 dX1_forget_12 rfl (lv_at hl 0 rfl) ?_
  refine lv_iconst (v := 0) S.1 S.2.1 dX1_forget_13 (by decide) ?_
  refine hm_iast2 (j := 5) (x := 0) S hE hG h_20 rfl (by unfold vp_in; decide) (by decide) dX1_forget_14 (fun H locs hG => ?_)
  obtain ⟨M_21, eM_21⟩ : ∃ z, z = hm_up M_17 (62, j, 0) (hm_ia g 6 (upd (upd (upd (upd (upd (upd (gTo d) 0 0) 1 0) 2 0) 3 0) 4 0) 5 0)) := ⟨_, rfl⟩
  rw [← eM_21] at hG
  have h_22 : M_21 (60, j, 0) = some (.inr (2, [.ref (ad (61, j, 0)), .ref (ad (62, j, 0)), .int (gAt d), .int (bI (gWa d))])) := by rw [eM_21]; exact (hm_up_n (by simp)).trans h_18
  have h_23 : M_21 (61, j, 0) = some (hm_ia g 6 (gLo d)) := by rw [eM_21]; exact (hm_up_n (by simp)).trans h_19
  have h_24 : M_21 (62, j, 0) = some (hm_ia g 6 (upd (upd (upd (upd (upd (upd (gTo d) 0 0) 1 0) 2 0) 3 0) 4 0) 5 0)) := by rw [eM_21]; exact hm_up_s
  refine lv_iinc (v := 6) (lv' := [(1, .int 6), (0, .ref (ad (60, j, 0)))]) S.1 S.2.1 dX1_forget_15 hl (k := 0) rfl (by decide) (by decide) rfl (fun ls hl => ?_)
  refine lv_goto (tgt := 2) S.1 S.2.1 dX1_forget_18 (by decide) ?_
  refine lv_iload_n S.1 S.2.1 dX1_forget_2 rfl (lv_at hl 0 rfl) ?_
  refine lv_bipush (v := 6) S.1 S.2.1 dX1_forget_3 (by decide) ?_
  refine lv_icmp_ge (tgt := 21) S.1 S.2.1 dX1_forget_5 (by decide) (fun _ => ?_) (fun h9 => absurd (by decide) h9)
  refine lv_aload_n S.1 S.2.1 dX1_forget_21 rfl (lv_at hl 1 rfl) ?_
  refine lv_iconst (v := 0) S.1 S.2.1 dX1_forget_22 (by decide) ?_
  refine hm_put (k := 3) (fs' := [.ref (ad (61, j, 0)), .ref (ad (62, j, 0)), .int (gAt d), .int 0]) S hE hG h_22 rfl rfl hi_X10 tyX1_ok nmX1 (by decide) hb_56 rfl rfl (by rfl) (by rfl) (Nat.le_of_ble_eq_true rfl) rfl dX1_forget_23 (fun H locs hG => ?_)
  obtain ⟨M_25, eM_25⟩ : ∃ z, z = hm_up M_21 (60, j, 0) (.inr (2, [.ref (ad (61, j, 0)), .ref (ad (62, j, 0)), .int (gAt d), .int 0])) := ⟨_, rfl⟩
  rw [← eM_25] at hG
  have h_26 : M_25 (60, j, 0) = some (.inr (2, [.ref (ad (61, j, 0)), .ref (ad (62, j, 0)), .int (gAt d), .int 0])) := by rw [eM_25]; exact hm_up_s
  have h_27 : M_25 (61, j, 0) = some (hm_ia g 6 (gLo d)) := by rw [eM_25]; exact (hm_up_n (by simp)).trans h_23
  have h_28 : M_25 (62, j, 0) = some (hm_ia g 6 (upd (upd (upd (upd (upd (upd (gTo d) 0 0) 1 0) 2 0) 3 0) 4 0) 5 0)) := by rw [eM_25]; exact (hm_up_n (by simp)).trans h_24
  exact hm_vret S hG hr hlk (⟨rfl, rfl, by subst_vars; simp only [hm_up_up]; rfl⟩) (Nat.le_of_ble_eq_true rfl) (Nat.le_of_ble_eq_true rfl) dX1_forget_26

abbrev rm_X1_markTold : Room := { frames := 1, cells := 0, slots := 0, locals := 60 }
set_option maxHeartbeats 4000000 in
set_option maxRecDepth 100000 in
theorem c_X1_markTold (l : Launch) (g : GV) (ad : AD) (M : CT) (j : Nat) (d : GrD) (hd : hasGr g ad M j d) (clk : Int32) : hm_Met l yX1_markTold cX1_markTold 2 none rm_X1_markTold g ad M [.ref (ad (60, j, 0)), .int clk] (hm_pU ad (hm_up (hm_up M (60, j, 0) (grE ad j (mkF d clk))) (62, j, 0) (hm_ia g 6 (gTo (mkF d clk)))) none) := by
  refine hm_start (own := RX1) (by decide) rfl (Nat.le_of_ble_eq_true rfl) ?_
  intro p e s m args below meth c S hr hlk hnm hE hG ls hl
  have hl : lv_has ls 2 [(0, .ref (ad (60, j, 0))), (1, .int clk)] := hl
  obtain ⟨h60, h61, h62⟩ := id hd
  refine lv_aload_n S.1 S.2.1 dX1_markTold_0 rfl (lv_at hl 0 rfl) ?_
  refine lv_iload_n S.1 S.2.1 dX1_markTold_1 rfl (lv_at hl 1 rfl) ?_
  refine hm_put (k := 2) (fs' := [.ref (ad (61, j, 0)), .ref (ad (62, j, 0)), .int clk, .int (bI (gWa d))]) S hE hG h60 rfl rfl hi_X10 tyX1_ok nmX1 (by decide) hb_55 rfl rfl (by rfl) (by rfl) (Nat.le_of_ble_eq_true rfl) rfl dX1_markTold_2 (fun H locs hG => ?_)
  obtain ⟨M_1, eM_1⟩ : ∃ z, z = hm_up M (60, j, 0) (.inr (2, [.ref (ad (61, j, 0)), .ref (ad (62, j, 0)), .int clk, .int (bI (gWa d))])) := ⟨_, rfl⟩
  rw [← eM_1] at hG
  have h_2 : M_1 (60, j, 0) = some (.inr (2, [.ref (ad (61, j, 0)), .ref (ad (62, j, 0)), .int clk, .int (bI (gWa d))])) := by rw [eM_1]; exact hm_up_s
  have h_3 : M_1 (61, j, 0) = some (hm_ia g 6 (gLo d)) := by rw [eM_1]; exact (hm_up_n (by simp)).trans h61
  have h_4 : M_1 (62, j, 0) = some (hm_ia g 6 (gTo d)) := by rw [eM_1]; exact (hm_up_n (by simp)).trans h62
  refine lv_aload_n S.1 S.2.1 dX1_markTold_5 rfl (lv_at hl 0 rfl) ?_
  refine hm_get (k := 0) S hE hG h_2 rfl rfl hi_X10 (by decide) hb_53 rfl rfl dX1_markTold_6 ?_
  refine lv_iconst (v := 0) S.1 S.2.1 dX1_markTold_9 (by decide) ?_
  refine lv_aload_n S.1 S.2.1 dX1_markTold_10 rfl (lv_at hl 0 rfl) ?_
  refine hm_get (k := 1) S hE hG h_2 rfl rfl hi_X10 (by decide) hb_54 rfl rfl dX1_markTold_11 ?_
  refine lv_iconst (v := 0) S.1 S.2.1 dX1_markTold_14 (by decide) ?_
  refine lv_bipush (v := 6) S.1 S.2.1 dX1_markTold_15 (by decide) ?_
  refine hm_copy S hE hG hb_483 hb_161 hb_162 hb_163 hl.1 h_3 rfl h_4 rfl (by decide) (by decide) (by decide) (by decide) (by decide) (Nat.le_of_ble_eq_true rfl) (by decide +kernel) dX1_markTold_17 (fun H locs hG => ?_)
  obtain ⟨M_5, eM_5⟩ : ∃ z, z = hm_up M_1 (62, j, 0) (hm_ia g 6 (va_cpy (gLo d) (gTo d) (0 : Int32).toNatClampNeg (0 : Int32).toNatClampNeg (6 : Int32).toNatClampNeg)) := ⟨_, rfl⟩
  rw [← eM_5] at hG
  have h_6 : M_5 (60, j, 0) = some (.inr (2, [.ref (ad (61, j, 0)), .ref (ad (62, j, 0)), .int clk, .int (bI (gWa d))])) := by rw [eM_5]; exact (hm_up_n (by simp)).trans h_2
  have h_7 : M_5 (61, j, 0) = some (hm_ia g 6 (gLo d)) := by rw [eM_5]; exact (hm_up_n (by simp)).trans h_3
  have h_8 : M_5 (62, j, 0) = some (hm_ia g 6 (va_cpy (gLo d) (gTo d) (0 : Int32).toNatClampNeg (0 : Int32).toNatClampNeg (6 : Int32).toNatClampNeg)) := by rw [eM_5]; exact hm_up_s
  exact hm_vret S hG hr hlk (⟨rfl, rfl, by subst_vars; rfl⟩) (Nat.le_of_ble_eq_true rfl) (Nat.le_of_ble_eq_true rfl) dX1_markTold_20

abbrev rm_X3_keep : Room := { frames := 1, cells := 0, slots := 0, locals := 14 }
set_option maxHeartbeats 4000000 in
set_option maxRecDepth 100000 in
theorem c_X3_keep (l : Launch) (g : GV) (ad : AD) (M : CT) (d : LgD) (hd : hasLg g ad M d) (x1 x2 x3 x4 : Int32) : hm_Met l yX3_keep cX3_keep 6 none rm_X3_keep g ad M [.ref (ad (8, 0, 0)), .int x1, .int x2, .int x3, .int x4] (hm_pU ad (klM g ad M d x1 x2 x3 x4) none) := by
  refine hm_start (own := RX3) (by decide) rfl (Nat.le_of_ble_eq_true rfl) ?_
  intro p e s m args below meth c S hr hlk hnm hE hG ls hl
  have hl : lv_has ls 6 [(0, .ref (ad (8, 0, 0))), (1, .int x1), (2, .int x2), (3, .int x3), (4, .int x4)] := hl
  obtain ⟨h8, h9, h51, hla, hhe⟩ := id hd
  refine lv_aload_n S.1 S.2.1 dX3_keep_0 rfl (lv_at hl 0 rfl) ?_
  refine lv_aload_n S.1 S.2.1 dX3_keep_1 rfl (lv_at hl 0 rfl) ?_
  refine hm_get (k := 1) S hE hG h8 rfl rfl hi_X30 (by decide) hb_62 rfl rfl dX3_keep_2 ?_
  refine lv_iconst (v := 1) S.1 S.2.1 dX3_keep_5 (by decide) ?_
  refine lv_iadd S.1 S.2.1 dX3_keep_6 ?_
  refine hm_top (z := nI (lLa d + 1)) (nI_1 _) ?_
  refine lv_bipush (v := 30) S.1 S.2.1 dX3_keep_7 (by decide) ?_
  refine lv_irem S.1 S.2.1 dX3_keep_9 (by decide) ?_
  refine hm_top (z := nI (klLa d)) (hm_rem30 (by omega)) ?_
  refine hm_put (k := 1) (fs' := [.ref (ad (9, 0, 0)), .int (nI (klLa d)), .int (nI (lHe d)), .int (nI (lEv d))]) S hE hG h8 rfl rfl hi_X30 tyX3_ok nmX3 (by decide) hb_62 rfl rfl (by rfl) (by rfl) (Nat.le_of_ble_eq_true rfl) rfl dX3_keep_10 (fun H locs hG => ?_)
  obtain ⟨M_1, eM_1⟩ : ∃ z, z = hm_up M (8, 0, 0) (.inr (4, [.ref (ad (9, 0, 0)), .int (nI (klLa d)), .int (nI (lHe d)), .int (nI (lEv d))])) := ⟨_, rfl⟩
  rw [← eM_1] at hG
  have h_2 : M_1 (8, 0, 0) = some (.inr (4, [.ref (ad (9, 0, 0)), .int (nI (klLa d)), .int (nI (lHe d)), .int (nI (lEv d))])) := by rw [eM_1]; exact hm_up_s
  have h_3 : M_1 (9, 0, 0) = some (hm_ra g 4 30 (rows30 ad)) := by rw [eM_1]; exact (hm_up_n (by simp)).trans h9
  refine lv_aload_n S.1 S.2.1 dX3_keep_13 rfl (lv_at hl 0 rfl) ?_
  refine lv_aload_n S.1 S.2.1 dX3_keep_14 rfl (lv_at hl 0 rfl) ?_
  refine hm_get (k := 2) S hE hG h_2 rfl rfl hi_X30 (by decide) hb_63 rfl rfl dX3_keep_15 ?_
  refine lv_iconst (v := 1) S.1 S.2.1 dX3_keep_18 (by decide) ?_
  refine lv_iadd S.1 S.2.1 dX3_keep_19 ?_
  refine hm_top (z := nI (lHe d + 1)) (nI_1 _) ?_
  refine lv_bipush (v := 30) S.1 S.2.1 dX3_keep_20 (by decide) ?_
  refine hm_min (z := nI (klHe d)) S hb_478 hb_4 hb_5 hb_6 hl.1 (Nat.le_of_ble_eq_true rfl) (Nat.le_of_ble_eq_true rfl) (Nat.le_of_ble_eq_true rfl) (Nat.le_of_ble_eq_true rfl) (hm_min30 _ hhe) dX3_keep_22 ?_
  refine hm_put (k := 2) (fs' := [.ref (ad (9, 0, 0)), .int (nI (klLa d)), .int (nI (klHe d)), .int (nI (lEv d))]) S hE hG h_2 rfl rfl hi_X30 tyX3_ok nmX3 (by decide) hb_63 rfl rfl (by rfl) (by rfl) (Nat.le_of_ble_eq_true rfl) rfl dX3_keep_25 (fun H locs hG => ?_)
  obtain ⟨M_4, eM_4⟩ : ∃ z, z = hm_up M_1 (8, 0, 0) (.inr (4, [.ref (ad (9, 0, 0)), .int (nI (klLa d)), .int (nI (klHe d)), .int (nI (lEv d))])) := ⟨_, rfl⟩
  rw [← eM_4] at hG
  have h_5 : M_4 (8, 0, 0) = some (.inr (4, [.ref (ad (9, 0, 0)), .int (nI (klLa d)), .int (nI (klHe d)), .int (nI (lEv d))])) := by rw [eM_4]; exact hm_up_s
  have h_6 : M_4 (9, 0, 0) = some (hm_ra g 4 30 (rows30 ad)) := by rw [eM_4]; exact (hm_up_n (by simp)).trans h_3
  refine lv_aload_n S.1 S.2.1 dX3_keep_28 rfl (lv_at hl 0 rfl) ?_
  refine lv_dup S.1 S.2.1 dX3_keep_29 rfl ?_
  refine hm_get (k := 3) S hE hG h_5 rfl rfl hi_X30 (by decide) hb_64 rfl rfl dX3_keep_30 ?_
  refine lv_iconst (v := 1) S.1 S.2.1 dX3_keep_33 (by decide) ?_
  refine lv_iadd S.1 S.2.1 dX3_keep_34 ?_
  refine hm_top (z := nI (lEv d + 1)) (nI_1 _) ?_
  refine hm_put (k := 3) (fs' := [.ref (ad (9, 0, 0)), .int (nI (klLa d)), .int (nI (klHe d)), .int (nI (lEv d + 1))]) S hE hG h_5 rfl rfl hi_X30 tyX3_ok nmX3 (by decide) hb_64 rfl rfl (by rfl) (by rfl) (Nat.le_of_ble_eq_true rfl) rfl dX3_keep_35 (fun H locs hG => ?_)
  obtain ⟨M_7, eM_7⟩ : ∃ z, z = hm_up M_4 (8, 0, 0) (.inr (4, [.ref (ad (9, 0, 0)), .int (nI (klLa d)), .int (nI (klHe d)), .int (nI (lEv d + 1))])) := ⟨_, rfl⟩
  rw [← eM_7] at hG
  have h_8 : M_7 (8, 0, 0) = some (.inr (4, [.ref (ad (9, 0, 0)), .int (nI (klLa d)), .int (nI (klHe d)), .int (nI (lEv d + 1))])) := by rw [eM_7]; exact hm_up_s
  have h_9 : M_7 (9, 0, 0) = some (hm_ra g 4 30 (rows30 ad)) := by rw [eM_7]; exact (hm_up_n (by simp)).trans h_6
  refine lv_aload_n S.1 S.2.1 dX3_keep_38 rfl (lv_at hl 0 rfl) ?_
  refine hm_get (k := 0) S hE hG h_8 rfl rfl hi_X30 (by decide) hb_61 rfl rfl dX3_keep_39 ?_
  refine lv_aload_n S.1 S.2.1 dX3_keep_42 rfl (lv_at hl 0 rfl) ?_
  refine hm_get (k := 1) S hE hG h_8 rfl rfl hi_X30 (by decide) hb_62 rfl rfl dX3_keep_43 ?_
  have hkl : klLa d < 30 := Nat.mod_lt _ (by decide)
  have hr2 : M_7 (51, klLa d, 0) = some (hm_ia g 4 (lRo d (klLa d))) := by subst_vars; simp only [hm_up_up]; exact (hm_up_n (by simp)).trans (h51 (klLa d) hkl)
  refine hm_aldA (q := (ad (51, klLa d, 0))) S hE hG h_9 rfl (vp_in_nI hkl (by decide)) (by rw [nI_clamp (Nat.lt_trans hkl (by decide))]; exact if_pos hkl) dX3_keep_46 ?_
  refine lv_astore (lv' := [(5, .ref (ad (51, klLa d, 0))), (0, .ref (ad (8, 0, 0))), (1, .int x1), (2, .int x2), (3, .int x3), (4, .int x4)]) S.1 S.2.1 dX3_keep_47 hl (by decide) rfl (fun ls hl => ?_)
  refine lv_aload S.1 S.2.1 dX3_keep_49 (lv_at hl 0 rfl) ?_
  refine lv_iconst (v := 0) S.1 S.2.1 dX3_keep_51 (by decide) ?_
  refine lv_iload_n S.1 S.2.1 dX3_keep_52 rfl (lv_at hl 2 rfl) ?_
  refine hm_iast2 (j := 0) (x := x1) S hE hG hr2 rfl (by unfold vp_in; decide) (by decide) dX3_keep_53 (fun H locs hG => ?_)
  obtain ⟨M_10, eM_10⟩ : ∃ z, z = hm_up M_7 (51, klLa d, 0) (hm_ia g 4 (upd (lRo d (klLa d)) 0 x1)) := ⟨_, rfl⟩
  rw [← eM_10] at hG
  have h_11 : M_10 (8, 0, 0) = some (.inr (4, [.ref (ad (9, 0, 0)), .int (nI (klLa d)), .int (nI (klHe d)), .int (nI (lEv d + 1))])) := by rw [eM_10]; exact (hm_up_n (by simp)).trans h_8
  have h_12 : M_10 (9, 0, 0) = some (hm_ra g 4 30 (rows30 ad)) := by rw [eM_10]; exact (hm_up_n (by simp)).trans h_9
  have h_13 : M_10 (51, klLa d, 0) = some (hm_ia g 4 (upd (lRo d (klLa d)) 0 x1)) := by rw [eM_10]; exact hm_up_s
  refine lv_aload S.1 S.2.1 dX3_keep_54 (lv_at hl 0 rfl) ?_
  refine lv_iconst (v := 1) S.1 S.2.1 dX3_keep_56 (by decide) ?_
  refine lv_iload_n S.1 S.2.1 dX3_keep_57 rfl (lv_at hl 3 rfl) ?_
  refine hm_iast2 (j := 1) (x := x2) S hE hG h_13 rfl (by unfold vp_in; decide) (by decide) dX3_keep_58 (fun H locs hG => ?_)
  obtain ⟨M_14, eM_14⟩ : ∃ z, z = hm_up M_10 (51, klLa d, 0) (hm_ia g 4 (upd (upd (lRo d (klLa d)) 0 x1) 1 x2)) := ⟨_, rfl⟩
  rw [← eM_14] at hG
  have h_15 : M_14 (8, 0, 0) = some (.inr (4, [.ref (ad (9, 0, 0)), .int (nI (klLa d)), .int (nI (klHe d)), .int (nI (lEv d + 1))])) := by rw [eM_14]; exact (hm_up_n (by simp)).trans h_11
  have h_16 : M_14 (9, 0, 0) = some (hm_ra g 4 30 (rows30 ad)) := by rw [eM_14]; exact (hm_up_n (by simp)).trans h_12
  have h_17 : M_14 (51, klLa d, 0) = some (hm_ia g 4 (upd (upd (lRo d (klLa d)) 0 x1) 1 x2)) := by rw [eM_14]; exact hm_up_s
  refine lv_aload S.1 S.2.1 dX3_keep_59 (lv_at hl 0 rfl) ?_
  refine lv_iconst (v := 2) S.1 S.2.1 dX3_keep_61 (by decide) ?_
  refine lv_iload_n S.1 S.2.1 dX3_keep_62 rfl (lv_at hl 4 rfl) ?_
  refine hm_iast2 (j := 2) (x := x3) S hE hG h_17 rfl (by unfold vp_in; decide) (by decide) dX3_keep_63 (fun H locs hG => ?_)
  obtain ⟨M_18, eM_18⟩ : ∃ z, z = hm_up M_14 (51, klLa d, 0) (hm_ia g 4 (upd (upd (upd (lRo d (klLa d)) 0 x1) 1 x2) 2 x3)) := ⟨_, rfl⟩
  rw [← eM_18] at hG
  have h_19 : M_18 (8, 0, 0) = some (.inr (4, [.ref (ad (9, 0, 0)), .int (nI (klLa d)), .int (nI (klHe d)), .int (nI (lEv d + 1))])) := by rw [eM_18]; exact (hm_up_n (by simp)).trans h_15
  have h_20 : M_18 (9, 0, 0) = some (hm_ra g 4 30 (rows30 ad)) := by rw [eM_18]; exact (hm_up_n (by simp)).trans h_16
  have h_21 : M_18 (51, klLa d, 0) = some (hm_ia g 4 (upd (upd (upd (lRo d (klLa d)) 0 x1) 1 x2) 2 x3)) := by rw [eM_18]; exact hm_up_s
  refine lv_aload S.1 S.2.1 dX3_keep_64 (lv_at hl 0 rfl) ?_
  refine lv_iconst (v := 3) S.1 S.2.1 dX3_keep_66 (by decide) ?_
  refine lv_iload S.1 S.2.1 dX3_keep_67 (lv_at hl 5 rfl) ?_
  refine hm_iast2 (j := 3) (x := x4) S hE hG h_21 rfl (by unfold vp_in; decide) (by decide) dX3_keep_69 (fun H locs hG => ?_)
  obtain ⟨M_22, eM_22⟩ : ∃ z, z = hm_up M_18 (51, klLa d, 0) (hm_ia g 4 (upd (upd (upd (upd (lRo d (klLa d)) 0 x1) 1 x2) 2 x3) 3 x4)) := ⟨_, rfl⟩
  rw [← eM_22] at hG
  have h_23 : M_22 (8, 0, 0) = some (.inr (4, [.ref (ad (9, 0, 0)), .int (nI (klLa d)), .int (nI (klHe d)), .int (nI (lEv d + 1))])) := by rw [eM_22]; exact (hm_up_n (by simp)).trans h_19
  have h_24 : M_22 (9, 0, 0) = some (hm_ra g 4 30 (rows30 ad)) := by rw [eM_22]; exact (hm_up_n (by simp)).trans h_20
  have h_25 : M_22 (51, klLa d, 0) = some (hm_ia g 4 (upd (upd (upd (upd (lRo d (klLa d)) 0 x1) 1 x2) 2 x3) 3 x4)) := by rw [eM_22]; exact hm_up_s
  exact hm_vret S hG hr hlk (⟨rfl, rfl, by subst_vars; simp only [hm_up_up]; rfl⟩) (Nat.le_of_ble_eq_true rfl) (Nat.le_of_ble_eq_true rfl) dX3_keep_70

abbrev rm_X3_factOf : Room := { frames := 0, cells := 0, slots := 0, locals := 0 }
set_option maxHeartbeats 4000000 in
set_option maxRecDepth 100000 in
theorem c_X3_factOf (l : Launch) (g : GV) (ad : AD) (M : CT) (d : LgD) (hd : hasLg g ad M d) (b k : Nat) (hb : b < 30) (hk : k < 4) : hm_Met l yX3_factOf cX3_factOf 3 (some .int) rm_X3_factOf g ad M [.ref (ad (8, 0, 0)), .int (nI b), .int (nI k)] (hm_pU ad M (some (.int (foF d b k)))) := by
  refine hm_start (own := RX3) (by decide) rfl (Nat.le_of_ble_eq_true rfl) ?_
  intro p e s m args below meth c S hr hlk hnm hE hG ls hl
  have hl : lv_has ls 3 [(0, .ref (ad (8, 0, 0))), (1, .int (nI b)), (2, .int (nI k))] := hl
  obtain ⟨h8, h9, h51, hla, hhe⟩ := id hd
  refine lv_aload_n S.1 S.2.1 dX3_factOf_0 rfl (lv_at hl 0 rfl) ?_
  refine hm_get (k := 0) S hE hG h8 rfl rfl hi_X30 (by decide) hb_61 rfl rfl dX3_factOf_1 ?_
  refine lv_aload_n S.1 S.2.1 dX3_factOf_4 rfl (lv_at hl 0 rfl) ?_
  refine hm_get (k := 1) S hE hG h8 rfl rfl hi_X30 (by decide) hb_62 rfl rfl dX3_factOf_5 ?_
  refine lv_iload_n S.1 S.2.1 dX3_factOf_8 rfl (lv_at hl 1 rfl) ?_
  refine lv_isub S.1 S.2.1 dX3_factOf_9 ?_
  refine lv_bipush (v := 30) S.1 S.2.1 dX3_factOf_10 (by decide) ?_
  refine lv_iadd S.1 S.2.1 dX3_factOf_12 ?_
  refine hm_top (z := nI (lLa d + 30 - b)) (hm_sub30 (by omega)) ?_
  refine lv_bipush (v := 30) S.1 S.2.1 dX3_factOf_13 (by decide) ?_
  refine lv_irem S.1 S.2.1 dX3_factOf_15 (by decide) ?_
  refine hm_top (z := nI ((lLa d + 30 - b) % 30)) (hm_rem30 (by omega)) ?_
  refine hm_aldA (q := (ad (51, ((lLa d + 30 - b) % 30), 0))) S hE hG h9 rfl (vp_in_nI (Nat.mod_lt _ (by decide)) (by decide)) (by rw [nI_clamp (Nat.lt_trans (Nat.mod_lt _ (by decide)) (by decide))]; exact if_pos (Nat.mod_lt _ (by decide))) dX3_factOf_16 ?_
  refine lv_iload_n S.1 S.2.1 dX3_factOf_17 rfl (lv_at hl 2 rfl) ?_
  refine hm_iald (x := (lRo d ((lLa d + 30 - b) % 30)) k) S hE hG (h51 ((lLa d + 30 - b) % 30) (Nat.mod_lt _ (by decide))) rfl (vp_in_nI (hk) (by decide)) (congrArg (lRo d ((lLa d + 30 - b) % 30)) (nI_clamp (Nat.lt_trans (hk) (by decide)))) dX3_factOf_18 ?_
  exact hm_iret S hG hr hlk (⟨rfl, rfl, rfl⟩) (Nat.le_of_ble_eq_true rfl) (Nat.le_of_ble_eq_true rfl) dX3_factOf_19
