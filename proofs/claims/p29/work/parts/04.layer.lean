/-! The layer: roles of cells instead of places in a list. A role t of the world has an address ad t and a content M t. -/
abbrev TG : Type := Nat × Nat × Nat
abbrev CT : Type := TG → Option va_E
abbrev AD : Type := TG → Nat
abbrev GV : Type := va_G × (Nat → ClassId) × (Nat → Nat)
def hm_D (g : GV) : va_G := g.1
def hm_c (g : GV) (k : Nat) : ClassId := g.2.1 k
def hm_b (g : GV) (k : Nat) : Nat := g.2.2 k
def hm_ty (g : GV) : List (ClassId × FieldType) := [(hm_c g 0, .int), (hm_c g 1, .object "HarbourlightMonitor$Group"), (hm_c g 2, .object "HarbourlightMonitor$Alert"), (hm_c g 3, .object "java/lang/Object"), (hm_c g 4, .array .int)]
def hm_A (g : GV) : Nat → Prop := fun q => hm_b g 0 ≤ q
abbrev hm_ia (g : GV) (n : Nat) (f : Nat → Int32) : va_E := .inl (hm_c g 0, n, .inl f)
abbrev hm_ra (g : GV) (k n : Nat) (f : Nat → Option Nat) : va_E := .inl (hm_c g k, n, .inr (.inr (.inr (.inr f))))
def hm_eN (k : Nat) : Int32 := if k = 0 then 0 else if k = 1 then 10 else if k = 2 then 50 else if k = 3 then 100 else 500
def hm_pN (k : Nat) : Int32 := if k = 0 then 50 else if k = 1 then 75 else if k = 2 then 90 else 99
def hm_nst : List Cond := [.methodLinkNest RX6 28 yX1_init "HarbourlightMonitor", .methodLinkNest RX6 31 yX3_init "HarbourlightMonitor", .methodLinkNest RX6 38 yX0_init "HarbourlightMonitor", .methodLinkNest RX1 26 yX6_isOutside "HarbourlightMonitor", .methodLinkNest RX4 39 yX0_init "HarbourlightMonitor", .methodLinkNest RX4 51 yX6_isOutside "HarbourlightMonitor", .fieldLinkNest RX5 43 "HarbourlightMonitor" "EDGES" "[I" "HarbourlightMonitor", .fieldLinkNest RX5 72 "HarbourlightMonitor" "PARTS" "[I" "HarbourlightMonitor", .castable RX5 "java/lang/Object", .castable RX4 "java/lang/Object", .castable RX2 "java/lang/Object"]
def hm_Z (g : GV) (U : State) (H : Heap) : Prop :=
  (va_Z "java/util/ArrayList" "DEFAULTCAPACITY_EMPTY_ELEMENTDATA" "[Ljava/lang/Object;" (.ref (hm_b g 1)) (hm_A g) U H ∧ va_T (.object "java/lang/Object") (hm_b g 1) 0 (fun _ => .null) (hm_A g) U H) ∧
  (va_Z "HarbourlightMonitor" "EDGES" "[I" (.ref (hm_b g 2)) (hm_A g) U H ∧ va_T .int (hm_b g 2) 5 (fun k => .int (hm_eN k)) (hm_A g) U H) ∧
  (va_Z "HarbourlightMonitor" "PARTS" "[I" (.ref (hm_b g 3)) (hm_A g) U H ∧ va_T .int (hm_b g 3) 4 (fun k => .int (hm_pN k)) (hm_A g) U H)
theorem hm_Z.moved {g : GV} {u U : State} {H : Heap} (hvm : u.vm.Alike U.vm) (h : hm_Z g u H) : hm_Z g U H := ⟨⟨va_Z.moved hvm h.1.1, va_T.moved hvm h.1.2⟩, ⟨va_Z.moved hvm h.2.1.1, va_T.moved hvm h.2.1.2⟩, ⟨va_Z.moved hvm h.2.2.1, va_T.moved hvm h.2.2.2⟩⟩
theorem hm_Z.kept {g : GV} {U : State} {H H1 : Heap} (h : hm_Z g U H) (hq : ∀ a : Nat, a < H.size → ¬ hm_A g a → H1[a]? = H[a]?) : hm_Z g U H1 := ⟨⟨h.1.1.kept hq, h.1.2.kept hq⟩, ⟨h.2.1.1.kept hq, h.2.1.2.kept hq⟩, ⟨h.2.2.1.kept hq, h.2.2.2.kept hq⟩⟩
def hm_ov (U : State) : Prop := va_AO "HarbourlightMonitor$Group" U ∧ va_AO "HarbourlightMonitor$Alert" U ∧ va_AO "java/lang/Object" U ∧ va_AOA .int U
theorem hm_ov1 {ty : FieldType} {s U : State} (hvm : s.vm.Alike U.vm) (h : (Cond.arrayOver ty).before #[] s = true) : (Cond.arrayOver ty).before #[] U = true := (show (Cond.arrayOver ty).before #[] (s.setVm U.vm) = true by rw [Cond.arrayOver_setVmC hvm]; exact h)
theorem hm_ov.moved {s U : State} (hvm : s.vm.Alike U.vm) (h : hm_ov s) : hm_ov U := ⟨hm_ov1 hvm h.1, hm_ov1 hvm h.2.1, hm_ov1 hvm h.2.2.1, hm_ov1 hvm h.2.2.2⟩
def hm_E (g : GV) (U : State) (H : Heap) : Prop := va_K (hm_D g) vwCl (hm_ty g) U ∧ hm_b g 0 ≤ H.size ∧ hm_Z g U H ∧ (∀ w ∈ hm_nst, va_Nw w U) ∧ hm_ov U
theorem hm_nst_tab : ∀ w ∈ hm_nst, w.onTables = true := by decide +kernel
theorem hm_nst_warm {s U : State} (hW : s.WarmedH U.vm) (h : ∀ w ∈ hm_nst, va_Nw w s) : ∀ w ∈ hm_nst, va_Nw w U := by
  intro w hw
  have h0 := h w hw
  simp only [hm_nst, List.mem_cons, List.not_mem_nil, or_false] at hw
  rcases hw with rfl | rfl | rfl | rfl | rfl | rfl | rfl | rfl | rfl | rfl | rfl
  · exact va_Nw.warmM hW h0
  · exact va_Nw.warmM hW h0
  · exact va_Nw.warmM hW h0
  · exact va_Nw.warmM hW h0
  · exact va_Nw.warmM hW h0
  · exact va_Nw.warmM hW h0
  · exact va_Nw.warmF hW h0
  · exact va_Nw.warmF hW h0
  · exact va_Nw.warmC hW h0
  · exact va_Nw.warmC hW h0
  · exact va_Nw.warmC hW h0
theorem hm_E.blind {g : GV} {U : State} (j : JFrame) (mk : MethodId) (a : Array Value) (h : hm_E g U U.heap) : hm_E g (U.calling j mk a) (U.calling j mk a).heap :=
  ⟨va_K.moved (u := U) (U := U.calling j mk a) (Vm.Alike.refl U.vm) h.1, h.2.1, hm_Z.moved (u := U) (U := U.calling j mk a) (Vm.Alike.refl U.vm) h.2.2.1, fun w hw => va_Nw.same (u := U) (U := U.calling j mk a) (hm_nst_tab w hw) rfl (h.2.2.2.1 w hw), hm_ov.moved (s := U) (U := U.calling j mk a) (Vm.Alike.refl U.vm) h.2.2.2.2⟩
theorem hm_E.call {g : GV} {s U : State} {H : Heap} {locs : List Loc} (h : hm_E g s s.heap) (hS : va_S (hm_A g) s.heap H locs) (hU : U.heap = H) (hW : s.WarmedH U.vm) : hm_E g U U.heap := by
  refine ⟨va_K.moved hW.alike h.1, ?_, ?_, hm_nst_warm hW h.2.2.2.1, hm_ov.moved hW.alike h.2.2.2.2⟩
  · rw [hU]; exact Nat.le_trans h.2.1 hS.1
  · rw [hU]; exact hm_Z.moved hW.alike (h.2.2.1.kept hS.2.1)
def hm_up (M : CT) (t : TG) (e : va_E) : CT := fun x => if x = t then some e else M x
theorem hm_up_s {M : CT} {t : TG} {e : va_E} : hm_up M t e t = some e := if_pos rfl
theorem hm_up_n {M : CT} {t x : TG} {e : va_E} (h : x ≠ t) : hm_up M t e x = M x := if_neg h
def hm_P (g : GV) (ad : AD) (M : CT) (H : Heap) : Prop :=
  ∃ (L : List Nat) (f : Nat → va_E), va_P (hm_D g) vwCl (va_pl L f) H ∧ va_D (hm_A g) (va_pl L f) ∧ (∀ t e, M t = some e → ad t ∈ L ∧ f (ad t) = e) ∧ ∀ t t' e e', M t = some e → M t' = some e' → ad t = ad t' → t = t'
theorem hm_pl_get {L : List Nat} {f : Nat → va_E} {a : Nat} (h : a ∈ L) : ∃ k : Nat, (va_pl L f)[k]? = some (a, f a) := List.getElem?_of_mem (List.mem_map.mpr ⟨a, h, rfl⟩)
theorem hm_P.one {g : GV} {ad : AD} {M : CT} {H : Heap} {t : TG} {e : va_E} (h : hm_P g ad M H) (ht : M t = some e) : va_P (hm_D g) vwCl [(ad t, e)] H := by
  obtain ⟨L, f, hP, -, hm, -⟩ := h
  obtain ⟨h1, h2⟩ := hm t e ht
  obtain ⟨k, hk⟩ := hm_pl_get (f := f) h1
  rw [h2] at hk
  intro j q hj
  have h0 : j < 1 := (List.getElem?_eq_some_iff.mp hj).1
  rw [show j = 0 by omega] at hj
  cases hj
  exact hP k _ hk
theorem hm_P.sub {g : GV} {ad : AD} {M M2 : CT} {H : Heap} (h : hm_P g ad M H) (hs : ∀ t e, M2 t = some e → M t = some e) : hm_P g ad M2 H := by
  obtain ⟨L, f, hP, hD, hm, hi⟩ := h
  exact ⟨L, f, hP, hD, fun t e ht => hm t e (hs t e ht), fun t t' e e' h1 h2 => hi t t' e e' (hs t e h1) (hs t' e' h2)⟩
/-- the same world, addresses named anew where the roles are there -/
theorem hm_P.name {g : GV} {ad ad2 : AD} {M : CT} {H : Heap} (h : hm_P g ad M H) (hs : ∀ t e, M t = some e → ad2 t = ad t) : hm_P g ad2 M H := by
  obtain ⟨L, f, hP, hD, hm, hi⟩ := h
  refine ⟨L, f, hP, hD, fun t e ht => by rw [hs t e ht]; exact hm t e ht, fun t t' e e' h1 h2 h3 => hi t t' e e' h1 h2 ?_⟩
  rw [← hs t e h1, ← hs t' e' h2]
  exact h3
theorem hm_P.put {g : GV} {ad : AD} {M : CT} {H1 : Heap} {L : List Nat} {f : Nat → va_E} {k : Nat} {t : TG} {e0 e : va_E} (hD : va_D (hm_A g) (va_pl L f)) (hm : ∀ t e, M t = some e → ad t ∈ L ∧ f (ad t) = e) (hi : ∀ t t' e e', M t = some e → M t' = some e' → ad t = ad t' → t = t') (ht : M t = some e0) (hk : (va_pl L f)[k]? = some (ad t, f (ad t))) (hP1 : va_P (hm_D g) vwCl ((va_pl L f).set k (ad t, e)) H1) (hD1 : va_D (hm_A g) ((va_pl L f).set k (ad t, e))) : hm_P g ad (hm_up M t e) H1 := by
  have hs : (va_pl L f).set k (ad t, e) = va_pl L (va_up f (ad t) e) := va_pl_set (X := []) hD (hm t _ ht).1 hk
  rw [hs] at hP1 hD1
  refine ⟨L, va_up f (ad t) e, hP1, hD1, fun x ex hx => ?_, fun x y ex ey hx hy h => ?_⟩
  · by_cases h : x = t
    · subst h
      rw [hm_up_s] at hx
      cases hx
      exact ⟨(hm _ _ ht).1, va_up_self _ _ _⟩
    · rw [hm_up_n h] at hx
      obtain ⟨h1, h2⟩ := hm _ _ hx
      exact ⟨h1, by rw [va_up_ne _ _ (fun q => h (hi x t _ _ hx ht q))]; exact h2⟩
  · have key : ∀ z ez, hm_up M t e z = some ez → ∃ e9, M z = some e9 := fun z ez hz => by
      by_cases h : z = t
      · exact ⟨e0, by rw [h]; exact ht⟩
      · exact ⟨ez, by rw [hm_up_n h] at hz; exact hz⟩
    obtain ⟨e1, h1⟩ := key x ex hx
    obtain ⟨e2, h2⟩ := key y ey hy
    exact hi x y e1 e2 h1 h2 h
theorem hm_nin {A : Nat → Prop} {L : List Nat} {f : Nat → va_E} {q : Nat} {e : va_E} (h : va_D A (va_pl L f ++ [(q, e)])) : q ∉ L := fun hq => by
  obtain ⟨k, hk⟩ := hm_pl_get (f := f) hq
  have hl := (List.getElem?_eq_some_iff.mp hk).1
  have h1 : (va_pl L f ++ [(q, e)])[k]? = some (q, f q) := by rw [List.getElem?_append_left hl]; exact hk
  have h2 : (va_pl L f ++ [(q, e)])[(va_pl L f).length]? = some (q, e) := by simp
  have := h.1 _ _ _ _ h1 h2 rfl
  omega
def hm_au (ad : AD) (t : TG) (q : Nat) : AD := fun x => if x = t then q else ad x
theorem hm_P.push {g : GV} {ad : AD} {M : CT} {H1 : Heap} {L : List Nat} {f : Nat → va_E} {t : TG} {q : Nat} {e : va_E} (hm : ∀ t e, M t = some e → ad t ∈ L ∧ f (ad t) = e) (hi : ∀ t t' e e', M t = some e → M t' = some e' → ad t = ad t' → t = t') (hP1 : va_P (hm_D g) vwCl (va_pl L f ++ [(q, e)]) H1) (hD1 : va_D (hm_A g) (va_pl L f ++ [(q, e)])) : hm_P g (hm_au ad t q) (hm_up M t e) H1 := by
  have hq := hm_nin hD1
  rw [va_pl_push hq] at hP1 hD1
  have hne : ∀ x ex, M x = some ex → ad x ≠ q := fun x ex hx h => hq (h ▸ (hm x ex hx).1)
  refine ⟨L ++ [q], va_up f q e, hP1, hD1, fun x ex hx => ?_, fun x y ex ey hx hy h => ?_⟩
  · by_cases h : x = t
    · subst h
      rw [hm_up_s] at hx
      cases hx
      rw [show hm_au ad x q x = q from if_pos rfl]
      exact ⟨List.mem_append_right _ List.mem_cons_self, va_up_self _ _ _⟩
    · rw [hm_up_n h] at hx
      obtain ⟨h1, h2⟩ := hm _ _ hx
      rw [show hm_au ad t q x = ad x from if_neg h]
      exact ⟨List.mem_append_left _ h1, by rw [va_up_ne _ _ (hne x ex hx)]; exact h2⟩
  · by_cases h1 : x = t <;> by_cases h2 : y = t
    · rw [h1, h2]
    · rw [hm_up_n h2] at hy
      rw [show hm_au ad t q x = q from if_pos h1, show hm_au ad t q y = ad y from if_neg h2] at h
      exact absurd h.symm (hne y ey hy)
    · rw [hm_up_n h1] at hx
      rw [show hm_au ad t q y = q from if_pos h2, show hm_au ad t q x = ad x from if_neg h1] at h
      exact absurd h (hne x ex hx)
    · rw [hm_up_n h1] at hx
      rw [hm_up_n h2] at hy
      rw [show hm_au ad t q y = ad y from if_neg h2, show hm_au ad t q x = ad x from if_neg h1] at h
      exact hi x y ex ey hx hy h
def hm_G (g : GV) (ad : AD) (M : CT) (H0 H : Heap) (locs : List Loc) : Prop := hm_P g ad M H ∧ va_S (hm_A g) H0 H locs
theorem hm_G.sub {g : GV} {ad : AD} {M M2 : CT} {H0 H : Heap} {locs : List Loc} (h : hm_G g ad M H0 H locs) (hs : ∀ t e, M2 t = some e → M t = some e) : hm_G g ad M2 H0 H locs := ⟨h.1.sub hs, h.2⟩
theorem hm_G.name {g : GV} {ad ad2 : AD} {M : CT} {H0 H : Heap} {locs : List Loc} (h : hm_G g ad M H0 H locs) (hs : ∀ t e, M t = some e → ad2 t = ad t) : hm_G g ad2 M H0 H locs := ⟨h.1.name hs, h.2⟩
def hm_Q (g : GV) (post : Option Value → AD → CT → Prop) : Array Value → State → Outcome → State → Prop := fun _ st o t => (∃ v ad M, o = .returned v ∧ post v ad M ∧ hm_P g ad M t.heap) ∧ va_F (hm_A g) st t
abbrev hm_ws (y : MethodName) (cc : ByteArray) (n : Nat) (ret : Option FieldType) : List Cond := Cond.code y cc n ret :: hm_B
/-- a contract: at the world M the method y with the arguments av comes back, and 'post' holds of its answer and of the world then -/
def hm_Met (l : Launch) (y : MethodName) (cc : ByteArray) (n : Nat) (ret : Option FieldType) (rm : Room) (g : GV) (ad : AD) (M : CT) (av : List Value) (post : Option Value → AD → CT → Prop) : Prop :=
  Met l y (hm_ws y cc n ret) rm (va_Pc av (fun U => hm_E g U U.heap ∧ hm_P g ad M U.heap)) (hm_Q g post) rm.cells rm.slots (hm_A g)
theorem hm_blind {g : GV} {ad : AD} {M : CT} {av : List Value} : FrameBlind (va_Pc av (fun U => hm_E g U U.heap ∧ hm_P g ad M U.heap)) := fun a _ j mk q => ⟨q.1, q.2.1.blind j mk a, q.2.2⟩
theorem hm_good : ∀ w ∈ hm_B, w ∈ hm_B ∧ ((w.onTables && w.keeps) = true ∨ ∃ ty, w = .arrayClass ty) := fun w hw => ⟨hw, good_of_word (List.all_eq_true.mp hm_Bgood w hw)⟩
theorem hm_gW {y : MethodName} {cc : ByteArray} {n : Nat} {ret : Option FieldType} (h5 : Cond.code y cc n ret ∈ hm_B) : GoodIn hm_B (hm_ws y cc n ret) := fun w hw => (List.mem_cons.mp hw).elim (fun e => e ▸ hm_good _ h5) (fun h => hm_good _ h)
theorem hm_gV {own C : String} {idx : Nat} {y : MethodName} {cc : ByteArray} {n : Nat} {ret : Option FieldType} (h1 : Cond.methodLink own idx y ∈ hm_B) (h2 : Cond.instanceMethod y ∈ hm_B) (h3 : Cond.selects C y y ∈ hm_B) (h4 : Cond.initialized C ∈ hm_B) (h5 : Cond.code y cc n ret ∈ hm_B) : GoodIn hm_B (wsV own idx C y (hm_ws y cc n ret)) := fun w hw => by
  simp only [wsV, List.cons_append, List.nil_append, List.mem_cons] at hw
  rcases hw with rfl | rfl | rfl | rfl | hw
  · exact hm_good _ h1
  · exact hm_good _ h2
  · exact hm_good _ h3
  · exact hm_good _ h4
  · exact hm_gW h5 w (List.mem_cons.mpr hw)
theorem hm_gS {own : String} {idx : Nat} {y : MethodName} {cc : ByteArray} {n : Nat} {ret : Option FieldType} (h1 : Cond.methodLink own idx y ∈ hm_B) (h2 : Cond.static y ∈ hm_B) (h4 : Cond.initialized y.cls ∈ hm_B) (h5 : Cond.code y cc n ret ∈ hm_B) : GoodIn hm_B (va_wsS own idx y (hm_ws y cc n ret)) := fun w hw => by
  simp only [va_wsS, List.cons_append, List.nil_append, List.mem_cons] at hw
  rcases hw with rfl | rfl | rfl | hw
  · exact hm_good _ h1
  · exact hm_good _ h2
  · exact hm_good _ h4
  · exact hm_gW h5 w (List.mem_cons.mpr hw)
