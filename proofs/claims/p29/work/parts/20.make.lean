/-! What is made anew: addresses by roles grow; what lies outside stays. -/
theorem hm_au_s {ad : AD} {t : TG} {q : Nat} : hm_au ad t q t = q := if_pos rfl
theorem hm_au_n {ad : AD} {t u : TG} {q : Nat} (h : u ≠ t) : hm_au ad t q u = ad u := if_neg h
def hm_fr (ad : AD) (M : CT) (ad1 : AD) (M1 : CT) (S : TG → Prop) : Prop := ∀ u, ¬ S u → ad1 u = ad u ∧ M1 u = M u
theorem hm_fr.rf {ad : AD} {M : CT} {S : TG → Prop} : hm_fr ad M ad M S := fun _ _ => ⟨rfl, rfl⟩
theorem hm_fr.up {ad ad1 : AD} {M M1 : CT} {S : TG → Prop} {t : TG} {e : va_E} (h : hm_fr ad M ad1 M1 S) (ht : S t) : hm_fr ad M ad1 (hm_up M1 t e) S := fun u hu => ⟨(h u hu).1, (hm_up_n (fun q => hu (by rw [q]; exact ht))).trans (h u hu).2⟩
theorem hm_fr.au {ad ad1 : AD} {M M1 : CT} {S : TG → Prop} {t : TG} {q : Nat} {e : va_E} (h : hm_fr ad M ad1 M1 S) (ht : S t) : hm_fr ad M (hm_au ad1 t q) (hm_up M1 t e) S := fun u hu => ⟨(hm_au_n (fun q => hu (by rw [q]; exact ht))).trans (h u hu).1, (hm_up_n (fun q => hu (by rw [q]; exact ht))).trans (h u hu).2⟩
theorem hm_fr.tr {ad ad1 ad2 : AD} {M M1 M2 : CT} {S S2 : TG → Prop} (h : hm_fr ad M ad1 M1 S) (h2 : hm_fr ad1 M1 ad2 M2 S2) (hs : ∀ u, S2 u → S u) : hm_fr ad M ad2 M2 S := fun u hu => ⟨(h2 u (fun q => hu (hs u q))).1.trans (h u hu).1, (h2 u (fun q => hu (hs u q))).2.trans (h u hu).2⟩
section HMM
variable {p : Program} {l : Launch} {e : Env} {R : Room} {s : State} {m : MethodId} {args : Array Value} {below : List Frame} {meth : Method} {c : Code} {H : Heap} {locs : List Loc} {cells slots : Nat} {Q : State → Prop}
variable {cc : ByteArray} {pc nL : Nat} {ls : Array Slot} {rest : List Value} {g : GV} {ad : AD} {M : CT} {own : String} {a : Nat} {t : TG}
theorem hm_st {st st' : List Value} (h : st = st') (k : W p l e R s m args below meth c H locs cells slots Q (F0 m pc ls st')) : W p l e R s m args below meth c H locs cells slots Q (F0 m pc ls st) := h ▸ k
theorem hm_tlen {ty : FieldType} {N : Nat} {f : Nat → Value} {v : Int32} (S : CallFix p m c cc nL s args hm_B own) (hG : hm_G g ad M s.heap H locs) (hT : va_T ty a N f (hm_A g) s s.heap) (hv : Int32.ofNat N = v) (hdg : decode cc pc = .ok (.arraylength, 1))
    (kk : W p l e R s m args below meth c H locs cells slots Q (F0 m (pc + 1) ls (.int v :: rest))) : W p l e R s m args below meth c H locs cells slots Q (F0 m pc ls (.ref a :: rest)) :=
  va_tlen S.1 S.2.1 hT hG.2 hv hdg kk
/-- the addresses after an array of arrays was made: 'ix' gives the number of a row's role -/
def hm_mr (ad : AD) (t : TG) (q : Nat) (ix : TG → Option Nat) (r : Nat → Nat) (N : Nat) : AD := fun u => if u = t then q else match ix u with
  | some j => if j < N then r j else ad u
  | none => ad u
def hm_mw (M : CT) (t : TG) (e : va_E) (ix : TG → Option Nat) (e2 : va_E) (N : Nat) : CT := fun u => if u = t then some e else match ix u with
  | some j => if j < N then some e2 else M u
  | none => M u
theorem hm_mna (S : CallFix p m c cc nL s args hm_B own) (hE : hm_E g s s.heap) (hG : hm_G g ad M s.heap H locs) (t : TG) (ix : TG → Option Nat) (hix : ∀ u v j, ix u = some j → ix v = some j → u = v) (hit : ix t = none) {index : Nat} (hcl : Cond.classLink own index "[[I" ∈ hm_B) (harr : Cond.arrayClass .int ∈ hm_B) {n k : Int32} {N K : Nat} (hn : ¬ n < 0) (hk : ¬ k < 0) (hN : n.toNatClampNeg = N) (hK : k.toNatClampNeg = K) (hb1 : N * 4 ≤ 536870912) (hb2 : K * 4 ≤ 536870912) (hb3 : K ≤ 536870912) (hcells : cells + (1 + N) ≤ R.cells) (hslots : slots + (N + N * K) ≤ R.slots) (hdg : decode cc pc = .ok (.multianewarray index 2, 4))
    (kk : ∀ (q : Nat) (r : Nat → Nat) (H1 : Heap), hm_G g (hm_mr ad t q ix r N) (hm_mw M t (hm_ra g 4 N (fun i => if i < N then some (r i) else none)) ix (hm_ia g K (fun _ => 0)) N) s.heap H1 locs → W p l e R s m args below meth c H1 locs (cells + 1 + N) (slots + N + N * K) Q (F0 m (pc + 4) ls (.ref q :: rest))) : W p l e R s m args below meth c H locs cells slots Q (F0 m pc ls (.int k :: .int n :: rest)) := by
  obtain ⟨⟨L, fl, hP, hD, hm, hi⟩, hS⟩ := hG
  refine va_mna (X := []) (ty := .int) (cy := hm_c g 0) (z := (K, .inl (fun _ => 0))) S.1 S.2.1 S.2.2.2.1 (S.2.2.2.2 _ hcl) hE.2.2.2.2.2.2.2 (S.2.2.2.2 _ harr) (hE.1.2 0 _ rfl).2 hE.1 hP hD hS (hm_base hE) hn hk hN hK hb1 hb2 hb3 rfl rfl hcells hslots (fun cI => by
    rw [vp_cell_i]
    show ({ cls := cI, slots := Array.replicate K (.int 0), vm := .none } : Cell) = _
    rw [arrV_new]) hdg (fun q r cA H1 hinj hnew hK1 hP1 hD1 hS1 => ?_)
  have e1 : (hm_ty g ++ [(cA, FieldType.array .int)])[5]? = some (cA, FieldType.array .int) := rfl
  have e2 : cA = hm_c g 4 := Option.some.inj ((hK1.2 5 _ e1).2.symm.trans (hE.1.2 4 _ rfl).2)
  subst e2
  refine kk q r H1 ⟨?_, hS1⟩
  obtain ⟨Lr, eLr⟩ : ∃ z, z = (List.range N).map r := ⟨_, rfl⟩
  obtain ⟨f2, ef2⟩ : ∃ z, z = vr_up fl ((List.range N).map r) (hm_ia g K (fun _ => 0)) := ⟨_, rfl⟩
  have hP2 : va_P (hm_D g) vwCl ((q, hm_ra g 4 N (fun i => if i < N then some (r i) else none)) :: va_pl (L ++ Lr) f2) H1 := by rw [eLr, ef2]; exact hP1
  have hD2 : va_D (hm_A g) ((q, hm_ra g 4 N (fun i => if i < N then some (r i) else none)) :: va_pl (L ++ Lr) f2) := by rw [eLr, ef2]; exact hD1
  have hq : q ∉ L ++ Lr := fun h => by
    obtain ⟨j, hj⟩ := List.getElem?_of_mem (List.mem_map.mpr ⟨q, h, rfl⟩ : (q, f2 q) ∈ va_pl (L ++ Lr) f2)
    have := hD2.1 0 (j + 1) (q, hm_ra g 4 N (fun i => if i < N then some (r i) else none)) (q, f2 q) rfl (by rw [List.getElem?_cons_succ]; exact hj) rfl
    omega
  have e3 : ((q, hm_ra g 4 N (fun i => if i < N then some (r i) else none)) :: va_pl (L ++ Lr) f2) = va_pl (q :: (L ++ Lr)) (va_up f2 q (hm_ra g 4 N (fun i => if i < N then some (r i) else none))) := by
    show _ = (q, va_up f2 q _ q) :: (L ++ Lr).map _
    rw [va_up_self]
    refine congrArg _ ?_
    apply List.map_congr_left
    intro b hb
    rw [va_up_ne _ _ (fun h => hq (by rw [← h]; exact hb))]
  rw [e3] at hP2 hD2
  have hr : ∀ j, j < N → r j ∈ Lr := fun j hj => by rw [eLr]; exact List.mem_map.mpr ⟨j, List.mem_range.mpr hj, rfl⟩
  have hadL : ∀ u eu, M u = some eu → ad u ∈ L := fun u eu hu => (hm u eu hu).1
  have hqL : ∀ u eu, M u = some eu → ad u ≠ q := fun u eu hu h => hq (List.mem_append_left _ (h ▸ hadL u eu hu))
  have hrq : ∀ j, j < N → r j ≠ q := fun j hj h => hq (List.mem_append_right _ (h ▸ hr j hj))
  have key : ∀ u eu, hm_mw M t (hm_ra g 4 N (fun i => if i < N then some (r i) else none)) ix (hm_ia g K (fun _ => 0)) N u = some eu → (u = t ∧ hm_mr ad t q ix r N u = q ∧ eu = hm_ra g 4 N (fun i => if i < N then some (r i) else none)) ∨ (u ≠ t ∧ ∃ j, ix u = some j ∧ j < N ∧ hm_mr ad t q ix r N u = r j ∧ eu = hm_ia g K (fun _ => 0)) ∨ (u ≠ t ∧ hm_mr ad t q ix r N u = ad u ∧ M u = some eu) := by
    intro u eu hu
    by_cases h1 : u = t
    · rw [hm_mw, if_pos h1] at hu
      exact Or.inl ⟨h1, by rw [hm_mr, if_pos h1], (Option.some.inj hu).symm⟩
    · rw [hm_mw, if_neg h1] at hu
      right
      cases h2 : ix u with
      | none =>
        rw [h2] at hu
        exact Or.inr ⟨h1, by rw [hm_mr, if_neg h1, h2], hu⟩
      | some j =>
        rw [h2] at hu
        by_cases h3 : j < N
        · simp only [if_pos h3] at hu
          exact Or.inl ⟨h1, j, rfl, h3, by rw [hm_mr, if_neg h1, h2]; simp only [if_pos h3], (Option.some.inj hu).symm⟩
        · simp only [if_neg h3] at hu
          exact Or.inr ⟨h1, by rw [hm_mr, if_neg h1, h2]; simp only [if_neg h3], hu⟩
  refine ⟨q :: (L ++ Lr), _, hP2, hD2, fun u eu hu => ?_, fun u v eu ev hu hv h => ?_⟩
  · rcases key u eu hu with ⟨h1, h2, h3⟩ | ⟨h1, j, h2, h3, h4, h5⟩ | ⟨h1, h2, h3⟩
    · rw [h2, h3]; exact ⟨List.mem_cons_self, va_up_self _ _ _⟩
    · rw [h4, h5]
      refine ⟨List.mem_cons_of_mem _ (List.mem_append_right _ (hr j h3)), ?_⟩
      rw [va_up_ne _ _ (hrq j h3), ef2, vr_up_in (eLr ▸ hr j h3)]
    · rw [h2]
      refine ⟨List.mem_cons_of_mem _ (List.mem_append_left _ (hadL u eu h3)), ?_⟩
      rw [va_up_ne _ _ (hqL u eu h3), ef2, vr_up_ne (fun h => by
        obtain ⟨j, hj, hj2⟩ := List.mem_map.mp h
        exact hnew j (List.mem_range.mp hj) (hj2 ▸ hadL u eu h3))]
      exact (hm u eu h3).2
  · rcases key u eu hu with ⟨h1, h2, h3⟩ | ⟨h1, j, h2, h3, h4, h5⟩ | ⟨h1, h2, h3⟩ <;> rcases key v ev hv with ⟨k1, k2, k3⟩ | ⟨k1, j', k2, k3, k4, k5⟩ | ⟨k1, k2, k3⟩
    · rw [h1, k1]
    · rw [h2, k4] at h; exact absurd h.symm (hrq j' k3)
    · rw [h2, k2] at h; exact absurd h.symm (hqL v ev k3)
    · rw [h4, k2] at h; exact absurd h (hrq j h3)
    · rw [h4, k4] at h
      have := hinj j j' h3 k3 h
      subst this
      exact hix u v j h2 k2
    · rw [h4, k2] at h; exact absurd (h ▸ hadL v ev k3) (hnew j h3)
    · rw [h2, k2] at h; exact absurd h (hqL u eu h3)
    · rw [h2, k4] at h; exact absurd (h ▸ hadL u eu h3) (hnew j' k3)
    · rw [h2, k2] at h; exact hi u v eu ev h3 k3 h
end HMM
section HMN
variable {ad ad0 : AD} {M M0 : CT} {t u : TG} {q : Nat} {ix : TG → Option Nat} {r : Nat → Nat} {N j : Nat} {e e2 : va_E} {S : TG → Prop}
theorem hm_mr_n (h : u ≠ t) (h2 : ix u = none) : hm_mr ad t q ix r N u = ad u := by rw [hm_mr, if_neg h, h2]
theorem hm_mw_n (h : u ≠ t) (h2 : ix u = none) : hm_mw M t e ix e2 N u = M u := by rw [hm_mw, if_neg h, h2]
theorem hm_mr_r (h : u ≠ t) (h2 : ix u = some j) (hj : j < N) : hm_mr ad t q ix r N u = r j := by rw [hm_mr, if_neg h, h2]; exact if_pos hj
theorem hm_mw_r (h : u ≠ t) (h2 : ix u = some j) (hj : j < N) : hm_mw M t e ix e2 N u = some e2 := by rw [hm_mw, if_neg h, h2]; exact if_pos hj
theorem hm_fr.mn (h : hm_fr ad0 M0 ad M S) (ht : S t) (hx : ∀ u j, ix u = some j → S u) : hm_fr ad0 M0 (hm_mr ad t q ix r N) (hm_mw M t e ix e2 N) S := fun u hu => by
  have h1 : u ≠ t := fun q => hu (by rw [q]; exact ht)
  have h2 : ix u = none := by
    cases e : ix u with
    | none => rfl
    | some j => exact absurd (hx u j e) hu
  exact ⟨(hm_mr_n h1 h2).trans (h u hu).1, (hm_mw_n h1 h2).trans (h u hu).2⟩
end HMN
theorem hm_Met.post {l : Launch} {y : MethodName} {cc : ByteArray} {n : Nat} {ret : Option FieldType} {rm : Room} {g : GV} {ad : AD} {M : CT} {av : List Value} {p1 p2 : Option Value → AD → CT → Prop} (h : hm_Met l y cc n ret rm g ad M av p1) (hi : ∀ v a m, p1 v a m → p2 v a m) : hm_Met l y cc n ret rm g ad M av p2 := fun p e ha hc1 hc2 s m args below hf hap hP hK => by
  obtain ⟨k, o, h1, h2, h3, ⟨⟨⟨v, a, m', ho, hp, hh⟩, hF⟩, hL⟩⟩ := h p e ha hc1 hc2 s m args below hf hap hP hK
  exact ⟨k, o, h1, h2, h3, ⟨⟨⟨v, a, m', ho, hi _ _ _ hp, hh⟩, hF⟩, hL⟩⟩
