/-! Telling, beginning anew and hushing keep what stays true. -/
theorem upd_s (f : Nat → Int32) (k : Nat) (v : Int32) : upd f k v k = v := by simp [upd]
theorem upd_n (f : Nat → Int32) {k j : Nat} (v : Int32) (h : j ≠ k) : upd f k v j = f j := by simp [upd, h]
theorem nb.add {A B : Nat} {v w : Int32} (h : nb A v) (h2 : nb B w) : nb (A + B) (v + w) := by
  obtain ⟨n, h1, e1⟩ := h
  obtain ⟨k, h3, e3⟩ := h2
  exact ⟨n + k, by omega, by rw [e1, e3]; exact nI_add n k⟩
theorem nb1 {B : Nat} (h : 1 ≤ B) : nb B 1 := ⟨1, h, rfl⟩
theorem seOK.mono {T T2 C : Nat} {s : SeD} (h : seOK T C s) (ht : T ≤ T2) : seOK T2 C s := by
  obtain ⟨h1, h2, h3, h4, h5⟩ := h
  exact ⟨h1, h2, h3.mono (by omega), fun k a b => (h4 k a b).mono ht, fun j hj => ⟨(h5 j hj).1.mono (by omega), fun k a b => ((h5 j hj).2 k a b).mono ht⟩⟩
theorem hk_eq {x y : XD} (h1 : xS x = xS y) (h2 : ∀ j, sMe (xSe x j) = sMe (xSe y j) ∧ sPl (xSe x j) = sPl (xSe y j)) (u : RuD) (k : Nat) : hkF x u k = hkF y u k := by
  rw [hkF, hkF, h1]
  have e : (fun i => tkF u i (xSe x i) k) = fun i => tkF u i (xSe y i) k := by
    funext i
    rw [tkF, tkF, (h2 i).1, (h2 i).2]
  rw [e]
theorem IV.ser {T T2 sn : Nat} {x : XD} {i : Nat} {s : SeD} (h : IV T sn x) (ht : T ≤ T2) (hm : sMe s = sMe (xSe x i)) (hp : sPl s = sPl (xSe x i)) (hs : i < xS x → seOK T2 (xC x) s) : IV T2 sn (setSe x i s) := by
  obtain ⟨a1, a2, a3, a4, a5, a6, a7, a8, a9⟩ := h
  refine ⟨a1, a2, a3, a4, a5, fun k hk => ?_, a7, fun r k hr hk => ⟨(a8 r k hr hk).1, fun h0 => (a8 r k hr hk).2 ?_⟩, a9⟩
  · show seOK T2 (xC x) (if k = i then s else xSe x k)
    by_cases e : k = i
    · rw [if_pos e]; exact hs (e ▸ hk)
    · rw [if_neg e]; exact (a6 k hk).mono ht
  · rw [← h0]
    refine hk_eq (x := x) (y := setSe x i s) rfl (fun j => ?_) (xRu x r) k
    show sMe (xSe x j) = sMe (if j = i then s else xSe x j) ∧ sPl (xSe x j) = sPl (if j = i then s else xSe x j)
    by_cases e : j = i
    · rw [if_pos e, e]; exact ⟨hm.symm, hp.symm⟩
    · rw [if_neg e]; exact ⟨rfl, rfl⟩
theorem m_tell : M_tell := by
  intro T sn x i v hT h hi hv
  refine h.ser (T2 := T + 1) (by omega) rfl rfl (fun _ => ?_)
  have h0 := h.2.2.2.2.2.1 i hi
  obtain ⟨h1, h2, h3, h4, h5⟩ := h0
  have hv' : nb 300 (nI v) := ⟨v, by omega, rfl⟩
  have key : nb (300 * (T + 1)) (takeP (xSe x i) (nI v) 0) ∧ ∀ k, 1 ≤ k → k < 6 → nb (T + 1) (takeP (xSe x i) (nI v) k) := by
    rw [takeP]
    by_cases e1 : sKi (xSe x i) = 1
    · rw [if_pos e1]
      refine ⟨by rw [upd_s]; exact hv'.mono (by omega), fun k a b => by rw [upd_n _ _ (by omega)]; exact (h4 k a b).mono (by omega)⟩
    · rw [if_neg e1]
      by_cases e2 : sKi (xSe x i) = 0
      · rw [if_pos e2]
        refine ⟨by rw [upd_s]; exact (h3.add hv').mono (by omega), fun k a b => by rw [upd_n _ _ (by omega)]; exact (h4 k a b).mono (by omega)⟩
      · rw [if_neg e2, histP]
        have hc1 := colF_ge (nI v)
        have hc2 := colF_lt (nI v)
        have hc := h4 _ hc1 hc2
        refine ⟨by rw [upd_s, upd_n _ _ (by omega)]; exact (h3.add (nb1 (B := 1) (by omega))).mono (by omega), fun k a b => ?_⟩
        rw [upd_n _ _ (by omega)]
        by_cases e3 : k = colF (nI v)
        · rw [e3, upd_s]; exact hc.add (nb1 (by omega))
        · rw [upd_n _ _ e3]; exact (h4 k a b).mono (by omega)
  exact ⟨h1, h2, key.1, key.2, fun j hj => ⟨(h5 j hj).1.mono (by omega), fun k a b => ((h5 j hj).2 k a b).mono (by omega)⟩⟩
theorem zeroP_0 (p : Nat → Int32) : ∀ k, k < 6 → zeroP p k = 0 := by
  intro k hk
  rcases (show k = 0 ∨ k = 1 ∨ k = 2 ∨ k = 3 ∨ k = 4 ∨ k = 5 by omega) with e | e | e | e | e | e <;> subst e <;> simp [zeroP, upd]
theorem m_reset : M_reset := by
  intro T sn x i h hi
  refine h.ser (Nat.le_refl _) rfl rfl (fun _ => ?_)
  obtain ⟨h1, h2, h3, h4, h5⟩ := h.2.2.2.2.2.1 i hi
  exact ⟨h1, h2, by show nb (300 * T) (zeroP (sPr (xSe x i)) 0); rw [zeroP_0 _ 0 (by decide)]; exact nb0 _, fun k a b => by show nb T (zeroP (sPr (xSe x i)) k); rw [zeroP_0 _ k b]; exact nb0 _, h5⟩
theorem m_hush : M_hush := by
  intro T sn x ru pl tk h h5 h1 h6
  obtain ⟨a1, a2, a3, a4, a5, a6, a7, a8, a9, a10⟩ := h
  refine ⟨a1, a2, a3, h5, a5, a6, a7, a8, fun k hk => ?_, a10⟩
  show ∃ q, q ≤ 2000 ∧ (if k = xH x then (ru, pl, nI (xC x + tk)) else xHu x k).2.2 = nI q
  by_cases e : k = xH x
  · rw [if_pos e]; exact ⟨_, by omega, rfl⟩
  · rw [if_neg e]; exact a9 k (by have h9 : k < xH x + 1 := hk; omega)
