/-! What stays true of the object in the law's loop, and what the law asks follows of it. -/
def nb (B : Nat) (v : Int32) : Prop := ∃ n, n ≤ B ∧ v = nI n
def seOK (T C : Nat) (s : SeD) : Prop := sHe s = min 13 C ∧ sLa s < 13 ∧ nb (300 * T) (sPr s 0) ∧ (∀ k, 1 ≤ k → k < 6 → nb T (sPr s k)) ∧ ∀ j, j < 13 → nb (300 * T) (sRo s j 0) ∧ ∀ k, 1 ≤ k → k < 6 → nb T (sRo s j k)
def alOK (C : Nat) (a : AlD) : Prop := a.1 = 0 ∨ ((a.1 = 1 ∨ a.1 = 2) ∧ ∃ t, 1 ≤ t ∧ t ≤ C ∧ a.2.1 = nI t)
def ruOK (u : RuD) : Prop := (∃ q, q < 500 ∧ rLi u = nI q - 50) ∧ (∃ q, q < 4 ∧ rRk u = nI q) ∧ (∃ q, q < 4 ∧ rWt u = nI q) ∧ 1 ≤ rW u ∧ rW u ≤ 12 ∧ rLo u < 9 ∧ rWa u < 3
def lgOK (C sn : Nat) (d : LgD) : Prop := lEv d = sn ∧ lHe d = min 30 sn ∧ lLa d < 30 ∧ (∀ k, k < min 30 sn → nb C (foF d k 0) ∧ (0 < foF d k 2 ↔ 0 ≤ foF d k 3)) ∧ ∀ k, k + 1 < min 30 sn → ¬ foF d k 0 < foF d (k + 1) 0
/-- T: how many numbers were told, at most; sn: how many notices were sent -/
def IV (T sn : Nat) (x : XD) : Prop := xG x < 3 ∧ (1 ≤ xS x ∧ xS x ≤ 6) ∧ (1 ≤ xR x ∧ xR x ≤ 4) ∧ xH x ≤ 5 ∧ xC x ≤ 1000 ∧ (∀ i, i < xS x → seOK T (xC x) (xSe x i)) ∧ (∀ r, r < xR x → ruOK (xRu x r)) ∧ (∀ r k, r < xR x → k < 12 → alOK (xC x) (xAl x r k) ∧ (hkF x (xRu x r) k = false → (xAl x r k).1 = 0)) ∧ (∀ h, h < xH x → ∃ q, q ≤ 2000 ∧ (xHu x h).2.2 = nI q) ∧ lgOK (xC x) sn (xL x)
/-- at the setup -/
def PS (x : XD) : Prop := xG x < 3 ∧ xS x ≤ 6 ∧ xR x ≤ 4 ∧ xH x = 0 ∧ xC x = 0 ∧ (∀ i, i < xS x → seOK 0 0 (xSe x i)) ∧ (∀ r, r < xR x → ruOK (xRu x r)) ∧ (∀ r k, r < xR x → k < 12 → (xAl x r k).1 = 0) ∧ lgOK 0 0 (xL x)
theorem nb.mono {A B : Nat} {v : Int32} (h : nb A v) (hab : A ≤ B) : nb B v := by
  obtain ⟨n, h1, h2⟩ := h
  exact ⟨n, by omega, h2⟩
theorem nb0 (B : Nat) : nb B 0 := ⟨0, Nat.zero_le _, rfl⟩
theorem PS_0 : PS x00 := by
  refine ⟨by decide, by decide, by decide, rfl, rfl, fun i hi => absurd hi (Nat.not_lt_zero _), fun i hi => absurd hi (Nat.not_lt_zero _), fun r k hi => absurd hi (Nat.not_lt_zero _), rfl, rfl, by decide, fun k hk => absurd hk (by omega), fun k hk => absurd hk (by omega)⟩
theorem PS_S (y : XD) (a b c : Nat) (h : PS y) (hn : xS y < 6) (ha : a < 3) (hb : b < 2) (hc : c < 3) : PS (addS y (nI a, nI b, nI c, fun _ => 0, fun _ _ => 0, 0, 0)) := by
  obtain ⟨h1, h2, h3, h4, h5, h6, h7⟩ := h
  refine ⟨h1, hn, h3, h4, h5, fun i hi => ?_, h7⟩
  show seOK 0 0 (if i = xS y then _ else xSe y i)
  by_cases e : i = xS y
  · rw [if_pos e]
    exact ⟨rfl, by show 0 < 13; decide, nb0 _, fun _ _ _ => nb0 _, fun _ _ => ⟨nb0 _, fun _ _ _ => nb0 _⟩⟩
  · rw [if_neg e]
    exact h6 i (by have h9 : i < xS y + 1 := hi; omega)
theorem PS_A (y : XD) (a lo w wa q wt rk : Nat) (ab : Bool) (h : PS y) (hn : xR y < 4) (ha : a < 2) (hlo : lo < 9) (hw1 : 1 ≤ w) (hw2 : w ≤ 12) (hwa : wa < 3) (hq : q < 500) (hwt : wt < 4) (hrk : rk < 4) : PS (setRu (addR y (nI a, lo, w, wa, ab, nI q - 50, 0, 0)) (xR y) (wLi (xRu (addR y (nI a, lo, w, wa, ab, nI q - 50, 0, 0)) (xR y)) (nI q - 50) (nI wt) (nI rk))) := by
  obtain ⟨h1, h2, h3, h4, h5, h6, h7, h8, h9⟩ := h
  have e0 : xRu (addR y (nI a, lo, w, wa, ab, nI q - 50, 0, 0)) (xR y) = (nI a, lo, w, wa, ab, nI q - 50, 0, 0) := if_pos rfl
  rw [e0]
  refine ⟨h1, h2, hn, h4, h5, h6, fun r hr => ?_, fun r k hr hk => ?_, h9⟩
  · show ruOK (if r = xR y then _ else if r = xR y then _ else xRu y r)
    by_cases e : r = xR y
    · rw [if_pos e]
      exact ⟨⟨q, hq, rfl⟩, ⟨rk, hrk, rfl⟩, ⟨wt, hwt, rfl⟩, hw1, hw2, hlo, hwa⟩
    · rw [if_neg e, if_neg e]
      exact h7 r (by have h9 : r < xR y + 1 := hr; omega)
  · show (if r = xR y then ((0, -1, 0) : AlD) else xAl y r k).1 = 0
    by_cases e : r = xR y
    · rw [if_pos e]
    · rw [if_neg e]
      exact h8 r k (by have h9 : r < xR y + 1 := hr; omega) hk
theorem PS_G (y : XD) (gr rp : Nat) (h : PS y) (hgr : gr < 3) (h1 : 5 ≤ rp) (h2 : rp < 15) : PS (gpX y gr rp) := by
  rw [gpX]
  split
  · exact h
  · obtain ⟨a1, a2⟩ := h
    exact ⟨hgr, a2⟩
theorem PS_IV {x : XD} (h : PS x) (h1 : 1 ≤ xS x) (h2 : 1 ≤ xR x) : IV 0 0 x := by
  obtain ⟨a1, a2, a3, a4, a5, a6, a7, a8, a9⟩ := h
  exact ⟨a1, ⟨h1, a2⟩, ⟨h2, a3⟩, by omega, by omega, by rw [a5]; exact a6, a7, fun r k hr hk => ⟨Or.inl (a8 r k hr hk), fun _ => a8 r k hr hk⟩, fun k hk => absurd hk (by omega), by rw [a5]; exact a9⟩
