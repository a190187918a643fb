/-! What would burn does. -/
def serB (x : XD) : Prop := ∀ i, i < xS x → sLa (xSe x i) < 13 ∧ sHe (xSe x i) ≤ 13
theorem tk0_se (y : XD) {i : Nat} (hi : i < xS y) : xSe (tk0 y) i = keepF (xSe y i) := by
  show sk (setC y (xC y + 1)) (xS y) i = _
  rw [sk, if_pos hi]; rfl
theorem tkX_se (x : XD) (n : Nat) {i : Nat} (hi : i < xS x) : xSe (tkX x (n + 1)) i = keepF (xSe (tkX x n) i) := by
  have h : i < xS (tkX x n) := by rw [tkX_S]; exact hi
  exact tk0_se (tkX x n) h
theorem serB_n {x : XD} (h : serB x) : ∀ n, serB (tkX x n) := by
  intro n
  induction n with
  | zero => exact h
  | succ n ih =>
    intro i hi
    have hi2 : i < xS x := by rw [tkX_S] at hi; exact hi
    rw [tkX_se x n hi2]
    have h1 := ih i (by rw [tkX_S]; exact hi2)
    exact ⟨Nat.mod_lt _ (by decide), by show min _ _ ≤ 13; omega⟩
theorem la_keep {y : XD} (h : serB y) (u : RuD) (hw : rW u ≤ 12) (k a : Nat) : laF (tk0 y) u k a = laF y u k (a + 1) := by
  have key : ∀ n, n ≤ xS y → laL (tk0 y) u k a n = laL y u k (a + 1) n := by
    intro n
    induction n with
    | zero => intro _; rfl
    | succ n ih =>
      intro hn
      obtain ⟨b1, b2⟩ := h n (by omega)
      have e : tkF u n (xSe (tk0 y) n) k = tkF u n (xSe y n) k := by rw [tk0_se y (by omega)]; rfl
      rw [laL, laL, ih (by omega), e, tk0_se y (by omega), look_keep b1 b2 _ _ _ hw]
  exact key (xS y) (Nat.le_refl _)
theorem la_se {x y : XD} (h1 : xS x = xS y) (h2 : ∀ i, i < xS y → xSe x i = xSe y i) (u : RuD) (k a : Nat) : laF x u k a = laF y u k a := by
  have key : ∀ n, n ≤ xS y → laL x u k a n = laL y u k a n := by
    intro n
    induction n with
    | zero => intro _; rfl
    | succ n ih => intro hn; rw [laL, laL, ih (by omega), h2 n (by omega)]
  rw [laF, laF, h1]
  exact key _ (Nat.le_refl _)
theorem la_n {x : XD} (h : serB x) (u : RuD) (hw : rW u ≤ 12) (k : Nat) : ∀ n a, laF (tkX x n) u k a = laF x u k (a + n) := by
  intro n
  induction n with
  | zero => intro a; rfl
  | succ n ih =>
    intro a
    have e : laF (tkX x (n + 1)) u k a = laF (tk0 (tkX x n)) u k a := la_se (x := tkX x (n + 1)) (y := tk0 (tkX x n)) rfl (fun i _ => rfl) u k a
    rw [e, la_keep (serB_n h n) u hw, ih (a + 1)]
    congr 1
    omega
theorem hk_tk0 (y : XD) (u : RuD) (k : Nat) : hkF (tk0 y) u k = hkF y u k := by
  refine hk_eq (x := tk0 y) (y := y) rfl (fun j => ?_) u k
  show sMe (sk (setC y (xC y + 1)) (xS y) j) = _ ∧ sPl (sk (setC y (xC y + 1)) (xS y) j) = _
  rw [sk]
  split <;> exact ⟨rfl, rfl⟩
theorem hk_n (x : XD) (u : RuD) (k : Nat) : ∀ n, hkF (tkX x n) u k = hkF x u k := by
  intro n
  induction n with
  | zero => rfl
  | succ n ih =>
    have e : hkF (tkX x (n + 1)) u k = hkF (tk0 (tkX x n)) u k := rfl
    rw [e, hk_tk0, ih]
theorem ru_n (x : XD) : ∀ n, xRu (tkX x n) = xRu x := by
  intro n
  induction n with
  | zero => rfl
  | succ n ih => exact ih
theorem al_1 (y : XD) {r k : Nat} (hr : r < xR y) (hk : k < 12) : xAl (snX (tk1 y)) r k = stp (tk0 y) r k := by
  show sb (tk0 y) (xR y) r k = _
  rw [sb, if_pos ⟨hr, hk⟩]
theorem al_n {x : XD} (h : serB x) {r k : Nat} (hr : r < xR x) (hk : k < 12) (hw : rW (xRu x r) ≤ 12) : ∀ n, xAl (tkX x n) r k = if hkF x (xRu x r) k then rb x r k n else xAl x r k := by
  intro n
  induction n with
  | zero => split <;> rfl
  | succ n ih =>
    have e : xAl (tkX x (n + 1)) r k = stp (tk0 (tkX x n)) r k := al_1 (tkX x n) (by rw [tkX_R]; exact hr) hk
    have e1 : xRu (tk0 (tkX x n)) = xRu x := ru_n x n
    have e2 : xAl (tk0 (tkX x n)) r k = xAl (tkX x n) r k := rfl
    have e3 : xC (tk0 (tkX x n)) = xC (tkX x n) + 1 := rfl
    rw [e, stp, e1, e2, ih, e3, tkX_C, hk_tk0, hk_n, la_keep (serB_n h n) _ hw, la_n h _ hw]
    by_cases hq : hkF x (xRu x r) k = true
    · rw [if_pos hq, if_pos hq, if_pos hq, rb, nI_add]
      rw [show 0 + 1 + n = n + 1 by omega, show xC x + n + 1 = xC x + (n + 1) by omega]
    · rw [if_neg hq, if_neg hq, if_neg hq]
theorem pred_ok {x : XD} (h : serB x) (hw : ∀ r, r < xR x → rW (xRu x r) ≤ 12) (h0 : ∀ r k, r < xR x → k < 12 → hkF x (xRu x r) k = false → (xAl x r k).1 = 0) (t : Nat) (w : stOK (tkX x t)) : caX (tkX x t) 2 = biX x t := by
  have eR := tkX_R x t
  show sumN (fun r => caF (xAl (tkX x t) r) 2) (xR (tkX x t)) = sumN (fun r => cntB (wbF x t r) 12) (xR x)
  rw [eR]
  refine sumN_eq _ (fun r hr => ?_)
  have key : ∀ n, n ≤ 12 → caL (xAl (tkX x t) r) 2 n = cntB (wbF x t r) n := by
    intro n
    induction n with
    | zero => intro _; rfl
    | succ n ih =>
      intro hn
      have ha := al_n h hr (show n < 12 by omega) (hw r hr) t
      have hs := w r n (by rw [eR]; exact hr) (by omega)
      rw [caL, cntB, ih (by omega), wbF]
      cases hq : hkF x (xRu x r) n
      · rw [hq] at ha
        have ha2 : xAl (tkX x t) r n = xAl x r n := ha
        rw [ha2, h0 r n hr (by omega) hq]; rfl
      · rw [hq] at ha
        have ha2 : xAl (tkX x t) r n = rb x r n t := ha
        rw [ha2] at hs ⊢
        rcases hs with q | q | q <;> rw [q] <;> rfl
  exact key 12 (Nat.le_refl _)
