/-! Calm is the utmost; looks lie between the least and the greatest. -/
theorem cm_inv (x : XD) (u : RuD) : ∀ n, ((cmF x u n).1 = true → ∀ j, j < n → hkF x u j = false) ∧ ∀ j, j < n → hkF x u j = true → byF u (laF x u j 0) (cmF x u n).2 = false := by
  intro n
  induction n with
  | zero => exact ⟨fun _ j hj => absurd hj (Nat.not_lt_zero _), fun j hj => absurd hj (Nat.not_lt_zero _)⟩
  | succ n ih =>
    obtain ⟨h1, h2⟩ := ih
    by_cases e : hkF x u n = true
    · have e0 : cmF x u (n + 1) = (false, if (cmF x u n).1 || byF u (laF x u n 0) (cmF x u n).2 then laF x u n 0 else (cmF x u n).2) := by rw [cmF, if_pos e]
      rw [e0]
      refine ⟨(fun h => by cases h), fun j hj hk => ?_⟩
      show byF u (laF x u j 0) (if (cmF x u n).1 || byF u (laF x u n 0) (cmF x u n).2 then laF x u n 0 else (cmF x u n).2) = false
      have hirr : ∀ v, byF u v v = false := fun v => by
        rw [byF]
        split <;> exact decide_eq_false (Int32.lt_irrefl)
      by_cases hj2 : j = n
      · subst hj2
        split
        · exact hirr _
        · rename_i hc
          cases hb : byF u (laF x u j 0) (cmF x u j).2
          · rfl
          · rw [hb, Bool.or_true] at hc; exact absurd rfl hc
      · have hjn : j < n := by omega
        split
        · rename_i hc
          cases hf : (cmF x u n).1
          · rw [hf, Bool.false_or] at hc
            have h3 := h2 j hjn hk
            rw [byF] at hc h3 ⊢
            by_cases ea : rAb u = true
            · rw [if_pos ea] at hc h3 ⊢
              have a1 := of_decide_eq_true hc
              have a2 := of_decide_eq_false h3
              exact decide_eq_false (fun a3 => a2 (Int32.lt_trans a1 a3))
            · rw [if_neg ea] at hc h3 ⊢
              have a1 := of_decide_eq_true hc
              have a2 := of_decide_eq_false h3
              exact decide_eq_false (fun a3 => a2 (Int32.lt_trans a3 a1))
          · have := h1 hf j hjn
            rw [hk] at this; cases this
        · exact h2 j hjn hk
    · have e' : hkF x u n = false := by simpa using e
      have e0 : cmF x u (n + 1) = cmF x u n := by rw [cmF, e']; rfl
      rw [e0]
      refine ⟨fun h j hj => ?_, fun j hj hk => ?_⟩
      · by_cases hj2 : j = n
        · rw [hj2]; exact e'
        · exact h1 h j (by omega)
      · by_cases hj2 : j = n
        · rw [hj2, e'] at hk; cases hk
        · exact h2 j (by omega) hk
theorem calm_ok (x : XD) (r : Nat) : byX x r (cmX x r) = 0 := cntB_0 12 (fun k hk => by
  rw [by1]
  cases e : hkF x (xRu x r) k
  · rfl
  · rw [cmX, (cm_inv x (xRu x r) 12).2 k hk e]; rfl)
/-! numbers of a series -/
def nv (s : SeD) (b : Nat) : Nat := (pastF s 0 b 0).toNatClampNeg
theorem nb_cl {B : Nat} {v : Int32} (h : nb B v) (hB : B < 2 ^ 31) : v = nI v.toNatClampNeg ∧ v.toNatClampNeg ≤ B := by
  obtain ⟨n, h1, h2⟩ := h
  rw [h2, nI_clamp (by omega)]
  exact ⟨rfl, h1⟩
theorem past_nb {T C : Nat} {s : SeD} (h : seOK T C s) (b : Nat) : nb (300 * T) (pastF s 0 b 0) ∧ ∀ k, 1 ≤ k → k < 6 → nb T (pastF s k b 0) := by
  obtain ⟨h1, h2, h3, h4, h5⟩ := h
  have key : ∀ k, pastF s k b 0 = 0 ∨ pastF s k b 0 = sRo s ((sLa s + 13 - b) % 13) k := fun k => by
    rw [pastF, if_neg (by omega), Nat.sub_zero]
    split
    · exact Or.inl rfl
    · exact Or.inr rfl
  have hj := h5 ((sLa s + 13 - b) % 13) (Nat.mod_lt _ (by decide))
  refine ⟨?_, fun k a c => ?_⟩
  · rcases key 0 with e | e <;> rw [e]
    · exact nb0 _
    · exact hj.1
  · rcases key k with e | e <;> rw [e]
    · exact nb0 _
    · exact hj.2 k a c
theorem nv_eq {T C : Nat} {s : SeD} (h : seOK T C s) (hT : T ≤ 14) (b : Nat) : pastF s 0 b 0 = nI (nv s b) ∧ nv s b ≤ 4200 := by
  obtain ⟨h1, h2⟩ := nb_cl (past_nb h b).1 (by omega)
  exact ⟨h1, by have h3 : nv s b ≤ 300 * T := h2; omega⟩
def MX (s : SeD) : Nat → Nat
  | 0 => nv s 0
  | j + 1 => max (MX s j) (nv s (j + 1))
def MN (s : SeD) : Nat → Nat
  | 0 => nv s 0
  | j + 1 => min (MN s j) (nv s (j + 1))
def SM (s : SeD) : Nat → Nat
  | 0 => 0
  | j + 1 => SM s j + nv s j
theorem mxI_nI {a b : Nat} (ha : a < 2 ^ 31) (hb : b < 2 ^ 31) : mxI (nI a) (nI b) = nI (max a b) := by
  rw [mxI]
  by_cases h : a < b
  · rw [if_pos (nI_lt h hb), Nat.max_eq_right (by omega)]
  · rw [if_neg (nI_nlt (by omega) ha), Nat.max_eq_left (by omega)]
theorem mnI_nI {a b : Nat} (ha : a < 2 ^ 31) (hb : b < 2 ^ 31) : mnI (nI a) (nI b) = nI (min a b) := by
  rw [mnI]
  by_cases h : b < a
  · rw [if_pos (nI_lt h ha), Nat.min_eq_right (by omega)]
  · rw [if_neg (nI_nlt (by omega) hb), Nat.min_eq_left (by omega)]
theorem ut_eq {T C : Nat} {s : SeD} (h : seOK T C s) (hT : T ≤ 14) : ∀ j, utL s 0 true j = nI (MX s j) ∧ utL s 0 false j = nI (MN s j) ∧ MX s j ≤ 4200 ∧ MN s j ≤ 4200 ∧ sumF s 0 j = nI (SM s j) ∧ MN s j * (j + 1) ≤ SM s (j + 1) ∧ SM s (j + 1) ≤ MX s j * (j + 1) := by
  intro j
  induction j with
  | zero =>
    obtain ⟨h1, h2⟩ := nv_eq h hT 0
    refine ⟨h1, h1, h2, h2, rfl, ?_, ?_⟩
    · show nv s 0 * 1 ≤ 0 + nv s 0; omega
    · show 0 + nv s 0 ≤ nv s 0 * 1; omega
  | succ j ih =>
    obtain ⟨a1, a2, a3, a4, a5, a6, a7⟩ := ih
    obtain ⟨h1, h2⟩ := nv_eq h hT (j + 1)
    obtain ⟨g1, g2⟩ := nv_eq h hT j
    have hx1 : MX s (j + 1) = max (MX s j) (nv s (j + 1)) := rfl
    have hn1 : MN s (j + 1) = min (MN s j) (nv s (j + 1)) := rfl
    have hs1 : SM s (j + 2) = SM s (j + 1) + nv s (j + 1) := rfl
    refine ⟨?_, ?_, by omega, by omega, ?_, ?_, ?_⟩
    · rw [utL, if_pos rfl, a1, h1, mxI_nI (by omega) (by omega)]; rfl
    · rw [utL, if_neg (by decide), a2, h1, mnI_nI (by omega) (by omega)]; rfl
    · rw [sumF, a5, g1, nI_add]; rfl
    · show MN s (j + 1) * (j + 1 + 1) ≤ SM s (j + 2)
      have b1 : MN s (j + 1) * (j + 1) ≤ MN s j * (j + 1) := Nat.mul_le_mul_right _ (by omega)
      have b2 : MN s (j + 1) * (j + 1 + 1) = MN s (j + 1) * (j + 1) + MN s (j + 1) := Nat.mul_succ _ _
      omega
    · show SM s (j + 2) ≤ MX s (j + 1) * (j + 1 + 1)
      have b1 : MX s j * (j + 1) ≤ MX s (j + 1) * (j + 1) := Nat.mul_le_mul_right _ (by omega)
      have b2 : MX s (j + 1) * (j + 1 + 1) = MX s (j + 1) * (j + 1) + MX s (j + 1) := Nat.mul_succ _ _
      omega
