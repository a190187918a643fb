/-! What is gathered: bits of rules that are there. -/
def loP (R : Nat) (d : GrD) : Prop := ∀ r, r < 6 → nb 4095 (gLo d r) ∧ (R ≤ r → gLo d r = 0)
theorem loP_cl (R : Nat) (d : GrD) : loP R (clF d) := by
  intro r hr
  have e : gLo (clF d) r = 0 := zeroP_0 _ r hr
  rw [e]
  exact ⟨nb0 _, fun _ => rfl⟩
theorem loP_al {R : Nat} {d : GrD} (h : loP R d) {r0 k : Nat} (h0 : r0 < R) (hk : k < 12) : loP R (alF d r0 k) := by
  intro r hr
  obtain ⟨h1, h2⟩ := h r hr
  show nb 4095 (upd (gLo d) r0 (gLo d r0 ||| 1 <<< (nI k &&& 31)) r) ∧ (R ≤ r → upd (gLo d) r0 (gLo d r0 ||| 1 <<< (nI k &&& 31)) r = 0)
  by_cases e : r = r0
  · subst e
    rw [upd_s]
    exact ⟨or_ok h1 hk, fun q => absurd q (by omega)⟩
  · rw [upd_n _ _ e]
    exact ⟨h1, h2⟩
theorem loP_ga1 {x : XD} {f : Nat → GrD} {R r0 : Nat} (h0 : r0 < R) (hf : ∀ j, j < 7 → loP R (f j)) : ∀ k, k ≤ 12 → ∀ j, j < 7 → loP R (ga1 x r0 f k j) := by
  intro k
  induction k with
  | zero => intro _ j hj; exact hf j hj
  | succ k ih =>
    intro hk j hj
    have h1 := ih (by omega) j hj
    rw [ga1]
    split
    · show loP R (if j = _ then _ else _)
      split
      · exact loP_al h1 h0 (by omega)
      · exact h1
    · exact h1
theorem loP_ga2 {x : XD} {f : Nat → GrD} {R : Nat} (hf : ∀ j, j < 7 → loP R (f j)) : ∀ r, r ≤ R → ∀ j, j < 7 → loP R (ga2 x f r j) := by
  intro r
  induction r with
  | zero => intro _ j hj; exact hf j hj
  | succ r ih => intro hr j hj; exact loP_ga1 (by omega) (ih (by omega)) 12 (Nat.le_refl _) j hj
theorem loP_ga (x : XD) : ∀ j, j < 7 → loP (xR x) (xGr (gaX x) j) := by
  intro j hj
  refine loP_ga2 (fun i hi => ?_) (xR x) (Nat.le_refl _) j hj
  show loP (xR x) (if i < 7 then clF (xGr x i) else xGr x i)
  rw [if_pos hi]
  exact loP_cl _ _
/-- told of some: then the greatest rank is none less than 0 -/
theorem rank_ok {x : XD} {d : GrD} (hR6 : xR x ≤ 6) (h : loP (xR x) d) (hrk : ∀ r, r < xR x → ∃ q, q < 4 ∧ rRk (xRu x r) = nI q) : 0 < cgF (gLo d) ↔ 0 ≤ grR x d := by
  have key : ∀ n, n ≤ xR x → (grL2 x d n = -1 ∧ ∀ r, r < n → gLo d r = 0) ∨ (∃ q, q < 4 ∧ grL2 x d n = nI q) ∧ ∃ r, r < n ∧ ¬ gLo d r = 0 := by
    intro n
    induction n with
    | zero => intro _; exact Or.inl ⟨rfl, fun r hr => absurd hr (Nat.not_lt_zero _)⟩
    | succ n ih =>
      intro hn
      rw [grL2]
      by_cases e : gLo d n = 0
      · rw [if_pos e]
        rcases ih (by omega) with ⟨h1, h2⟩ | ⟨h1, r, h2, h3⟩
        · refine Or.inl ⟨h1, fun r hr => ?_⟩
          by_cases c : r = n
          · rw [c]; exact e
          · exact h2 r (by omega)
        · exact Or.inr ⟨h1, r, by omega, h3⟩
      · rw [if_neg e]
        obtain ⟨q, hq, eq⟩ := hrk n (by omega)
        refine Or.inr ⟨?_, n, by omega, e⟩
        rcases ih (by omega) with ⟨h1, -⟩ | ⟨⟨q2, hq2, eq2⟩, -⟩
        · rw [h1, eq]
          refine ⟨q, hq, ?_⟩
          rcases (show q = 0 ∨ q = 1 ∨ q = 2 ∨ q = 3 by omega) with z | z | z | z <;> subst z <;> decide
        · rw [eq2, eq, mxI_nI (by omega) (by omega)]
          exact ⟨_, by omega, rfl⟩
  have hb := cg_ok (f := gLo d) (fun r hr => (h r hr).1)
  rw [hb, grR]
  rcases key (xR x) (Nat.le_refl _) with ⟨h1, h2⟩ | ⟨⟨q, hq, eq⟩, r, h2, h3⟩
  · rw [h1]
    constructor
    · rintro ⟨r, hr, hn⟩
      by_cases c : r < xR x
      · exact absurd (h2 r c) hn
      · exact absurd ((h r hr).2 (by omega)) hn
    · intro z; exact absurd z (by decide)
  · rw [eq]
    exact ⟨fun _ => nI_le (a := 0) (Nat.zero_le _) (by omega), fun _ => ⟨r, by omega, h3⟩⟩
