/-! The log over a tick, and the tick. -/
theorem fo_0 {d : LgD} {a b c e : Int32} (w : Nat) : foF (klF d a b c e) 0 w = klRow d a b c e w := by
  have e1 : lLa (klF d a b c e) = klLa d := rfl
  have h1 : klLa d < 30 := Nat.mod_lt _ (by decide)
  have e2 : ∀ j, lRo (klF d a b c e) j = if j = klLa d then klRow d a b c e else lRo d j := fun _ => rfl
  rw [foF, e1, e2, if_pos (by omega)]
theorem fo_S {d : LgD} {a b c e : Int32} (hla : lLa d < 30) (k w : Nat) (hk : k + 1 ≤ 29) : foF (klF d a b c e) (k + 1) w = foF d k w := by
  have e1 : lLa (klF d a b c e) = (lLa d + 1) % 30 := rfl
  have e2 : ∀ j, lRo (klF d a b c e) j = if j = (lLa d + 1) % 30 then klRow d a b c e else lRo d j := fun _ => rfl
  have e3 : ((lLa d + 1) % 30 + 30 - (k + 1)) % 30 = (lLa d + 30 - k) % 30 := by omega
  rw [foF, foF, e1, e2, if_neg (by omega), e3]
theorem lg_keep {C m : Nat} {d : LgD} (h : lgOK C m d) (hC : C < 2000) {b c e : Int32} (hce : 0 < c ↔ 0 ≤ e) : lgOK C (m + 1) (klF d (nI C) b c e) := by
  obtain ⟨h1, h2, h3, h4, h5⟩ := h
  have r0 : klRow d (nI C) b c e 0 = nI C := by simp [klRow, upd]
  have r2 : klRow d (nI C) b c e 2 = c := by simp [klRow, upd]
  have r3 : klRow d (nI C) b c e 3 = e := by simp [klRow, upd]
  refine ⟨by show lEv d + 1 = _; omega, by show min (lHe d + 1) 30 = _; omega, Nat.mod_lt _ (by decide), fun k hk => ?_, fun k hk => ?_⟩
  · match k, hk with
    | 0, _ => rw [fo_0, fo_0, fo_0, r0, r2, r3]; exact ⟨⟨C, Nat.le_refl _, rfl⟩, hce⟩
    | k + 1, hk =>
      rw [fo_S h3 k 0 (by omega), fo_S h3 k 2 (by omega), fo_S h3 k 3 (by omega)]
      exact h4 k (by omega)
  · match k, hk with
    | 0, hk =>
      rw [fo_0, r0, fo_S h3 0 0 (by omega)]
      obtain ⟨n, hn, en⟩ := (h4 0 (by omega)).1
      rw [en]
      exact nI_nlt hn (by omega)
    | k + 1, hk =>
      rw [fo_S h3 k 0 (by omega), fo_S h3 (k + 1) 0 (by omega)]
      exact h5 k (by omega)
theorem lg_mono {C m : Nat} {d : LgD} (h : lgOK C m d) : lgOK (C + 1) m d := by
  obtain ⟨h1, h2, h3, h4, h5⟩ := h
  exact ⟨h1, h2, h3, fun k hk => ⟨(h4 k hk).1.mono (by omega), (h4 k hk).2⟩, h5⟩
theorem sn_ok {x : XD} {m : Nat} (hC : xC x < 2000) (hR6 : xR x ≤ 6) (hl : lgOK (xC x) m (xL x)) (hlo : ∀ j, j < 7 → loP (xR x) (xGr x j)) (hrk : ∀ r, r < xR x → ∃ q, q < 4 ∧ rRk (xRu x r) = nI q) : ∀ j, j ≤ 7 → (sn x j).2.2 ≤ j ∧ lgOK (xC x) (m + (sn x j).2.2) (sn x j).2.1 ∧ ∀ i, gLo ((sn x j).1 i) = gLo (xGr x i) := by
  intro j
  induction j with
  | zero => intro _; exact ⟨Nat.le_refl _, hl, fun _ => rfl⟩
  | succ j ih =>
    intro hj
    obtain ⟨h1, h2, h3⟩ := ih (by omega)
    cases hd : dueF ((sn x j).1 j) (nI (xC x)) (nI (xP x))
    · rw [sn_not x j hd]
      refine ⟨by show (sn x j).2.2 ≤ j + 1; omega, h2, fun i => ?_⟩
      show gLo (if i = j then waF ((sn x j).1 j) (ilF ((sn x j).1 j)) else (sn x j).1 i) = _
      by_cases e : i = j
      · rw [if_pos e, e]; exact h3 j
      · rw [if_neg e]; exact h3 i
    · rw [sn_due x j hd]
      refine ⟨by show (sn x j).2.2 + 1 ≤ j + 1; omega, ?_, fun i => ?_⟩
      · refine lg_keep h2 hC ?_
        refine rank_ok hR6 ?_ hrk
        intro r hr
        rw [h3 j]
        exact hlo j (by omega) r hr
      · show gLo (if i = j then waF (mkF ((sn x j).1 j) (nI (xC x))) (ilF ((sn x j).1 j)) else (sn x j).1 i) = _
        by_cases e : i = j
        · rw [if_pos e, e]; exact h3 j
        · rw [if_neg e]; exact h3 i
theorem se_keep {T C : Nat} {s : SeD} (h : seOK T C s) : seOK T (C + 1) (keepF s) := by
  obtain ⟨h1, h2, h3, h4, h5⟩ := h
  refine ⟨by show min (sHe s + 1) 13 = _; omega, Nat.mod_lt _ (by decide), h3, h4, fun j hj => ?_⟩
  show nb _ ((if j = kpLa s then kpRow s else sRo s j) 0) ∧ ∀ k, 1 ≤ k → k < 6 → nb T ((if j = kpLa s then kpRow s else sRo s j) k)
  by_cases e : j = kpLa s
  · rw [if_pos e, kp_row s 0 (by decide)]
    exact ⟨h3, fun k a b => by rw [kp_row s k b]; exact h4 k a b⟩
  · rw [if_neg e]; exact h5 j hj
theorem al_step {C : Nat} {a : AlD} (h : alOK C a) (b : Bool) (wt : Int32) : alOK (C + 1) (stepF a b wt (nI (C + 1))) := by
  have hr : alOK (C + 1) (riseF a wt (nI (C + 1))) := by
    rw [riseF]
    split
    · exact Or.inr ⟨Or.inr rfl, C + 1, by omega, Nat.le_refl _, rfl⟩
    · rw [riseA]
      split
      · exact Or.inr ⟨Or.inl rfl, C + 1, by omega, Nat.le_refl _, rfl⟩
      · rename_i h0
        rcases h with q | ⟨q, t, t1, t2, t3⟩
        · exact absurd q h0
        · exact Or.inr ⟨q, t, t1, by omega, t3⟩
  have hf : alOK (C + 1) (fallF a) := by
    rw [fallF]
    split
    · exact Or.inl rfl
    · rcases h with q | ⟨q, t, t1, t2, t3⟩
      · exact Or.inl q
      · exact Or.inr ⟨q, t, t1, by omega, t3⟩
  rw [stepF]
  split
  · exact hr
  · exact hf
theorem al_mono {C : Nat} {a : AlD} (h : alOK C a) : alOK (C + 1) a := by
  rcases h with q | ⟨q, t, t1, t2, t3⟩
  · exact Or.inl q
  · exact Or.inr ⟨q, t, t1, by omega, t3⟩
theorem IV_tick1 {T m : Nat} {y : XD} (h : IV T m y) (hC : xC y + 1 ≤ 1000) : IV T (m + snN (tk1 y)) (snX (tk1 y)) ∧ snN (tk1 y) ≤ 7 := by
  obtain ⟨a1, a2, a3, a4, a5, a6, a7, a8, a9, a10⟩ := h
  have hrk : ∀ r, r < xR y → ∃ q, q < 4 ∧ rRk (xRu y r) = nI q := fun r hr => (a7 r hr).2.1
  have hs := sn_ok (x := gaX (tk1 y)) (m := m) (show xC y + 1 < 2000 by omega) (show xR y ≤ 6 by omega) (lg_mono a10) (loP_ga (tk1 y)) hrk 7 (Nat.le_refl _)
  refine ⟨⟨a1, a2, a3, a4, hC, fun i hi => ?_, a7, fun r k hr hk => ?_, a9, hs.2.1⟩, hs.1⟩
  · have e : xSe (snX (tk1 y)) i = keepF (xSe y i) := tk0_se y hi
    rw [e]
    exact se_keep (a6 i hi)
  · have e : xAl (snX (tk1 y)) r k = stp (tk0 y) r k := al_1 y hr hk
    have e2 : hkF (snX (tk1 y)) (xRu (snX (tk1 y)) r) k = hkF y (xRu y r) k := hk_tk0 y (xRu y r) k
    obtain ⟨b1, b2⟩ := a8 r k hr hk
    have e3 : hkF (tk0 y) (xRu (tk0 y) r) k = hkF y (xRu y r) k := hk_tk0 y (xRu y r) k
    rw [e, e2, stp, e3]
    cases hq : hkF y (xRu y r) k
    · exact ⟨al_mono b1, fun _ => b2 hq⟩
    · exact ⟨al_step b1 _ _, fun z => by cases z⟩
theorem m_tick : M_tick := by
  intro T m x t hT hC hm h h1 h4
  have key : ∀ n, n ≤ 4 → IV T (m + tkS x n) (tkX x n) ∧ tkS x n ≤ 7 * n := by
    intro n
    induction n with
    | zero => intro _; exact ⟨h, Nat.le_refl _⟩
    | succ n ih =>
      intro hn
      obtain ⟨i1, i2⟩ := ih (by omega)
      have hc := tkX_C x n
      obtain ⟨j1, j2⟩ := IV_tick1 i1 (by omega)
      have e : tkS x (n + 1) = tkS x n + snN (tk1 (tkX x n)) := rfl
      refine ⟨?_, by omega⟩
      rw [e, ← Nat.add_assoc]
      exact j1
  obtain ⟨k1, k2⟩ := key t h4
  refine ⟨k1, pred_ok (fun i hi => ?_) (fun r hr => ?_) (fun r k hr hk => ?_) t k1.st, k2⟩
  · obtain ⟨b1, b2, -⟩ := h.2.2.2.2.2.1 i hi
    exact ⟨b2, by omega⟩
  · exact (h.2.2.2.2.2.2.1 r hr).2.2.2.2.1
  · exact (h.2.2.2.2.2.2.2.1 r k hr hk).2
theorem math_ok : MathOK := ⟨m_tell, m_reset, m_hush, m_tick, m_ask⟩
