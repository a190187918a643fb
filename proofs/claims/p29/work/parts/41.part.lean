/-! Parts do not fall; the whole of what is asked of a series. -/
theorem gs_nb {T C : Nat} {s : SeD} (h : seOK T C s) (hT : T ≤ 14) (k b : Nat) (h1 : 1 ≤ k) (h6 : k < 6) : nb T (grStep s k 0 b) := by
  obtain ⟨x, hx, ex⟩ := (past_nb h b).2 k h1 h6
  obtain ⟨y, hy, ey⟩ := (past_nb h (b + 1)).2 k h1 h6
  rw [grStep, ex, ey]
  by_cases hc : nI x - nI y < 0
  · rw [if_pos hc]; exact ⟨x, hx, rfl⟩
  · rw [if_neg hc]
    have h2 : y ≤ x := by
      apply Nat.not_lt.mp
      intro hlt
      apply hc
      rw [Int32.lt_iff_toInt_lt, pk_sub_toInt (by omega) (by omega)]
      have h3 : (0 : Int32).toInt = 0 := by decide
      omega
    rw [pk_sub h2]
    exact ⟨x - y, by omega, rfl⟩
theorem grL_nb {T C : Nat} {s : SeD} (h : seOK T C s) (hT : T ≤ 14) (k : Nat) (h1 : 1 ≤ k) (h6 : k < 6) : ∀ n A v, nb A v → nb (A + T * n) (grL s k 0 n v) := by
  intro n
  induction n with
  | zero => intro A v hv; exact hv.mono (by omega)
  | succ n ih =>
    intro A v hv
    rw [grL]
    exact (ih (A + T) _ (hv.add (gs_nb h hT k n h1 h6))).mono (by rw [Nat.mul_succ]; omega)
theorem grF_nb {T C : Nat} {s : SeD} (h : seOK T C s) (hT : T ≤ 14) (k w : Nat) (h1 : 1 ≤ k) (h6 : k < 6) (hw : w ≤ 12) : nb 168 (grF s k w 0) := by
  refine (grL_nb h hT k h1 h6 _ 0 0 (nb0 0)).mono ?_
  have h2 : min (w + 1) (sHe s + 0) - 1 ≤ 12 := by omega
  have h3 : T * (min (w + 1) (sHe s + 0) - 1) ≤ 14 * 12 := Nat.mul_le_mul hT h2
  omega
def EN (k : Nat) : Nat := if k = 0 then 0 else if k = 1 then 10 else if k = 2 then 50 else if k = 3 then 100 else 500
theorem EN_eq (k : Nat) : hm_eN k = nI (EN k) := by
  rw [hm_eN, EN]
  repeat' split
  all_goals rfl
def PLn (G : Nat → Nat) (R : Nat) : Nat → Nat → Nat → Nat
  | 0, _, _ => 500
  | n + 1, k, re => if 0 < G k ∧ R ≤ re + G k then EN (k - 1) + (EN k - EN (k - 1)) * (R - re) / G k else PLn G R n (k + 1) (re + G k)
theorem EN_mono {k : Nat} (h1 : 1 ≤ k) (h5 : k < 5) : EN (k - 1) ≤ EN k ∧ EN k ≤ 500 := by
  rcases (show k = 1 ∨ k = 2 ∨ k = 3 ∨ k = 4 by omega) with e | e | e | e <;> subst e <;> decide
theorem PL_hit {G : Nat → Nat} {R k re : Nat} (hg : 0 < G k) (hr : R ≤ re + G k) (h1 : 1 ≤ k) (h5 : k < 5) : EN (k - 1) ≤ EN (k - 1) + (EN k - EN (k - 1)) * (R - re) / G k ∧ EN (k - 1) + (EN k - EN (k - 1)) * (R - re) / G k ≤ EN k := by
  have h2 := (EN_mono h1 h5).1
  have h3 : (EN k - EN (k - 1)) * (R - re) / G k ≤ EN k - EN (k - 1) := by
    apply Nat.div_le_of_le_mul
    rw [Nat.mul_comm (G k)]
    exact Nat.mul_le_mul_left _ (by omega)
  generalize (EN k - EN (k - 1)) * (R - re) / G k = z at h3 ⊢
  omega
theorem PL_low (G : Nat → Nat) (R : Nat) : ∀ n k re, n + k = 5 → 1 ≤ k → EN (k - 1) ≤ PLn G R n k re ∧ PLn G R n k re ≤ 500 := by
  intro n
  induction n with
  | zero =>
    intro k re hk h1
    obtain rfl : k = 5 := by omega
    exact ⟨by show EN 4 ≤ 500; decide, Nat.le_refl _⟩
  | succ n ih =>
    intro k re hk h1
    rw [PLn]
    have h2 := EN_mono h1 (by omega)
    by_cases c : 0 < G k ∧ R ≤ re + G k
    · rw [if_pos c]
      have h3 := PL_hit c.1 c.2 h1 (by omega)
      omega
    · rw [if_neg c]
      have h3 := ih (k + 1) (re + G k) (by omega) (by omega)
      have h4 : k + 1 - 1 = k := by omega
      rw [h4] at h3
      omega
theorem PL_mono (G : Nat → Nat) {R R2 : Nat} (hR : R ≤ R2) : ∀ n k re, n + k = 5 → 1 ≤ k → PLn G R n k re ≤ PLn G R2 n k re := by
  intro n
  induction n with
  | zero => intro k re _ _; exact Nat.le_refl _
  | succ n ih =>
    intro k re hk h1
    rw [PLn, PLn]
    by_cases c : 0 < G k ∧ R ≤ re + G k
    · rw [if_pos c]
      by_cases c2 : 0 < G k ∧ R2 ≤ re + G k
      · rw [if_pos c2]
        have : (EN k - EN (k - 1)) * (R - re) / G k ≤ (EN k - EN (k - 1)) * (R2 - re) / G k := Nat.div_le_div_right (Nat.mul_le_mul_left _ (by omega))
        omega
      · rw [if_neg c2]
        have h3 := PL_hit c.1 c.2 h1 (by omega)
        have h4 := (PL_low G R2 n (k + 1) (re + G k) (by omega) (by omega)).1
        have h5 : k + 1 - 1 = k := by omega
        rw [h5] at h4
        omega
    · have c2 : ¬ (0 < G k ∧ R2 ≤ re + G k) := fun q => c ⟨q.1, by omega⟩
      rw [if_neg c, if_neg c2]
      exact ih (k + 1) (re + G k) (by omega) (by omega)
theorem partL_eq {s : SeD} {w R : Nat} {G : Nat → Nat} (hG : ∀ k, 1 ≤ k → k < 6 → grF s k w 0 = nI (G k) ∧ G k ≤ 168) (hR : R ≤ 1000) : ∀ n k re, n + k = 5 → 1 ≤ k → re < R → partL s w 0 (nI R) n k (nI re) = nI (PLn G R n k re) := by
  intro n
  induction n with
  | zero => intro k re _ _ _; rfl
  | succ n ih =>
    intro k re hk h1 hre
    obtain ⟨g1, g2⟩ := hG k h1 (by omega)
    rw [partL, PLn, g1, nI_add]
    by_cases c : 0 < G k ∧ R ≤ re + G k
    · have c' : 0 < nI (G k) ∧ nI R ≤ nI (re + G k) := ⟨nI_lt (a := 0) c.1 (by omega), nI_le c.2 (by omega)⟩
      have h2 := EN_mono h1 (by omega)
      rw [if_pos c', if_pos c, EN_eq, EN_eq, pk_sub h2.1, pk_sub (by omega), pk_mul, pk_div (Nat.lt_of_le_of_lt (Nat.mul_le_mul (show EN k - EN (k - 1) ≤ 500 by omega) (show R - re ≤ 1000 by omega)) (by decide)) c.1 (by omega), nI_add]
    · have c' : ¬ (0 < nI (G k) ∧ nI R ≤ nI (re + G k)) := fun q => c ⟨hm_ltI (a := 0) (by omega) (by omega) q.1, hm_leI (by omega) (by omega) q.2⟩
      rw [if_neg c', if_neg c]
      refine ih (k + 1) (re + G k) (by omega) (by omega) ?_
      by_cases c3 : 0 < G k
      · have : ¬ R ≤ re + G k := fun q => c ⟨c3, q⟩
        omega
      · omega
theorem part_eq {T C : Nat} {s : SeD} (h : seOK T C s) (hT : T ≤ 14) {w : Nat} (hw : w ≤ 12) : ∃ (G : Nat → Nat) (N : Nat), N ≤ 840 ∧ ∀ q, 50 ≤ q → q ≤ 99 → partF s (nI q) w 0 = nI (if N = 0 then 0 else PLn G ((q * N + 99) / 100) 4 1 0) := by
  obtain ⟨G, hG⟩ : ∃ G : Nat → Nat, ∀ k, 1 ≤ k → k < 6 → grF s k w 0 = nI (G k) ∧ G k ≤ 168 := by
    refine ⟨fun k => (grF s k w 0).toNatClampNeg, fun k h1 h6 => ?_⟩
    exact nb_cl (grF_nb h hT k w h1 h6 hw) (by decide)
  obtain ⟨g1, b1⟩ := hG 1 (by decide) (by decide)
  obtain ⟨g2, b2⟩ := hG 2 (by decide) (by decide)
  obtain ⟨g3, b3⟩ := hG 3 (by decide) (by decide)
  obtain ⟨g4, b4⟩ := hG 4 (by decide) (by decide)
  obtain ⟨g5, b5⟩ := hG 5 (by decide) (by decide)
  refine ⟨G, G 1 + G 2 + G 3 + G 4 + G 5, by omega, fun q hq1 hq2 => ?_⟩
  have hc : cntF s w 0 5 = nI (G 1 + G 2 + G 3 + G 4 + G 5) := by
    show 0 + grF s 1 w 0 + grF s 2 w 0 + grF s 3 w 0 + grF s 4 w 0 + grF s 5 w 0 = _
    rw [g1, g2, g3, g4, g5, ← nI_add, ← nI_add, ← nI_add, ← nI_add]
    rw [Int32.zero_add]
  obtain ⟨N, eN⟩ : ∃ N, N = G 1 + G 2 + G 3 + G 4 + G 5 := ⟨_, rfl⟩
  rw [← eN] at hc ⊢
  have hN : N ≤ 840 := by omega
  rw [partF, hc]
  rcases Nat.eq_zero_or_pos N with e | e
  · rw [e, if_pos rfl, if_pos (show nI 0 = (0 : Int32) from rfl)]; rfl
  · have e1 : ¬ nI N = 0 := fun z => absurd (hm_eqI (b := 0) (by omega) (by omega) z) (by omega)
    have hqN : q * N ≤ 99 * 840 := Nat.mul_le_mul hq2 hN
    have hq3 : 50 * 1 ≤ q * N := Nat.mul_le_mul hq1 e
    have e2 : (nI q * nI N + 99) / 100 = nI ((q * N + 99) / 100) := by
      rw [pk_mul]
      show (nI (q * N) + nI 99) / nI 100 = _
      rw [nI_add, pk_div (by omega) (by decide) (by decide)]
    rw [if_neg e1, if_neg (by omega), e2]
    exact partL_eq hG (by omega) 4 1 0 rfl (by decide) (by omega)
theorem ser_ok {T C : Nat} {s : SeD} (h : seOK T C s) (hT : T ≤ 14) (hC : 1 ≤ C) {w : Nat} (hw1 : 1 ≤ w) (hw : w ≤ 12) : ¬ lookF s 3 w 0 < lookF s 4 w 0 ∧ ¬ lookF s 2 w 0 < lookF s 4 w 0 ∧ ¬ lookF s 3 w 0 < lookF s 2 w 0 ∧ ¬ lookF s 6 w 0 < lookF s 5 w 0 ∧ ¬ lookF s 7 w 0 < lookF s 6 w 0 ∧ ¬ lookF s 8 w 0 < lookF s 7 w 0 ∧ lookF s 8 w 0 ≤ 500 := by
  have hHe : sHe s = min 13 C := h.1
  obtain ⟨j, ej⟩ : ∃ j, min w (sHe s + 0) = j + 1 := ⟨min w (sHe s + 0) - 1, by omega⟩
  have hj : j < 12 := by omega
  obtain ⟨a1, a2, a3, a4, a5, a6, a7⟩ := ut_eq h hT j
  have s5 := (ut_eq h hT (j + 1)).2.2.2.2.1
  have l3 : lookF s 3 w 0 = nI (MX s j) := by rw [show lookF s 3 w 0 = utF s w 0 true from rfl, utF, ej]; exact a1
  have l4 : lookF s 4 w 0 = nI (MN s j) := by rw [show lookF s 4 w 0 = utF s w 0 false from rfl, utF, ej]; exact a2
  have hS : SM s (j + 1) ≤ 4200 * 12 := Nat.le_trans a7 (Nat.mul_le_mul a3 (by omega))
  have l2 : lookF s 2 w 0 = nI (SM s (j + 1) / (j + 1)) := by
    rw [show lookF s 2 w 0 = meanF s w 0 from rfl, meanF, ej, if_neg (by omega), s5]
    exact pk_div (by omega) (by omega) (by omega)
  have m1 : MN s j ≤ SM s (j + 1) / (j + 1) := (Nat.le_div_iff_mul_le (by omega)).mpr a6
  have m2 : SM s (j + 1) / (j + 1) ≤ MX s j := Nat.div_le_of_le_mul (by rw [Nat.mul_comm]; exact a7)
  generalize SM s (j + 1) / (j + 1) = me at l2 m1 m2
  obtain ⟨G, N, hN, hP⟩ := part_eq h hT hw
  have key : ∀ lk, 5 ≤ lk → lk ≤ 8 → lookF s lk w 0 = nI (if sKi s = 2 then (if N = 0 then 0 else PLn G (((if lk = 5 then 50 else if lk = 6 then 75 else if lk = 7 then 90 else 99) * N + 99) / 100) 4 1 0) else 0) := by
    intro lk h5 h8
    by_cases e : sKi s = 2
    · rw [if_pos e]
      rcases (show lk = 5 ∨ lk = 6 ∨ lk = 7 ∨ lk = 8 by omega) with q | q | q | q <;> subst q
      · exact Eq.trans (show lookF s 5 w 0 = partF s (nI 50) w 0 by simp [lookF, e, hm_pN]; rfl) (hP 50 (by decide) (by decide))
      · exact Eq.trans (show lookF s 6 w 0 = partF s (nI 75) w 0 by simp [lookF, e, hm_pN]; rfl) (hP 75 (by decide) (by decide))
      · exact Eq.trans (show lookF s 7 w 0 = partF s (nI 90) w 0 by simp [lookF, e, hm_pN]; rfl) (hP 90 (by decide) (by decide))
      · exact Eq.trans (show lookF s 8 w 0 = partF s (nI 99) w 0 by simp [lookF, e, hm_pN]; rfl) (hP 99 (by decide) (by decide))
    · rw [if_neg e]
      rcases (show lk = 5 ∨ lk = 6 ∨ lk = 7 ∨ lk = 8 by omega) with q | q | q | q <;> subst q <;> simp [lookF, e] <;> rfl
  have mono : ∀ q q2, q ≤ q2 → (if sKi s = 2 then (if N = 0 then 0 else PLn G ((q * N + 99) / 100) 4 1 0) else 0) ≤ (if sKi s = 2 then (if N = 0 then 0 else PLn G ((q2 * N + 99) / 100) 4 1 0) else 0) := by
    intro q q2 hq
    split
    · split
      · exact Nat.le_refl _
      · exact PL_mono G (Nat.div_le_div_right (Nat.add_le_add_right (Nat.mul_le_mul_right _ hq) _)) 4 1 0 rfl (by decide)
    · exact Nat.le_refl _
  have top : ∀ q, (if sKi s = 2 then (if N = 0 then 0 else PLn G ((q * N + 99) / 100) 4 1 0) else 0) ≤ 500 := by
    intro q
    split
    · split
      · omega
      · exact (PL_low G _ 4 1 0 rfl (by decide)).2
    · omega
  have k5 := key 5 (by decide) (by decide)
  have k6 := key 6 (by decide) (by decide)
  have k7 := key 7 (by decide) (by decide)
  have k8 := key 8 (by decide) (by decide)
  have t5 := top 50
  have t6 := top 75
  have t7 := top 90
  have t8 := top 99
  rw [l3, l4, l2, k5, k6, k7, k8]
  refine ⟨nI_nlt (by omega) (by omega), nI_nlt (by omega) (by omega), nI_nlt (by omega) (by omega), nI_nlt (mono 50 75 (by decide)) (Nat.lt_of_le_of_lt t6 (by decide)), nI_nlt (mono 75 90 (by decide)) (Nat.lt_of_le_of_lt t7 (by decide)), nI_nlt (mono 90 99 (by decide)) (Nat.lt_of_le_of_lt t8 (by decide)), nI_le (b := 500) t8 (by decide)⟩
theorem m_ask : M_ask := by
  intro T sn x hT hC1 hC h
  have w := h.st
  obtain ⟨a1, a2, a3, a4, a5, a6, a7, a8, a9, a10⟩ := h
  exact ⟨lq_ok w, bq_ok w, clX_ca x _, ca21 x, fun k hk => ⟨fun w0 hw => ser_ok (a6 k hk) hT hC1 (by omega) (by omega), (a6 k hk).1⟩, hus_ok w a4, fun r _ => calm_ok x r⟩
