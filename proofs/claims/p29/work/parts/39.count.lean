/-! Counting alerts: by places, by rules and keys. -/
theorem cnt_ca {al : Nat → AlD} {le : Int32} {p : Nat → Bool} : ∀ n, (∀ k, k < n → p k = true → ¬ (al k).1 < le) → cntB p n ≤ caL al le n := by
  intro n
  induction n with
  | zero => intro _; exact Nat.le_refl _
  | succ n ih =>
    intro h
    have h1 := ih (fun k hk => h k (by omega))
    rw [cntB, caL]
    by_cases e : p n = true
    · rw [if_pos e, if_neg (h n (by omega) e)]; omega
    · rw [if_neg e]
      split <;> omega
theorem sumN_le2 {f g : Nat → Nat} : ∀ n, (∀ k, k < n → f k ≤ g k) → sumN f n ≤ sumN g n := by
  intro n
  induction n with
  | zero => intro _; exact Nat.le_refl _
  | succ n ih =>
    intro h
    have h1 := ih (fun k hk => h k (by omega))
    have h2 := h n (by omega)
    rw [sumN, sumN]; omega
theorem sumN_eq {f g : Nat → Nat} : ∀ n, (∀ k, k < n → f k = g k) → sumN f n = sumN g n := by
  intro n
  induction n with
  | zero => intro _; rfl
  | succ n ih =>
    intro h
    rw [sumN, sumN, ih (fun k hk => h k (by omega)), h n (by omega)]
theorem cntB_eq {f g : Nat → Bool} : ∀ n, (∀ k, k < n → f k = g k) → cntB f n = cntB g n := by
  intro n
  induction n with
  | zero => intro _; rfl
  | succ n ih =>
    intro h
    rw [cntB, cntB, ih (fun k hk => h k (by omega)), h n (by omega)]
theorem cntB_0 {f : Nat → Bool} : ∀ n, (∀ k, k < n → f k = false) → cntB f n = 0 := by
  intro n
  induction n with
  | zero => intro _; rfl
  | succ n ih =>
    intro h
    rw [cntB, h n (by omega), ih (fun k hk => h k (by omega))]; rfl
theorem caL_le2 {al : Nat → AlD} : ∀ n, caL al 2 n ≤ caL al 1 n := by
  intro n
  induction n with
  | zero => exact Nat.le_refl _
  | succ n ih =>
    rw [caL, caL]
    by_cases e : (al n).1 < 1
    · rw [if_pos e, if_pos (Int32.lt_trans e (by decide))]; exact ih
    · rw [if_neg e]
      split <;> omega
theorem ca21 (x : XD) : caX x 2 ≤ caX x 1 := sumN_le2 _ (fun _ _ => caL_le2 12)
theorem hr_burn {x : XD} {r k : Nat} {wo : Int32} (h : hrF x r k wo = 0) : (xAl x r k).1 = 2 := by
  by_cases e : (xAl x r k).1 = 2
  · exact e
  · rw [hrF, if_pos e] at h
    exact absurd h (by decide)
theorem clX_ca (x : XD) (wo : Int32) : clX x wo ≤ caX x 2 := sumN_le2 _ (fun r _ => cnt_ca 12 (fun k _ h => by rw [hr_burn (of_decide_eq_true h)]; decide))
theorem ccX_ca {x : XD} (w : stOK x) (h : HuD) : ccX x h ≤ caX x 1 := sumN_le2 _ (fun r hr => cnt_ca 12 (fun k hk e => by
  rw [cc1, Bool.and_eq_true] at e
  have e1 : ¬ (xAl x r k).1 = 0 := by simpa using e.1
  rcases w r k hr hk with q | q | q
  · exact absurd q e1
  · rw [q]; decide
  · rw [q]; decide))
theorem ccX_over {x : XD} {h : HuD} (ho : ¬ nI (xC x) < h.2.2) : ccX x h = 0 := by
  have e : ccX x h = sumN (fun _ => 0) (xR x) := sumN_eq _ (fun r _ => cntB_0 12 (fun k _ => by rw [cc1, covF, decide_eq_false ho]; simp))
  rw [e]
  have : ∀ n, sumN (fun _ => 0) n = 0 := by
    intro n
    induction n with
    | zero => rfl
    | succ n ih => rw [sumN, ih]
  exact this _
theorem anyB_eq {f g : Nat → Bool} : ∀ n, (∀ k, k < n → f k = g k) → anyB f n = anyB g n := by
  intro n
  induction n with
  | zero => intro _; rfl
  | succ n ih =>
    intro h
    rw [anyB, anyB, ih (fun k hk => h k (by omega)), h n (by omega)]
theorem ih_over {x : XD} {h : Nat} (h5 : xH x ≤ 5) (ho : ¬ nI (xC x) < (xHu x h).2.2) (hh : h < xH x) (ru pl : Int32) : ihF x ru pl (nI h) = ihF x ru pl (-1) := by
  refine anyB_eq _ (fun k hk => ?_)
  rw [ih1, ih1]
  by_cases e : k = h
  · subst e
    rw [covF, decide_eq_false ho]; simp
  · have e1 : ¬ nI k = nI h := fun q => e (hm_eqI (by omega) (by omega) q)
    have e2 : ¬ nI k = -1 := fun q => absurd (congrArg Int32.toInt q) (by rw [nI_toInt (by omega), show ((-1 : Int32)).toInt = -1 by decide]; omega)
    rw [decide_eq_false e1, decide_eq_false e2]
theorem hr_over {x : XD} {h : Nat} (h5 : xH x ≤ 5) (ho : ¬ nI (xC x) < (xHu x h).2.2) (hh : h < xH x) (r k : Nat) : hrF x r k (nI h) = hrF x r k (-1) := by
  have e : ∀ rk pl, iqF x rk pl (nI h) = iqF x rk pl (-1) := fun rk pl => anyB_eq _ (fun r _ => anyB_eq _ (fun k _ => by rw [iq1, iq1, ih_over h5 ho hh]))
  rw [hrF, hrF, ih_over h5 ho hh, e]
theorem cl_over {x : XD} {h : Nat} (h5 : xH x ≤ 5) (ho : ¬ nI (xC x) < (xHu x h).2.2) (hh : h < xH x) : clX x (nI h) = clX x (-1) := sumN_eq _ (fun r _ => cntB_eq _ (fun k _ => by rw [cl1, cl1, hr_over h5 ho hh]))
theorem hus_ok {x : XD} (w : stOK x) (h5 : xH x ≤ 5) : husOK x := fun h hh => ⟨ccX_ca w _, fun ho => ccX_over ho, clX_ca x _, fun ho => cl_over h5 ho hh⟩
/-- by places is by rules and keys -/
theorem cnt_at {x : XD} (w : stOK x) (F : Nat → Nat → Bool) : ∀ r, r ≤ xR x → cntB (fun j => F (atRX x j) (atKX x j)) (caN x 1 r) = sumN (fun r => cntB (fun k => !decide ((xAl x r k).1 = 0) && F r k) 12) r := by
  intro r
  induction r with
  | zero => intro _; rfl
  | succ r ih =>
    intro hr
    have key : ∀ k, k ≤ 12 → cntB (fun j => F (atRX x j) (atKX x j)) (caN x 1 r + caL (xAl x r) 1 k) = sumN (fun r => cntB (fun k => !decide ((xAl x r k).1 = 0) && F r k) 12) r + cntB (fun k => !decide ((xAl x r k).1 = 0) && F r k) k := by
      intro k
      induction k with
      | zero => intro _; exact ih (by omega)
      | succ k ihk =>
        intro hk
        have h1 := ihk (by omega)
        by_cases e : (xAl x r k).1 = 0
        · rw [caL_z e, h1, cntB_f (by rw [decide_eq_true e]; rfl)]
        · have hat : isAt x (caN x 1 r + caL (xAl x r) 1 k) r k := ⟨by omega, by omega, e, rfl⟩
          have hlt : caN x 1 r + caL (xAl x r) 1 k < caX x 1 := by
            have a1 := caL_n (w r k (by omega) (by omega)) e
            have a2 : caL (xAl x r) 1 (k + 1) ≤ caL (xAl x r) 1 12 := caL_mono (by omega)
            have a3 : caN x 1 (r + 1) ≤ caN x 1 (xR x) := sumN_mono (by omega)
            have a4 : caN x 1 (r + 1) = caN x 1 r + caL (xAl x r) 1 12 := rfl
            have a5 : caX x 1 = caN x 1 (xR x) := rfl
            omega
          obtain ⟨e1, e2⟩ := (at_spec w hlt).unique hat w
          rw [caL_n (w r k (by omega) (by omega)) e, ← Nat.add_assoc, cntB, h1, cntB]
          have e3 : F (atRX x (caN x 1 r + caL (xAl x r) 1 k)) (atKX x (caN x 1 r + caL (xAl x r) 1 k)) = F r k := by rw [e1, e2]
          rw [e3, decide_eq_false e]
          show (if F r k = true then _ else _) = _ + (if (true && F r k) = true then _ else _)
          rw [Bool.true_and]
          split <;> omega
    exact key 12 (by omega)
theorem lq_ok {x : XD} (w : stOK x) : cntB (lqF x) (caX x 1) = clX x (-1) := by
  have h := cnt_at w (fun r k => decide (hrF x r k (-1) = 0)) (xR x) (Nat.le_refl _)
  refine Eq.trans h (sumN_eq _ (fun r _ => cntB_eq _ (fun k _ => ?_)))
  rw [cl1]
  by_cases e : hrF x r k (-1) = 0
  · rw [decide_eq_true e, hr_burn e]; rfl
  · rw [decide_eq_false e, Bool.and_false]
theorem bq_ok {x : XD} (w : stOK x) : cntB (bqF x) (caX x 1) = caX x 2 := by
  have h := cnt_at w (fun r k => decide ((xAl x r k).1 = 2)) (xR x) (Nat.le_refl _)
  refine Eq.trans h (sumN_eq _ (fun r hr => ?_))
  have key : ∀ n, n ≤ 12 → cntB (fun k => !decide ((xAl x r k).1 = 0) && decide ((xAl x r k).1 = 2)) n = caL (xAl x r) 2 n := by
    intro n
    induction n with
    | zero => intro _; rfl
    | succ n ih =>
      intro hn
      rw [cntB, caL, ih (by omega)]
      rcases w r n hr (by omega) with q | q | q <;> rw [q] <;> rfl
  exact key 12 (Nat.le_refl _)
