theorem rm_fun {f : Nat → Option Nat} {els : Nat → Nat} {n i : Nat} (hn : n ≤ 10) (hi : i < n) (hf : ∀ k, k < n → f k = some (els k)) : ∀ k, k < n - 1 → va_up (va_cpy f f (nI (i + 1)).toNatClampNeg (nI i).toNatClampNeg (nI (n - 1 - i)).toNatClampNeg) (nI (n - 1)).toNatClampNeg none k = some (if k < i then els k else els (k + 1)) := by
  intro k hk
  rw [nI_clamp (by omega), nI_clamp (by omega), nI_clamp (by omega), nI_clamp (by omega), va_up_ne _ _ (by omega), va_cpy]
  by_cases h : k < i
  · rw [if_neg (by omega), if_pos h, hf k (by omega)]
  · rw [if_pos (by omega), if_neg h, show i + 1 + (k - i) = k + 1 by omega, hf (k + 1) (by omega)]
theorem rm_fun2 {f : Nat → Option Nat} {els : Nat → Nat} {n i : Nat} (hn : n ≤ 10) (hi : i < n) (h2 : n - 1 ≤ i) (hf : ∀ k, k < n → f k = some (els k)) : ∀ k, k < n - 1 → va_up f (nI (n - 1)).toNatClampNeg none k = some (if k < i then els k else els (k + 1)) := by
  intro k hk
  rw [nI_clamp (by omega), va_up_ne _ _ (by omega), if_pos (by omega), hf k (by omega)]

abbrev rm_Jx4a65c_fastRemove_b59b0 : Room := { frames := 1, cells := 0, slots := 0, locals := 60 }
set_option maxHeartbeats 4000000 in
set_option maxRecDepth 100000 in
theorem c_Jx4a65c_fastRemove_b59b0 (l : Launch) (g : GV) (ad : AD) (M : CT) (t tq : TG) (hne : tq ≠ t) (mc : Int32) (q n i : Nat) (f : Nat → Option Nat) (els : Nat → Nat) (hn : n ≤ 10) (hi : i < n) (hf : ∀ k, k < n → f k = some (els k)) (hq1 : ad tq = q) (h1 : M t = some (liE mc q n)) (h2 : M tq = some (hm_ra g 3 10 f)) (ci : Nat) (C : String) (T : u_T) (N : Nat) (hc : vwCl[ci]? = some (C, T, N)) (hca : Cond.castable C "java/lang/Object" ∈ hm_nst) (hel : ∀ k, k < n → ∃ (t2 : TG) (fs : List Value), t2 ≠ t ∧ t2 ≠ tq ∧ M t2 = some (.inr (ci, fs)) ∧ ad t2 = els k) : hm_Met l yJx4a65c_fastRemove_b59b0 cJx4a65c_fastRemove_b59b0 4 none rm_Jx4a65c_fastRemove_b59b0 g ad M [.ref (ad t), .ref q, .int (nI i)] (fun v ad1 M1 => v = none ∧ ad1 = ad ∧ (∃ f2, M1 t = some (liE (mc + 1) q (n - 1)) ∧ M1 tq = some (hm_ra g 3 10 f2) ∧ ∀ k, k < n - 1 → f2 k = some (if k < i then els k else els (k + 1))) ∧ hm_fr ad M ad1 M1 (fun u => u = t ∨ u = tq)) := by
  refine hm_start (own := RJx4a65c) (by decide) rfl (Nat.le_of_ble_eq_true rfl) ?_
  intro p e s m args below meth c S hr hlk hnm hE hG ls hl
  have hl : lv_has ls 4 [(0, .ref (ad t)), (1, .ref q), (2, .int (nI i))] := hl
  have hfr : hm_fr ad M ad M (fun u => u = t ∨ u = tq) := hm_fr.rf
  refine lv_aload_n S.1 S.2.1 dJx4a65c_fastRemove_b59b0_0 rfl (lv_at hl 0 rfl) ?_
  refine lv_dup S.1 S.2.1 dJx4a65c_fastRemove_b59b0_1 rfl ?_
  refine hm_getI (k := 0) S hE hG h1 rfl rfl hi_Jx4a65c0 (by decide) hb_119 hb_120 rfl dJx4a65c_fastRemove_b59b0_2 ?_
  refine lv_iconst (v := 1) S.1 S.2.1 dJx4a65c_fastRemove_b59b0_5 (by decide) ?_
  refine lv_iadd S.1 S.2.1 dJx4a65c_fastRemove_b59b0_6 ?_
  refine hm_putI (k := 0) (fs' := [.int (mc + 1), .ref q, .int (nI n)]) S hE hG h1 rfl rfl hi_Jx4a65c0 tyJx4a65c_ok nmJx4a65c (by decide) hb_119 hb_120 rfl (by rfl) (by rfl) (Nat.le_of_ble_eq_true rfl) rfl dJx4a65c_fastRemove_b59b0_7 (fun H locs hG => ?_)
  obtain ⟨M_1, eM_1⟩ : ∃ q9, q9 = hm_up M t (.inr (0, [.int (mc + 1), .ref q, .int (nI n)])) := ⟨_, rfl⟩
  rw [← eM_1] at hG
  have h_2 : M_1 t = some (.inr (0, [.int (mc + 1), .ref q, .int (nI n)])) := by rw [eM_1]; exact hm_up_s
  have h_3 : M_1 tq = some (hm_ra g 3 10 f) := by rw [eM_1]; exact (hm_up_n (hne)).trans h2
  have hfr : hm_fr ad M ad M_1 (fun u => u = t ∨ u = tq) := by rw [eM_1]; exact hfr.up (by simp)
  refine lv_aload_n S.1 S.2.1 dJx4a65c_fastRemove_b59b0_10 rfl (lv_at hl 0 rfl) ?_
  refine hm_get (k := 2) S hE hG h_2 rfl rfl hi_Jx4a65c0 (by decide) hb_101 rfl rfl dJx4a65c_fastRemove_b59b0_11 ?_
  refine lv_iconst (v := 1) S.1 S.2.1 dJx4a65c_fastRemove_b59b0_14 (by decide) ?_
  refine lv_isub S.1 S.2.1 dJx4a65c_fastRemove_b59b0_15 ?_
  refine hm_top (z := nI (n - 1)) (pk_sub (b := 1) (by omega)) ?_
  refine lv_dup S.1 S.2.1 dJx4a65c_fastRemove_b59b0_16 rfl ?_
  refine lv_istore_n (lv' := [(3, .int (nI (n - 1))), (0, .ref (ad t)), (1, .ref q), (2, .int (nI i))]) S.1 S.2.1 dJx4a65c_fastRemove_b59b0_17 rfl hl (by decide) rfl (fun ls hl => ?_)
  refine lv_iload_n S.1 S.2.1 dJx4a65c_fastRemove_b59b0_18 rfl (lv_at hl 3 rfl) ?_
  refine lv_icmp_le (tgt := 34) S.1 S.2.1 dJx4a65c_fastRemove_b59b0_19 (by decide) (fun c19 => ?_) (fun c19 => ?_)
  · skip
    have e19 : n - 1 ≤ i := hm_leI (by omega) (by omega) c19
    refine lv_aload_n S.1 S.2.1 dJx4a65c_fastRemove_b59b0_34 rfl (lv_at hl 2 rfl) ?_
    refine lv_aload_n S.1 S.2.1 dJx4a65c_fastRemove_b59b0_35 rfl (lv_at hl 1 rfl) ?_
    refine lv_iload_n S.1 S.2.1 dJx4a65c_fastRemove_b59b0_36 rfl (lv_at hl 0 rfl) ?_
    refine lv_dup_x1 S.1 S.2.1 dJx4a65c_fastRemove_b59b0_37 rfl rfl ?_
    refine hm_put (k := 2) (fs' := [.int (mc + 1), .ref q, .int (nI (n - 1))]) S hE hG h_2 rfl rfl hi_Jx4a65c0 tyJx4a65c_ok nmJx4a65c (by decide) hb_101 rfl rfl (by rfl) (by rfl) (Nat.le_of_ble_eq_true rfl) rfl dJx4a65c_fastRemove_b59b0_38 (fun H locs hG => ?_)
    obtain ⟨M_4, eM_4⟩ : ∃ q9, q9 = hm_up M_1 t (.inr (0, [.int (mc + 1), .ref q, .int (nI (n - 1))])) := ⟨_, rfl⟩
    rw [← eM_4] at hG
    have h_5 : M_4 t = some (.inr (0, [.int (mc + 1), .ref q, .int (nI (n - 1))])) := by rw [eM_4]; exact hm_up_s
    have h_6 : M_4 tq = some (hm_ra g 3 10 f) := by rw [eM_4]; exact (hm_up_n (hne)).trans h_3
    have hfr : hm_fr ad M ad M_4 (fun u => u = t ∨ u = tq) := by rw [eM_4]; exact hfr.up (by simp)
    refine lv_null S.1 S.2.1 dJx4a65c_fastRemove_b59b0_41 ?_
    refine hm_astN S hE hG h_6 hq1 rfl (vp_in_nI (n := n - 1) (by omega) (by decide)) dJx4a65c_fastRemove_b59b0_42 (fun H locs hG => ?_)
    obtain ⟨M_7, eM_7⟩ : ∃ q9, q9 = hm_up M_4 tq (hm_ra g 3 10 (va_up f (nI (n - 1)).toNatClampNeg none)) := ⟨_, rfl⟩
    rw [← eM_7] at hG
    have h_8 : M_7 t = some (.inr (0, [.int (mc + 1), .ref q, .int (nI (n - 1))])) := by rw [eM_7]; exact (hm_up_n (hne.symm)).trans h_5
    have h_9 : M_7 tq = some (hm_ra g 3 10 (va_up f (nI (n - 1)).toNatClampNeg none)) := by rw [eM_7]; exact hm_up_s
    have hfr : hm_fr ad M ad M_7 (fun u => u = t ∨ u = tq) := by rw [eM_7]; exact hfr.up (by simp)
    exact hm_vret S hG hr hlk (⟨rfl, rfl, ⟨_, h_8, h_9, rm_fun2 hn hi e19 hf⟩, hfr⟩) (Nat.le_of_ble_eq_true rfl) (Nat.le_of_ble_eq_true rfl) dJx4a65c_fastRemove_b59b0_43
  · skip
    have e19 : i < n - 1 := hm_nleI (by omega) (by omega) c19
    refine lv_aload_n S.1 S.2.1 dJx4a65c_fastRemove_b59b0_22 rfl (lv_at hl 2 rfl) ?_
    refine lv_iload_n S.1 S.2.1 dJx4a65c_fastRemove_b59b0_23 rfl (lv_at hl 3 rfl) ?_
    refine lv_iconst (v := 1) S.1 S.2.1 dJx4a65c_fastRemove_b59b0_24 (by decide) ?_
    refine lv_iadd S.1 S.2.1 dJx4a65c_fastRemove_b59b0_25 ?_
    refine hm_top (z := nI (i + 1)) (nI_1 i) ?_
    refine lv_aload_n S.1 S.2.1 dJx4a65c_fastRemove_b59b0_26 rfl (lv_at hl 2 rfl) ?_
    refine lv_iload_n S.1 S.2.1 dJx4a65c_fastRemove_b59b0_27 rfl (lv_at hl 3 rfl) ?_
    refine lv_iload_n S.1 S.2.1 dJx4a65c_fastRemove_b59b0_28 rfl (lv_at hl 0 rfl) ?_
    refine lv_iload_n S.1 S.2.1 dJx4a65c_fastRemove_b59b0_29 rfl (lv_at hl 3 rfl) ?_
    refine lv_isub S.1 S.2.1 dJx4a65c_fastRemove_b59b0_30 ?_
    refine hm_top (z := nI (n - 1 - i)) (pk_sub (by omega)) ?_
    have hel9 : ∀ j : Nat, j < (nI (n - 1 - i)).toNatClampNeg → ∀ y : Nat, f ((nI (i + 1)).toNatClampNeg + j) = some y → ∃ (t2 : TG) (fs : List Value), M_1 t2 = some (.inr (ci, fs)) ∧ ad t2 = y := by
      intro j hj y hy
      rw [nI_clamp (by omega)] at hj
      rw [nI_clamp (by omega), hf _ (by omega)] at hy
      cases hy
      obtain ⟨t2, fs, p1, p2, p3, p4⟩ := hel _ (show i + 1 + j < n by omega)
      exact ⟨t2, fs, (hfr t2 (fun q => q.elim p1 p2)).2.trans p3, p4⟩
    refine hm_copyq S hE hG hb_604 hb_161 hb_162 hb_163 hl.1 h_3 hq1 (nI_nlt (b := 0) (Nat.zero_le _) (by omega)) (nI_nlt (b := 0) (Nat.zero_le _) (by omega)) (nI_nlt (b := 0) (Nat.zero_le _) (by omega)) (by rw [nI_clamp (by omega), nI_clamp (by omega)]; omega) (by rw [nI_clamp (by omega), nI_clamp (by omega)]; omega) hc hca hel9 (Nat.le_of_ble_eq_true rfl) (by decide +kernel) dJx4a65c_fastRemove_b59b0_31 (fun H locs hG => ?_)
    obtain ⟨M_10, eM_10⟩ : ∃ q9, q9 = hm_up M_1 tq (hm_ra g 3 10 (va_cpy f f (nI (i + 1)).toNatClampNeg (nI i).toNatClampNeg (nI (n - 1 - i)).toNatClampNeg)) := ⟨_, rfl⟩
    rw [← eM_10] at hG
    have h_11 : M_10 t = some (.inr (0, [.int (mc + 1), .ref q, .int (nI n)])) := by rw [eM_10]; exact (hm_up_n (hne.symm)).trans h_2
    have h_12 : M_10 tq = some (hm_ra g 3 10 (va_cpy f f (nI (i + 1)).toNatClampNeg (nI i).toNatClampNeg (nI (n - 1 - i)).toNatClampNeg)) := by rw [eM_10]; exact hm_up_s
    have hfr : hm_fr ad M ad M_10 (fun u => u = t ∨ u = tq) := by rw [eM_10]; exact hfr.up (by simp)
    refine lv_aload_n S.1 S.2.1 dJx4a65c_fastRemove_b59b0_34 rfl (lv_at hl 2 rfl) ?_
    refine lv_aload_n S.1 S.2.1 dJx4a65c_fastRemove_b59b0_35 rfl (lv_at hl 1 rfl) ?_
    refine lv_iload_n S.1 S.2.1 dJx4a65c_fastRemove_b59b0_36 rfl (lv_at hl 0 rfl) ?_
    refine lv_dup_x1 S.1 S.2.1 dJx4a65c_fastRemove_b59b0_37 rfl rfl ?_
    refine hm_put (k := 2) (fs' := [.int (mc + 1), .ref q, .int (nI (n - 1))]) S hE hG h_11 rfl rfl hi_Jx4a65c0 tyJx4a65c_ok nmJx4a65c (by decide) hb_101 rfl rfl (by rfl) (by rfl) (Nat.le_of_ble_eq_true rfl) rfl dJx4a65c_fastRemove_b59b0_38 (fun H locs hG => ?_)
    obtain ⟨M_13, eM_13⟩ : ∃ q9, q9 = hm_up M_10 t (.inr (0, [.int (mc + 1), .ref q, .int (nI (n - 1))])) := ⟨_, rfl⟩
    rw [← eM_13] at hG
    have h_14 : M_13 t = some (.inr (0, [.int (mc + 1), .ref q, .int (nI (n - 1))])) := by rw [eM_13]; exact hm_up_s
    have h_15 : M_13 tq = some (hm_ra g 3 10 (va_cpy f f (nI (i + 1)).toNatClampNeg (nI i).toNatClampNeg (nI (n - 1 - i)).toNatClampNeg)) := by rw [eM_13]; exact (hm_up_n (hne)).trans h_12
    have hfr : hm_fr ad M ad M_13 (fun u => u = t ∨ u = tq) := by rw [eM_13]; exact hfr.up (by simp)
    refine lv_null S.1 S.2.1 dJx4a65c_fastRemove_b59b0_41 ?_
    refine hm_astN S hE hG h_15 hq1 rfl (vp_in_nI (n := n - 1) (by omega) (by decide)) dJx4a65c_fastRemove_b59b0_42 (fun H locs hG => ?_)
    obtain ⟨M_16, eM_16⟩ : ∃ q9, q9 = hm_up M_13 tq (hm_ra g 3 10 (va_up (va_cpy f f (nI (i + 1)).toNatClampNeg (nI i).toNatClampNeg (nI (n - 1 - i)).toNatClampNeg) (nI (n - 1)).toNatClampNeg none)) := ⟨_, rfl⟩
    rw [← eM_16] at hG
    have h_17 : M_16 t = some (.inr (0, [.int (mc + 1), .ref q, .int (nI (n - 1))])) := by rw [eM_16]; exact (hm_up_n (hne.symm)).trans h_14
    have h_18 : M_16 tq = some (hm_ra g 3 10 (va_up (va_cpy f f (nI (i + 1)).toNatClampNeg (nI i).toNatClampNeg (nI (n - 1 - i)).toNatClampNeg) (nI (n - 1)).toNatClampNeg none)) := by rw [eM_16]; exact hm_up_s
    have hfr : hm_fr ad M ad M_16 (fun u => u = t ∨ u = tq) := by rw [eM_16]; exact hfr.up (by simp)
    exact hm_vret S hG hr hlk (⟨rfl, rfl, ⟨_, h_17, h_18, rm_fun hn hi hf⟩, hfr⟩) (Nat.le_of_ble_eq_true rfl) (Nat.le_of_ble_eq_true rfl) dJx4a65c_fastRemove_b59b0_43

abbrev rm_Jx4a65c_remove_915e3 : Room := { frames := 2, cells := 0, slots := 0, locals := 83 }
set_option maxHeartbeats 4000000 in
set_option maxRecDepth 100000 in
theorem c_Jx4a65c_remove_915e3 (l : Launch) (g : GV) (ad : AD) (M : CT) (t tq : TG) (hne : tq ≠ t) (mc : Int32) (q n i : Nat) (f : Nat → Option Nat) (els : Nat → Nat) (hn : n ≤ 10) (hi : i < n) (hf : ∀ k, k < n → f k = some (els k)) (hq1 : ad tq = q) (h1 : M t = some (liE mc q n)) (h2 : M tq = some (hm_ra g 3 10 f)) (ci : Nat) (C : String) (T : u_T) (N : Nat) (hc : vwCl[ci]? = some (C, T, N)) (hca : Cond.castable C "java/lang/Object" ∈ hm_nst) (hel : ∀ k, k < n → ∃ (t2 : TG) (fs : List Value), t2 ≠ t ∧ t2 ≠ tq ∧ M t2 = some (.inr (ci, fs)) ∧ ad t2 = els k) : hm_Met l yJx4a65c_remove_915e3 cJx4a65c_remove_915e3 4 (some (.object "java/lang/Object")) rm_Jx4a65c_remove_915e3 g ad M [.ref (ad t), .int (nI i)] (fun v ad1 M1 => v = some (.ref (els i)) ∧ ad1 = ad ∧ (∃ f2, M1 t = some (liE (mc + 1) q (n - 1)) ∧ M1 tq = some (hm_ra g 3 10 f2) ∧ ∀ k, k < n - 1 → f2 k = some (if k < i then els k else els (k + 1))) ∧ hm_fr ad M ad1 M1 (fun u => u = t ∨ u = tq)) := by
  refine hm_start (own := RJx4a65c) (by decide) rfl (Nat.le_of_ble_eq_true rfl) ?_
  intro p e s m args below meth c S hr hlk hnm hE hG ls hl
  have hl : lv_has ls 4 [(0, .ref (ad t)), (1, .int (nI i))] := hl
  refine lv_iload_n S.1 S.2.1 dJx4a65c_remove_915e3_0 rfl (lv_at hl 1 rfl) ?_
  refine lv_aload_n S.1 S.2.1 dJx4a65c_remove_915e3_1 rfl (lv_at hl 0 rfl) ?_
  refine hm_get (k := 2) S hE hG h1 rfl rfl hi_Jx4a65c0 (by decide) hb_101 rfl rfl dJx4a65c_remove_915e3_2 ?_
  refine hm_uS (As := [.int (nI i), .int (nI n)]) (rest := []) (st1 := [.int (nI i)]) S hE hG (c_J15_checkIndex_7cf53 l g ad M i n hi (by omega)) (hm_gS hb_212 hb_213 hb_214 hb_215) hd_J15_checkIndex_7cf53 ⟨Nat.le_of_ble_eq_true rfl, Nat.le_of_ble_eq_true rfl⟩ rfl hl.1 rfl (Nat.le_of_ble_eq_true rfl) dJx4a65c_remove_915e3_5 ⟨Nat.le_of_ble_eq_true rfl, Nat.le_of_ble_eq_true rfl⟩ rfl (fun H locs hG => ?_)
  refine lv_pop S.1 S.2.1 dJx4a65c_remove_915e3_8 rfl ?_
  refine lv_aload_n S.1 S.2.1 dJx4a65c_remove_915e3_9 rfl (lv_at hl 0 rfl) ?_
  refine hm_get (k := 1) S hE hG h1 rfl rfl hi_Jx4a65c0 (by decide) hb_38 rfl rfl dJx4a65c_remove_915e3_10 ?_
  refine lv_astore_n (lv' := [(2, .ref q), (0, .ref (ad t)), (1, .int (nI i))]) S.1 S.2.1 dJx4a65c_remove_915e3_13 rfl hl (by decide) rfl (fun ls hl => ?_)
  refine lv_aload_n S.1 S.2.1 dJx4a65c_remove_915e3_14 rfl (lv_at hl 0 rfl) ?_
  refine lv_iload_n S.1 S.2.1 dJx4a65c_remove_915e3_15 rfl (lv_at hl 2 rfl) ?_
  refine hm_aldq (q := els i) S hE hG h2 hq1 rfl (vp_in_nI (n := i) (by omega) (by decide)) (by rw [nI_clamp (by omega)]; exact hf i hi) dJx4a65c_remove_915e3_16 ?_
  refine lv_astore_n (lv' := [(3, .ref (els i)), (2, .ref q), (0, .ref (ad t)), (1, .int (nI i))]) S.1 S.2.1 dJx4a65c_remove_915e3_17 rfl hl (by decide) rfl (fun ls hl => ?_)
  refine lv_aload_n S.1 S.2.1 dJx4a65c_remove_915e3_18 rfl (lv_at hl 2 rfl) ?_
  refine lv_aload_n S.1 S.2.1 dJx4a65c_remove_915e3_19 rfl (lv_at hl 1 rfl) ?_
  refine lv_iload_n S.1 S.2.1 dJx4a65c_remove_915e3_20 rfl (lv_at hl 3 rfl) ?_
  refine hm_callV (As := [.ref q, .int (nI i)]) (rest := []) S hE hG (c_Jx4a65c_fastRemove_b59b0 l g ad M t tq hne mc q n i f els hn hi hf hq1 h1 h2 ci C T N hc hca hel) (hm_gV hb_600 hb_601 hb_602 hb_15 hb_603) ⟨rfl, hd_Jx4a65c_fastRemove_b59b0⟩ h1 rfl rfl ⟨Nat.le_of_ble_eq_true rfl, Nat.le_of_ble_eq_true rfl⟩ rfl hl.1 rfl (Nat.le_of_ble_eq_true rfl) dJx4a65c_remove_915e3_21 ⟨Nat.le_of_ble_eq_true rfl, Nat.le_of_ble_eq_true rfl⟩ (fun v9 ad_2 M_1 H locs hp9 hG => ?_)
  obtain ⟨rfl, hadq, hp1, hf9⟩ := hp9
  have hadq := hadq.symm
  subst hadq
  refine hm_st (st' := []) rfl ?_
  refine lv_aload_n S.1 S.2.1 dJx4a65c_remove_915e3_24 rfl (lv_at hl 0 rfl) ?_
  exact hm_aret S hG hr (Or.inl ⟨_, rfl⟩) hlk (⟨rfl, rfl, hp1, hf9⟩) (Nat.le_of_ble_eq_true rfl) (Nat.le_of_ble_eq_true rfl) dJx4a65c_remove_915e3_25

theorem c_remove (l : Launch) {g : GV} {ad : AD} {M : CT} {t tq : TG} {n : Nat} {els : Nat → Nat} (h : hasLi g ad M t tq n els) (hne : tq ≠ t) (i : Nat) (hi : i < n) (ci : Nat) (C : String) (T : u_T) (N : Nat) (hc : vwCl[ci]? = some (C, T, N)) (hca : Cond.castable C "java/lang/Object" ∈ hm_nst) (hel : ∀ k, k < n → ∃ (t2 : TG) (fs : List Value), t2 ≠ t ∧ t2 ≠ tq ∧ M t2 = some (.inr (ci, fs)) ∧ ad t2 = els k) : hm_Met l yJx4a65c_remove_915e3 cJx4a65c_remove_915e3 4 (some (.object "java/lang/Object")) rm_Jx4a65c_remove_915e3 g ad M [.ref (ad t), .int (nI i)] (fun v ad1 M1 => v = some (.ref (els i)) ∧ ad1 = ad ∧ hasLi g ad M1 t tq (n - 1) (fun k => if k < i then els k else els (k + 1)) ∧ hm_fr ad M ad M1 (fun u => u = t ∨ u = tq)) := by
  obtain ⟨mc, q, f, h1, h2, h3⟩ := h
  obtain ⟨h4, h5, h6⟩ := h2.resolve_left (fun h => by omega)
  refine hm_Met.post (c_Jx4a65c_remove_915e3 l g ad M t tq hne mc q n i f els h3 hi h6 h4 h1 h5 ci C T N hc hca hel) (fun v a m hp => ?_)
  obtain ⟨p1, rfl, ⟨f2, p2, p3, p4⟩, p5⟩ := hp
  exact ⟨p1, rfl, ⟨_, q, f2, p2, Or.inr ⟨h4, p3, p4⟩, by omega⟩, p5⟩

abbrev rm_X6_dropHushesOf : Room := { frames := 3, cells := 0, slots := 0, locals := 106 }
set_option maxHeartbeats 4000000 in
set_option maxRecDepth 100000 in
theorem c_X6_dropHushesOf (l : Launch) (g : GV) (ad : AD) (M : CT) (x : XD) (v0 : Int32) (hX : M (0, 0, 0) = some (xE ad x)) (hn5 : xH x ≤ 5) (hLh : hasLi g ad M (3, 0, 0) (6, 0, 0) (xH x) (fun h => ad (30, h, 0))) (hHu : ∀ h, h < xH x → M (30, h, 0) = some (huE (xHu x h))) : hm_Met l yX6_dropHushesOf cX6_dropHushesOf 3 none rm_X6_dropHushesOf g ad M [.ref (ad (0, 0, 0)), .int v0] (fun v _ _ => v = none) := by
  refine hm_start (own := RX6) (by decide) rfl (Nat.le_of_ble_eq_true rfl) ?_
  intro p e s m args below meth c S hr hlk hnm hE hG ls hl
  have hl : lv_has ls 3 [(0, .ref (ad (0, 0, 0))), (1, .int v0)] := hl
  obtain ⟨fs3, hb3⟩ := hLh.ob
  refine lv_aload_n S.1 S.2.1 dX6_dropHushesOf_0 rfl (lv_at hl 0 rfl) ?_
  refine hm_get (k := 2) S hE hG hX rfl rfl hi_X60 (by decide) hb_18 rfl rfl dX6_dropHushesOf_1 ?_
  refine hm_uV (As := []) (rest := []) (st1 := [.int (nI (xH x))]) S hE hG (c_size l hLh) (hm_gV hb_97 hb_98 hb_99 hb_15 hb_100) hd_Jx4a65c_size_8abf5 rfl hb3 rfl rfl ⟨Nat.le_of_ble_eq_true rfl, Nat.le_of_ble_eq_true rfl⟩ rfl hl.1 rfl (Nat.le_of_ble_eq_true rfl) dX6_dropHushesOf_4 ⟨Nat.le_of_ble_eq_true rfl, Nat.le_of_ble_eq_true rfl⟩ rfl (fun H locs hG => ?_)
  refine lv_iconst (v := 1) S.1 S.2.1 dX6_dropHushesOf_7 (by decide) ?_
  refine lv_isub S.1 S.2.1 dX6_dropHushesOf_8 ?_
  refine lv_istore_n (lv' := [(2, .int ((nI (xH x)) - 1)), (0, .ref (ad (0, 0, 0))), (1, .int v0)]) S.1 S.2.1 dX6_dropHushesOf_9 rfl hl (by decide) rfl (fun ls hl => ?_)
  have L10_0 : ∀ (n : Nat) (Mk : CT) (m9 : Nat) (els : Nat → Nat), Mk (0, 0, 0) = some (xE ad x) → hasLi g ad Mk (3, 0, 0) (6, 0, 0) m9 els → (∀ k, k < m9 → ∃ (t2 : TG) (hu : HuD), t2.1 = 30 ∧ Mk t2 = some (huE hu) ∧ ad t2 = els k) → n ≤ m9 → m9 ≤ 5 → ∀ (H : Heap) (locs : List Loc) (ls : Array Slot), hm_G g ad Mk s.heap H locs → lv_has ls 3 [(0, .ref (ad (0, 0, 0))), (1, .int v0), (2, .int (nI n - 1))] → W p l e rm_X6_dropHushesOf s m args below meth c H locs 0 0 (MQ below (hm_Q g (fun v _ _ => v = none)) args s rm_X6_dropHushesOf.cells rm_X6_dropHushesOf.slots (hm_A g)) (F0 m 10 ls []) := by
    intro n
    induction n with
    | zero =>
      intro Mk m9 els hX hli hel hn9 hm10 H locs ls hG hl
      obtain ⟨fs3, hb3⟩ := hli.ob
      have hl : lv_has ls 3 [(0, .ref (ad (0, 0, 0))), (1, .int v0), (2, .int (-1))] := hl
      refine lv_iload_n S.1 S.2.1 dX6_dropHushesOf_10 rfl (lv_at hl 2 rfl) ?_
      refine lv_if_lt (tgt := 47) S.1 S.2.1 dX6_dropHushesOf_11 (by decide) (fun _ => ?_) (fun h9 => absurd (by decide) h9)
      exact hm_vret S hG hr hlk (rfl) (Nat.le_of_ble_eq_true rfl) (Nat.le_of_ble_eq_true rfl) dX6_dropHushesOf_47
    | succ n ih10 =>
      intro Mk m9 els hX hli hel hn9 hm10 H locs ls hG hl
      obtain ⟨fs3, hb3⟩ := hli.ob
      have e2 : nI (n + 1) - 1 = nI n := nI_pred n
      rw [e2] at hl
      obtain ⟨t2, hu, ht2, hM2, ha2⟩ := hel n (by omega)
      refine lv_iload_n S.1 S.2.1 dX6_dropHushesOf_10 rfl (lv_at hl 2 rfl) ?_
      refine lv_if_lt (tgt := 47) S.1 S.2.1 dX6_dropHushesOf_11 (by decide) (fun h9 => absurd h9 (nI_nlt (b := 0) (Nat.zero_le _) (by omega))) (fun _ => ?_)
      refine lv_aload_n S.1 S.2.1 dX6_dropHushesOf_14 rfl (lv_at hl 0 rfl) ?_
      refine hm_get (k := 2) S hE hG hX rfl rfl hi_X60 (by decide) hb_18 rfl rfl dX6_dropHushesOf_15 ?_
      refine lv_iload_n S.1 S.2.1 dX6_dropHushesOf_18 rfl (lv_at hl 2 rfl) ?_
      refine hm_uV (As := [.int (nI n)]) (rest := []) (st1 := [.ref (els n)]) S hE hG (c_get l hli n (by omega)) (hm_gV hb_208 hb_209 hb_210 hb_15 hb_211) hd_Jx4a65c_get_915e3 rfl hb3 rfl rfl ⟨Nat.le_of_ble_eq_true rfl, Nat.le_of_ble_eq_true rfl⟩ rfl hl.1 rfl (Nat.le_of_ble_eq_true rfl) dX6_dropHushesOf_19 ⟨Nat.le_of_ble_eq_true rfl, Nat.le_of_ble_eq_true rfl⟩ rfl (fun H locs hG => ?_)
      refine hm_cast S hE hG hM2 ha2 rfl hb_320 dX6_dropHushesOf_22 ?_
      refine hm_get (k := 0) S hE hG hM2 ha2 rfl hi_X20 (by decide) hb_550 rfl rfl dX6_dropHushesOf_25 ?_
      refine lv_iload_n S.1 S.2.1 dX6_dropHushesOf_28 rfl (lv_at hl 1 rfl) ?_
      refine lv_icmp_ne (tgt := 41) S.1 S.2.1 dX6_dropHushesOf_29 (by decide) (fun c29 => ?_) (fun c29 => ?_)
      · skip
        refine lv_iinc (v := nI n - 1) (lv' := [(2, .int (nI n - 1)), (0, .ref (ad (0, 0, 0))), (1, .int v0)]) S.1 S.2.1 dX6_dropHushesOf_41 hl (k := 2) rfl (by rw [show Int32.ofInt (-1) = -1 by decide]; exact (Int32.sub_eq_add_neg (a := nI n) (b := 1)).symm) (by decide) rfl (fun ls hl => ?_)
        refine lv_goto (tgt := 10) S.1 S.2.1 dX6_dropHushesOf_44 (by decide) ?_
        exact ih10 _ _ _ hX hli hel (by omega) hm10 _ _ _ hG (lv_sub hl [1, 2, 0] rfl)
      · skip
        refine lv_aload_n S.1 S.2.1 dX6_dropHushesOf_32 rfl (lv_at hl 0 rfl) ?_
        refine hm_get (k := 2) S hE hG hX rfl rfl hi_X60 (by decide) hb_18 rfl rfl dX6_dropHushesOf_33 ?_
        refine lv_iload_n S.1 S.2.1 dX6_dropHushesOf_36 rfl (lv_at hl 2 rfl) ?_
        refine hm_callV (As := [.int (nI n)]) (rest := []) S hE hG (c_remove l hli (by simp) n (by omega) 3 _ _ _ rfl (List.mem_of_getElem? (i := 10) rfl) (fun k hk => by obtain ⟨t2, hu, p1, p2, p3⟩ := hel k hk; exact ⟨t2, _, by intro h; rw [h] at p1; simp at p1, by intro h; rw [h] at p1; simp at p1, p2, p3⟩)) (hm_gV hb_596 hb_597 hb_598 hb_15 hb_599) ⟨rfl, hd_Jx4a65c_remove_915e3⟩ hb3 rfl rfl ⟨Nat.le_of_ble_eq_true rfl, Nat.le_of_ble_eq_true rfl⟩ rfl hl.1 rfl (Nat.le_of_ble_eq_true rfl) dX6_dropHushesOf_37 ⟨Nat.le_of_ble_eq_true rfl, Nat.le_of_ble_eq_true rfl⟩ (fun v9 ad_3 M_2 H locs hp9 hG => ?_)
        obtain ⟨rfl, hadq, hli9, hf9⟩ := hp9
        have hadq := hadq.symm
        subst hadq
        refine hm_st (st' := [.ref (els n)]) rfl ?_
        have hX : M_2 (0, 0, 0) = some (xE ad x) := (hf9 _ (by simp)).2.trans hX
        have hel : ∀ k, k < m9 - 1 → ∃ (t2 : TG) (hu : HuD), t2.1 = 30 ∧ M_2 t2 = some (huE hu) ∧ ad t2 = (fun k => if k < n then els k else els (k + 1)) k := by
          intro k hk
          by_cases h : k < n
          · obtain ⟨t2, hu, p1, p2, p3⟩ := hel k (by omega)
            exact ⟨t2, hu, p1, (hf9 t2 (by obtain ⟨u1, u2, u3⟩ := t2; simp only [Prod.mk.injEq] at p1 ⊢; omega)).2.trans p2, by simp [h, p3]⟩
          · obtain ⟨t2, hu, p1, p2, p3⟩ := hel (k + 1) (by omega)
            exact ⟨t2, hu, p1, (hf9 t2 (by obtain ⟨u1, u2, u3⟩ := t2; simp only [Prod.mk.injEq] at p1 ⊢; omega)).2.trans p2, by simp [h, p3]⟩
        have hli := hli9
        refine lv_pop S.1 S.2.1 dX6_dropHushesOf_40 rfl ?_
        refine lv_iinc (v := nI n - 1) (lv' := [(2, .int (nI n - 1)), (0, .ref (ad (0, 0, 0))), (1, .int v0)]) S.1 S.2.1 dX6_dropHushesOf_41 hl (k := 2) rfl (by rw [show Int32.ofInt (-1) = -1 by decide]; exact (Int32.sub_eq_add_neg (a := nI n) (b := 1)).symm) (by decide) rfl (fun ls hl => ?_)
        refine lv_goto (tgt := 10) S.1 S.2.1 dX6_dropHushesOf_44 (by decide) ?_
        exact ih10 _ _ _ hX hli hel (by omega) (by omega) _ _ _ hG (lv_sub hl [1, 2, 0] rfl)
  exact L10_0 (xH x) M (xH x) _ hX hLh (fun k hk => ⟨(30, k, 0), _, rfl, hHu k hk, rfl⟩) (Nat.le_refl _) hn5 _ _ _ hG (lv_sub hl [1, 2, 0] rfl)

abbrev rm_X6_dropRule : Room := { frames := 4, cells := 0, slots := 0, locals := 128 }
set_option maxHeartbeats 4000000 in
set_option maxRecDepth 100000 in
theorem c_X6_dropRule (l : Launch) (g : GV) (ad : AD) (M : CT) (x : XD) (hx : hasX g ad M x) (hR1 : 1 ≤ xR x) : hm_Met l yX6_dropRule cX6_dropRule 2 (some .int) rm_X6_dropRule g ad M [.ref (ad (0, 0, 0))] (fun v _ _ => v = some (.int (nI (xR x - 1)))) := by
  refine hm_start (own := RX6) (by decide) rfl (Nat.le_of_ble_eq_true rfl) ?_
  intro p e s m args below meth c S hr hlk hnm hE hG ls hl
  have hl : lv_has ls 2 [(0, .ref (ad (0, 0, 0)))] := hl
  obtain ⟨hX, hLs, hLr, hLh, h7, hLg, h70, hSe, hRu, hHu, hGr, hS6, hR6, hH5⟩ := id hx
  obtain ⟨fs1, hb1⟩ := hLs.ob
  obtain ⟨fs2, hb2⟩ := hLr.ob
  obtain ⟨fs3, hb3⟩ := hLh.ob
  refine lv_aload_n S.1 S.2.1 dX6_dropRule_0 rfl (lv_at hl 0 rfl) ?_
  refine hm_get (k := 1) S hE hG hX rfl rfl hi_X60 (by decide) hb_17 rfl rfl dX6_dropRule_1 ?_
  refine hm_uV (As := []) (rest := []) (st1 := [.int (nI (xR x))]) S hE hG (c_size l hLr) (hm_gV hb_97 hb_98 hb_99 hb_15 hb_100) hd_Jx4a65c_size_8abf5 rfl hb2 rfl rfl ⟨Nat.le_of_ble_eq_true rfl, Nat.le_of_ble_eq_true rfl⟩ rfl hl.1 rfl (Nat.le_of_ble_eq_true rfl) dX6_dropRule_4 ⟨Nat.le_of_ble_eq_true rfl, Nat.le_of_ble_eq_true rfl⟩ rfl (fun H locs hG => ?_)
  refine lv_iconst (v := 1) S.1 S.2.1 dX6_dropRule_7 (by decide) ?_
  refine lv_isub S.1 S.2.1 dX6_dropRule_8 ?_
  refine hm_top (z := nI (xR x - 1)) (pk_sub (b := 1) hR1) ?_
  refine lv_istore_n (lv' := [(1, .int (nI (xR x - 1))), (0, .ref (ad (0, 0, 0)))]) S.1 S.2.1 dX6_dropRule_9 rfl hl (by decide) rfl (fun ls hl => ?_)
  refine lv_iload_n S.1 S.2.1 dX6_dropRule_10 rfl (lv_at hl 0 rfl) ?_
  refine lv_if_ge (tgt := 24) S.1 S.2.1 dX6_dropRule_11 (by decide) (fun _ => ?_) (fun h9 => absurd (nI_le (a := 0) (Nat.zero_le _) (by omega)) h9)
  refine lv_aload_n S.1 S.2.1 dX6_dropRule_24 rfl (lv_at hl 1 rfl) ?_
  refine hm_get (k := 1) S hE hG hX rfl rfl hi_X60 (by decide) hb_17 rfl rfl dX6_dropRule_25 ?_
  refine lv_iload_n S.1 S.2.1 dX6_dropRule_28 rfl (lv_at hl 0 rfl) ?_
  refine hm_callV (As := [.int (nI (xR x - 1))]) (rest := []) S hE hG (c_remove l hLr (by simp) (xR x - 1) (by omega) 5 _ _ _ rfl (List.mem_of_getElem? (i := 9) rfl) (fun k hk => ⟨(20, k, 0), _, by simp, by simp, (hRu k hk).1, rfl⟩)) (hm_gV hb_596 hb_597 hb_598 hb_15 hb_599) ⟨rfl, hd_Jx4a65c_remove_915e3⟩ hb2 rfl rfl ⟨Nat.le_of_ble_eq_true rfl, Nat.le_of_ble_eq_true rfl⟩ rfl hl.1 rfl (Nat.le_of_ble_eq_true rfl) dX6_dropRule_29 ⟨Nat.le_of_ble_eq_true rfl, Nat.le_of_ble_eq_true rfl⟩ (fun v9 ad_2 M_1 H locs hp9 hG => ?_)
  obtain ⟨rfl, hadq, hli9, hf9⟩ := hp9
  have hadq := hadq.symm
  subst hadq
  refine hm_st (st' := [.ref (ad (20, xR x - 1, 0))]) rfl ?_
  have hX9 : M_1 (0, 0, 0) = some (xE ad x) := (hf9 _ (by simp)).2.trans hX
  have hHu9 : ∀ h, h < xH x → M_1 (30, h, 0) = some (huE (xHu x h)) := fun h hh => (hf9 _ (by simp)).2.trans (hHu h hh)
  have hLh9 : hasLi g ad M_1 (3, 0, 0) (6, 0, 0) (xH x) (fun h => ad (30, h, 0)) := hLh.fr hf9 (by simp) (by simp) (fun _ _ => rfl)
  refine lv_pop S.1 S.2.1 dX6_dropRule_32 rfl ?_
  refine lv_aload_n S.1 S.2.1 dX6_dropRule_33 rfl (lv_at hl 1 rfl) ?_
  refine lv_iload_n S.1 S.2.1 dX6_dropRule_34 rfl (lv_at hl 0 rfl) ?_
  refine hm_callV (As := [.int (nI (xR x - 1))]) (rest := []) S hE hG (c_X6_dropHushesOf l g ad M_1 x (nI (xR x - 1)) hX9 hH5 hLh9 hHu9) (hm_gV hb_605 hb_606 hb_607 hb_2 hb_608) ⟨rfl, hd_X6_dropHushesOf⟩ hX9 rfl rfl ⟨Nat.le_of_ble_eq_true rfl, Nat.le_of_ble_eq_true rfl⟩ rfl hl.1 rfl (Nat.le_of_ble_eq_true rfl) dX6_dropRule_35 ⟨Nat.le_of_ble_eq_true rfl, Nat.le_of_ble_eq_true rfl⟩ (fun v9 ad_4 M_3 H locs hp9 hG => ?_)
  obtain rfl := hp9
  refine hm_st (st' := []) rfl ?_
  refine lv_iload_n S.1 S.2.1 dX6_dropRule_38 rfl (lv_at hl 0 rfl) ?_
  exact hm_iret S hG hr hlk (rfl) (Nat.le_of_ble_eq_true rfl) (Nat.le_of_ble_eq_true rfl) dX6_dropRule_39
