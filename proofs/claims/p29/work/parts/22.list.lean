abbrev rm_X4_init : Room := { frames := 2, cells := 13, slots := 48, locals := 32 }
set_option maxHeartbeats 4000000 in
set_option maxRecDepth 100000 in
theorem c_X4_init (l : Launch) (g : GV) (ad : AD) (M : CT) (r : Nat) (a : Nat) (v1 : Int32) (lo w wa : Nat) (hr6 : r < 6) (hlo : lo < 9) (hw : w ≤ 12) (hwa : wa < 3) (ha : ad (20, r, 0) = a) (h1 : M (20, r, 0) = some (.inr (5, [.int 0, .int 0, .int 0, .int 0, .int 0, .int 0, .int 0, .int 0, .int 0, .null]))) : hm_Met l yX4_init cX4_init 7 none rm_X4_init g ad M [.ref a, .int (nI r), .int v1, .int (nI lo), .int (nI w), .int (nI wa)] (fun v ad1 M1 => v = none ∧ hasRu g ad1 M1 r (v1, lo, w, wa, false, 0, 0, 0) (fun _ => (0, -1, 0)) ∧ ad1 (20, r, 0) = a ∧ hm_fr ad M ad1 M1 (fun u => (u.1 = 20 ∨ u.1 = 21 ∨ u.1 = 22) ∧ u.2.1 = r)) := by
  refine hm_start (own := RX4) (by decide) rfl (Nat.le_of_ble_eq_true rfl) ?_
  intro p e s m args below meth c S hr hlk hnm hE hG ls hl
  have hl : lv_has ls 7 [(0, .ref a), (1, .int (nI r)), (2, .int v1), (3, .int (nI lo)), (4, .int (nI w)), (5, .int (nI wa))] := hl
  have hfr : hm_fr ad M ad M (fun u => (u.1 = 20 ∨ u.1 = 21 ∨ u.1 = 22) ∧ u.2.1 = r) := hm_fr.rf
  refine lv_aload_n S.1 S.2.1 dX4_init_0 rfl (lv_at hl 0 rfl) ?_
  refine hm_obj S hb_185 hb_11 hb_12 hl.1 dX4_init_1 (Nat.le_of_ble_eq_true rfl) (Nat.le_of_ble_eq_true rfl) ?_
  refine lv_aload_n S.1 S.2.1 dX4_init_4 rfl (lv_at hl 0 rfl) ?_
  refine lv_iconst (v := 0) S.1 S.2.1 dX4_init_5 (by decide) ?_
  refine hm_put (k := 7) (fs' := [.int 0, .int 0, .int 0, .int 0, .int 0, .int 0, .int 0, .int 0, .int 0, .null]) S hE hG h1 ha rfl hi_X40 tyX4_ok nmX4 (by decide) hb_186 rfl rfl (by rfl) (by rfl) (Nat.le_of_ble_eq_true rfl) rfl dX4_init_6 (fun H locs hG => ?_)
  obtain ⟨M_1, eM_1⟩ : ∃ q9, q9 = hm_up M (20, r, 0) (.inr (5, [.int 0, .int 0, .int 0, .int 0, .int 0, .int 0, .int 0, .int 0, .int 0, .null])) := ⟨_, rfl⟩
  rw [← eM_1] at hG
  have h_2 : M_1 (20, r, 0) = some (.inr (5, [.int 0, .int 0, .int 0, .int 0, .int 0, .int 0, .int 0, .int 0, .int 0, .null])) := by rw [eM_1]; exact hm_up_s
  have hfr : hm_fr ad M ad M_1 (fun u => (u.1 = 20 ∨ u.1 = 21 ∨ u.1 = 22) ∧ u.2.1 = r) := by rw [eM_1]; exact hfr.up (by simp)
  refine lv_aload_n S.1 S.2.1 dX4_init_9 rfl (lv_at hl 0 rfl) ?_
  refine lv_iconst (v := 0) S.1 S.2.1 dX4_init_10 (by decide) ?_
  refine hm_put (k := 8) (fs' := [.int 0, .int 0, .int 0, .int 0, .int 0, .int 0, .int 0, .int 0, .int 0, .null]) S hE hG h_2 ha rfl hi_X40 tyX4_ok nmX4 (by decide) hb_187 rfl rfl (by rfl) (by rfl) (Nat.le_of_ble_eq_true rfl) rfl dX4_init_11 (fun H locs hG => ?_)
  obtain ⟨M_3, eM_3⟩ : ∃ q9, q9 = hm_up M_1 (20, r, 0) (.inr (5, [.int 0, .int 0, .int 0, .int 0, .int 0, .int 0, .int 0, .int 0, .int 0, .null])) := ⟨_, rfl⟩
  rw [← eM_3] at hG
  have h_4 : M_3 (20, r, 0) = some (.inr (5, [.int 0, .int 0, .int 0, .int 0, .int 0, .int 0, .int 0, .int 0, .int 0, .null])) := by rw [eM_3]; exact hm_up_s
  have hfr : hm_fr ad M ad M_3 (fun u => (u.1 = 20 ∨ u.1 = 21 ∨ u.1 = 22) ∧ u.2.1 = r) := by rw [eM_3]; exact hfr.up (by simp)
  refine lv_aload_n S.1 S.2.1 dX4_init_14 rfl (lv_at hl 0 rfl) ?_
  refine lv_bipush (v := 12) S.1 S.2.1 dX4_init_15 (by decide) ?_
  refine hm_newQ (k := 2) (N := 12) S hE hG (21, r, 0) rfl hb_188 hE.2.2.2.2.2.1 (by decide) (by decide) (by decide) (Nat.le_of_ble_eq_true rfl) (Nat.le_of_ble_eq_true rfl) dX4_init_17 (fun q_5 H hG => ?_)
  obtain ⟨ad_6, ead_6⟩ : ∃ q9, q9 = hm_au ad (21, r, 0) q_5 := ⟨_, rfl⟩
  obtain ⟨M_7, eM_7⟩ : ∃ q9, q9 = hm_up M_3 (21, r, 0) (hm_ra g 2 12 (fun _ => none)) := ⟨_, rfl⟩
  rw [← ead_6, ← eM_7] at hG
  have h_8 : M_7 (20, r, 0) = some (.inr (5, [.int 0, .int 0, .int 0, .int 0, .int 0, .int 0, .int 0, .int 0, .int 0, .null])) := by rw [eM_7]; exact (hm_up_n (by simp)).trans h_4
  have a_9 : ad_6 (20, r, 0) = a := by rw [ead_6]; exact (hm_au_n (by simp)).trans ha
  have h_10 : M_7 (21, r, 0) = some (hm_ra g 2 12 (fun _ => none)) := by rw [eM_7]; exact hm_up_s
  have a_11 : ad_6 (21, r, 0) = q_5 := by rw [ead_6]; exact hm_au_s
  have hfr : hm_fr ad M ad_6 M_7 (fun u => (u.1 = 20 ∨ u.1 = 21 ∨ u.1 = 22) ∧ u.2.1 = r) := by rw [ead_6, eM_7]; exact hfr.au (by simp)
  refine hm_putF (k := 9) (fs' := [.int 0, .int 0, .int 0, .int 0, .int 0, .int 0, .int 0, .int 0, .int 0, .ref q_5]) S hE hG (hnm) h_8 a_9 rfl hi_X40 tyX4_ok nmX4 (by decide) hb_189 rfl rfl rfl (by rfl) (by rfl) (Nat.le_of_ble_eq_true rfl) rfl dX4_init_20 (fun H locs hG => ?_)
  obtain ⟨M_13, eM_13⟩ : ∃ q9, q9 = hm_up M_7 (20, r, 0) (.inr (5, [.int 0, .int 0, .int 0, .int 0, .int 0, .int 0, .int 0, .int 0, .int 0, .ref q_5])) := ⟨_, rfl⟩
  rw [← eM_13] at hG
  have h_14 : M_13 (20, r, 0) = some (.inr (5, [.int 0, .int 0, .int 0, .int 0, .int 0, .int 0, .int 0, .int 0, .int 0, .ref q_5])) := by rw [eM_13]; exact hm_up_s
  have h_15 : M_13 (21, r, 0) = some (hm_ra g 2 12 (fun _ => none)) := by rw [eM_13]; exact (hm_up_n (by simp)).trans h_10
  have hfr : hm_fr ad M ad_6 M_13 (fun u => (u.1 = 20 ∨ u.1 = 21 ∨ u.1 = 22) ∧ u.2.1 = r) := by rw [eM_13]; exact hfr.up (by simp)
  refine lv_aload_n S.1 S.2.1 dX4_init_23 rfl (lv_at hl 0 rfl) ?_
  refine lv_iload_n S.1 S.2.1 dX4_init_24 rfl (lv_at hl 1 rfl) ?_
  refine hm_putF (k := 0) (fs' := [.int (nI r), .int 0, .int 0, .int 0, .int 0, .int 0, .int 0, .int 0, .int 0, .ref q_5]) S hE hG (hnm) h_14 a_9 rfl hi_X40 tyX4_ok nmX4 (by decide) hb_190 rfl rfl rfl (by rfl) (by rfl) (Nat.le_of_ble_eq_true rfl) rfl dX4_init_25 (fun H locs hG => ?_)
  obtain ⟨M_16, eM_16⟩ : ∃ q9, q9 = hm_up M_13 (20, r, 0) (.inr (5, [.int (nI r), .int 0, .int 0, .int 0, .int 0, .int 0, .int 0, .int 0, .int 0, .ref q_5])) := ⟨_, rfl⟩
  rw [← eM_16] at hG
  have h_17 : M_16 (20, r, 0) = some (.inr (5, [.int (nI r), .int 0, .int 0, .int 0, .int 0, .int 0, .int 0, .int 0, .int 0, .ref q_5])) := by rw [eM_16]; exact hm_up_s
  have h_18 : M_16 (21, r, 0) = some (hm_ra g 2 12 (fun _ => none)) := by rw [eM_16]; exact (hm_up_n (by simp)).trans h_15
  have hfr : hm_fr ad M ad_6 M_16 (fun u => (u.1 = 20 ∨ u.1 = 21 ∨ u.1 = 22) ∧ u.2.1 = r) := by rw [eM_16]; exact hfr.up (by simp)
  refine lv_aload_n S.1 S.2.1 dX4_init_28 rfl (lv_at hl 0 rfl) ?_
  refine lv_iload_n S.1 S.2.1 dX4_init_29 rfl (lv_at hl 2 rfl) ?_
  refine hm_putF (k := 1) (fs' := [.int (nI r), .int v1, .int 0, .int 0, .int 0, .int 0, .int 0, .int 0, .int 0, .ref q_5]) S hE hG (hnm) h_17 a_9 rfl hi_X40 tyX4_ok nmX4 (by decide) hb_191 rfl rfl rfl (by rfl) (by rfl) (Nat.le_of_ble_eq_true rfl) rfl dX4_init_30 (fun H locs hG => ?_)
  obtain ⟨M_19, eM_19⟩ : ∃ q9, q9 = hm_up M_16 (20, r, 0) (.inr (5, [.int (nI r), .int v1, .int 0, .int 0, .int 0, .int 0, .int 0, .int 0, .int 0, .ref q_5])) := ⟨_, rfl⟩
  rw [← eM_19] at hG
  have h_20 : M_19 (20, r, 0) = some (.inr (5, [.int (nI r), .int v1, .int 0, .int 0, .int 0, .int 0, .int 0, .int 0, .int 0, .ref q_5])) := by rw [eM_19]; exact hm_up_s
  have h_21 : M_19 (21, r, 0) = some (hm_ra g 2 12 (fun _ => none)) := by rw [eM_19]; exact (hm_up_n (by simp)).trans h_18
  have hfr : hm_fr ad M ad_6 M_19 (fun u => (u.1 = 20 ∨ u.1 = 21 ∨ u.1 = 22) ∧ u.2.1 = r) := by rw [eM_19]; exact hfr.up (by simp)
  refine lv_aload_n S.1 S.2.1 dX4_init_33 rfl (lv_at hl 0 rfl) ?_
  refine lv_iload_n S.1 S.2.1 dX4_init_34 rfl (lv_at hl 3 rfl) ?_
  refine hm_putF (k := 2) (fs' := [.int (nI r), .int v1, .int (nI lo), .int 0, .int 0, .int 0, .int 0, .int 0, .int 0, .ref q_5]) S hE hG (hnm) h_20 a_9 rfl hi_X40 tyX4_ok nmX4 (by decide) hb_192 rfl rfl rfl (by rfl) (by rfl) (Nat.le_of_ble_eq_true rfl) rfl dX4_init_35 (fun H locs hG => ?_)
  obtain ⟨M_22, eM_22⟩ : ∃ q9, q9 = hm_up M_19 (20, r, 0) (.inr (5, [.int (nI r), .int v1, .int (nI lo), .int 0, .int 0, .int 0, .int 0, .int 0, .int 0, .ref q_5])) := ⟨_, rfl⟩
  rw [← eM_22] at hG
  have h_23 : M_22 (20, r, 0) = some (.inr (5, [.int (nI r), .int v1, .int (nI lo), .int 0, .int 0, .int 0, .int 0, .int 0, .int 0, .ref q_5])) := by rw [eM_22]; exact hm_up_s
  have h_24 : M_22 (21, r, 0) = some (hm_ra g 2 12 (fun _ => none)) := by rw [eM_22]; exact (hm_up_n (by simp)).trans h_21
  have hfr : hm_fr ad M ad_6 M_22 (fun u => (u.1 = 20 ∨ u.1 = 21 ∨ u.1 = 22) ∧ u.2.1 = r) := by rw [eM_22]; exact hfr.up (by simp)
  refine lv_aload_n S.1 S.2.1 dX4_init_38 rfl (lv_at hl 0 rfl) ?_
  refine lv_iload S.1 S.2.1 dX4_init_39 (lv_at hl 4 rfl) ?_
  refine hm_putF (k := 3) (fs' := [.int (nI r), .int v1, .int (nI lo), .int (nI w), .int 0, .int 0, .int 0, .int 0, .int 0, .ref q_5]) S hE hG (hnm) h_23 a_9 rfl hi_X40 tyX4_ok nmX4 (by decide) hb_193 rfl rfl rfl (by rfl) (by rfl) (Nat.le_of_ble_eq_true rfl) rfl dX4_init_41 (fun H locs hG => ?_)
  obtain ⟨M_25, eM_25⟩ : ∃ q9, q9 = hm_up M_22 (20, r, 0) (.inr (5, [.int (nI r), .int v1, .int (nI lo), .int (nI w), .int 0, .int 0, .int 0, .int 0, .int 0, .ref q_5])) := ⟨_, rfl⟩
  rw [← eM_25] at hG
  have h_26 : M_25 (20, r, 0) = some (.inr (5, [.int (nI r), .int v1, .int (nI lo), .int (nI w), .int 0, .int 0, .int 0, .int 0, .int 0, .ref q_5])) := by rw [eM_25]; exact hm_up_s
  have h_27 : M_25 (21, r, 0) = some (hm_ra g 2 12 (fun _ => none)) := by rw [eM_25]; exact (hm_up_n (by simp)).trans h_24
  have hfr : hm_fr ad M ad_6 M_25 (fun u => (u.1 = 20 ∨ u.1 = 21 ∨ u.1 = 22) ∧ u.2.1 = r) := by rw [eM_25]; exact hfr.up (by simp)
  refine lv_aload_n S.1 S.2.1 dX4_init_44 rfl (lv_at hl 0 rfl) ?_
  refine lv_iload S.1 S.2.1 dX4_init_45 (lv_at hl 5 rfl) ?_
  refine hm_putF (k := 4) (fs' := [.int (nI r), .int v1, .int (nI lo), .int (nI w), .int (nI wa), .int 0, .int 0, .int 0, .int 0, .ref q_5]) S hE hG (hnm) h_26 a_9 rfl hi_X40 tyX4_ok nmX4 (by decide) hb_194 rfl rfl rfl (by rfl) (by rfl) (Nat.le_of_ble_eq_true rfl) rfl dX4_init_47 (fun H locs hG => ?_)
  obtain ⟨M_28, eM_28⟩ : ∃ q9, q9 = hm_up M_25 (20, r, 0) (.inr (5, [.int (nI r), .int v1, .int (nI lo), .int (nI w), .int (nI wa), .int 0, .int 0, .int 0, .int 0, .ref q_5])) := ⟨_, rfl⟩
  rw [← eM_28] at hG
  have h_29 : M_28 (20, r, 0) = some (.inr (5, [.int (nI r), .int v1, .int (nI lo), .int (nI w), .int (nI wa), .int 0, .int 0, .int 0, .int 0, .ref q_5])) := by rw [eM_28]; exact hm_up_s
  have h_30 : M_28 (21, r, 0) = some (hm_ra g 2 12 (fun _ => none)) := by rw [eM_28]; exact (hm_up_n (by simp)).trans h_27
  have hfr : hm_fr ad M ad_6 M_28 (fun u => (u.1 = 20 ∨ u.1 = 21 ∨ u.1 = 22) ∧ u.2.1 = r) := by rw [eM_28]; exact hfr.up (by simp)
  refine lv_iconst (v := 0) S.1 S.2.1 dX4_init_50 (by decide) ?_
  refine lv_istore (lv' := [(6, .int 0), (0, .ref a), (1, .int (nI r)), (2, .int v1), (3, .int (nI lo)), (4, .int (nI w)), (5, .int (nI wa))]) S.1 S.2.1 dX4_init_51 hl (by decide) rfl (fun ls hl => ?_)
  refine lv_iload S.1 S.2.1 dX4_init_53 (lv_at hl 0 rfl) ?_
  refine lv_bipush (v := 12) S.1 S.2.1 dX4_init_55 (by decide) ?_
  refine lv_icmp_ge (tgt := 80) S.1 S.2.1 dX4_init_57 (by decide) (fun h9 => absurd h9 (by decide)) (fun _ => ?_)
  refine lv_aload_n S.1 S.2.1 dX4_init_60 rfl (lv_at hl 1 rfl) ?_
  refine hm_get (k := 9) S hE hG h_29 a_9 rfl hi_X40 (by decide) hb_189 rfl rfl dX4_init_61 ?_
  refine lv_iload S.1 S.2.1 dX4_init_64 (lv_at hl 0 rfl) ?_
  refine hm_new (ci := 1) (fs := [.int 0, .int 0, .int 0]) S hE hG (22, r, 0) rfl hi_X00 tyX0_ok hb_188 hb_28 hb_29 (by decide) (Nat.le_of_ble_eq_true rfl) (Nat.le_of_ble_eq_true rfl) dX4_init_66 (fun q_31 H hG => ?_)
  obtain ⟨ad_32, ead_32⟩ : ∃ q9, q9 = hm_au ad_6 (22, r, 0) q_31 := ⟨_, rfl⟩
  obtain ⟨M_33, eM_33⟩ : ∃ q9, q9 = hm_up M_28 (22, r, 0) (.inr (1, [.int 0, .int 0, .int 0])) := ⟨_, rfl⟩
  rw [← ead_32, ← eM_33] at hG
  have h_34 : M_33 (20, r, 0) = some (.inr (5, [.int (nI r), .int v1, .int (nI lo), .int (nI w), .int (nI wa), .int 0, .int 0, .int 0, .int 0, .ref q_5])) := by rw [eM_33]; exact (hm_up_n (by simp)).trans h_29
  have a_35 : ad_32 (20, r, 0) = a := by rw [ead_32]; exact (hm_au_n (by simp)).trans a_9
  have h_36 : M_33 (21, r, 0) = some (hm_ra g 2 12 (fun _ => none)) := by rw [eM_33]; exact (hm_up_n (by simp)).trans h_30
  have a_37 : ad_32 (21, r, 0) = q_5 := by rw [ead_32]; exact (hm_au_n (by simp)).trans a_11
  have h_38 : M_33 (22, r, 0) = some (.inr (1, [.int 0, .int 0, .int 0])) := by rw [eM_33]; exact hm_up_s
  have a_39 : ad_32 (22, r, 0) = q_31 := by rw [ead_32]; exact hm_au_s
  have hfr : hm_fr ad M ad_32 M_33 (fun u => (u.1 = 20 ∨ u.1 = 21 ∨ u.1 = 22) ∧ u.2.1 = r) := by rw [ead_32, eM_33]; exact hfr.au (by simp)
  refine lv_dup S.1 S.2.1 dX4_init_69 rfl ?_
  refine hm_uIN (As := []) (rest := [.ref q_31, .int 0, .ref q_5]) (st1 := [.ref q_31, .int 0, .ref q_5]) S hE hG (c_X0_init l g ad_32 M_33 (22, r, 0) q_31 a_39 h_38) hb_66 hb_29 (List.mem_of_getElem? (i := 4) rfl) hb_65 rfl hd_X0_init ⟨Nat.le_of_ble_eq_true rfl, Nat.le_of_ble_eq_true rfl⟩ rfl hl.1 rfl (Nat.le_of_ble_eq_true rfl) dX4_init_70 ⟨Nat.le_of_ble_eq_true rfl, Nat.le_of_ble_eq_true rfl⟩ rfl (fun H locs hG => ?_)
  obtain ⟨M_41, eM_41⟩ : ∃ q9, q9 = hm_up M_33 (22, r, 0) (alE (0, -1, 0)) := ⟨_, rfl⟩
  rw [← eM_41] at hG
  have h_42 : M_41 (20, r, 0) = some (.inr (5, [.int (nI r), .int v1, .int (nI lo), .int (nI w), .int (nI wa), .int 0, .int 0, .int 0, .int 0, .ref q_5])) := by rw [eM_41]; exact (hm_up_n (by simp)).trans h_34
  have h_43 : M_41 (21, r, 0) = some (hm_ra g 2 12 (fun _ => none)) := by rw [eM_41]; exact (hm_up_n (by simp)).trans h_36
  have h_44 : M_41 (22, r, 0) = some (alE (0, -1, 0)) := by rw [eM_41]; exact hm_up_s
  have hfr : hm_fr ad M ad_32 M_41 (fun u => (u.1 = 20 ∨ u.1 = 21 ∨ u.1 = 22) ∧ u.2.1 = r) := by rw [eM_41]; exact hfr.up (by simp)
  refine hm_astq2 (j := 0) S hE hG h_43 a_37 rfl h_44 a_39 rfl (by unfold vp_in; decide) (by decide) dX4_init_73 (fun H locs hG => ?_)
  obtain ⟨M_45, eM_45⟩ : ∃ q9, q9 = hm_up M_41 (21, r, 0) (hm_ra g 2 12 (va_up (fun _ => none) 0 (some q_31))) := ⟨_, rfl⟩
  rw [← eM_45] at hG
  have h_46 : M_45 (20, r, 0) = some (.inr (5, [.int (nI r), .int v1, .int (nI lo), .int (nI w), .int (nI wa), .int 0, .int 0, .int 0, .int 0, .ref q_5])) := by rw [eM_45]; exact (hm_up_n (by simp)).trans h_42
  have h_47 : M_45 (21, r, 0) = some (hm_ra g 2 12 (va_up (fun _ => none) 0 (some q_31))) := by rw [eM_45]; exact hm_up_s
  have h_48 : M_45 (22, r, 0) = some (alE (0, -1, 0)) := by rw [eM_45]; exact (hm_up_n (by simp)).trans h_44
  have hfr : hm_fr ad M ad_32 M_45 (fun u => (u.1 = 20 ∨ u.1 = 21 ∨ u.1 = 22) ∧ u.2.1 = r) := by rw [eM_45]; exact hfr.up (by simp)
  refine lv_iinc (v := 1) (lv' := [(6, .int 1), (0, .ref a), (1, .int (nI r)), (2, .int v1), (3, .int (nI lo)), (4, .int (nI w)), (5, .int (nI wa))]) S.1 S.2.1 dX4_init_74 hl (k := 0) rfl (by decide) (by decide) rfl (fun ls hl => ?_)
  refine lv_goto (tgt := 53) S.1 S.2.1 dX4_init_77 (by decide) ?_
  refine lv_iload S.1 S.2.1 dX4_init_53 (lv_at hl 0 rfl) ?_
  refine lv_bipush (v := 12) S.1 S.2.1 dX4_init_55 (by decide) ?_
  refine lv_icmp_ge (tgt := 80) S.1 S.2.1 dX4_init_57 (by decide) (fun h9 => absurd h9 (by decide)) (fun _ => ?_)
  refine lv_aload_n S.1 S.2.1 dX4_init_60 rfl (lv_at hl 1 rfl) ?_
  refine hm_get (k := 9) S hE hG h_46 a_35 rfl hi_X40 (by decide) hb_189 rfl rfl dX4_init_61 ?_
  refine lv_iload S.1 S.2.1 dX4_init_64 (lv_at hl 0 rfl) ?_
  refine hm_new (ci := 1) (fs := [.int 0, .int 0, .int 0]) S hE hG (22, r, 1) rfl hi_X00 tyX0_ok hb_188 hb_28 hb_29 (by decide) (Nat.le_of_ble_eq_true rfl) (Nat.le_of_ble_eq_true rfl) dX4_init_66 (fun q_49 H hG => ?_)
  obtain ⟨ad_50, ead_50⟩ : ∃ q9, q9 = hm_au ad_32 (22, r, 1) q_49 := ⟨_, rfl⟩
  obtain ⟨M_51, eM_51⟩ : ∃ q9, q9 = hm_up M_45 (22, r, 1) (.inr (1, [.int 0, .int 0, .int 0])) := ⟨_, rfl⟩
  rw [← ead_50, ← eM_51] at hG
  have h_52 : M_51 (20, r, 0) = some (.inr (5, [.int (nI r), .int v1, .int (nI lo), .int (nI w), .int (nI wa), .int 0, .int 0, .int 0, .int 0, .ref q_5])) := by rw [eM_51]; exact (hm_up_n (by simp)).trans h_46
  have a_53 : ad_50 (20, r, 0) = a := by rw [ead_50]; exact (hm_au_n (by simp)).trans a_35
  have h_54 : M_51 (21, r, 0) = some (hm_ra g 2 12 (va_up (fun _ => none) 0 (some q_31))) := by rw [eM_51]; exact (hm_up_n (by simp)).trans h_47
  have a_55 : ad_50 (21, r, 0) = q_5 := by rw [ead_50]; exact (hm_au_n (by simp)).trans a_37
  have h_56 : M_51 (22, r, 0) = some (alE (0, -1, 0)) := by rw [eM_51]; exact (hm_up_n (by simp)).trans h_48
  have a_57 : ad_50 (22, r, 0) = q_31 := by rw [ead_50]; exact (hm_au_n (by simp)).trans a_39
  have h_58 : M_51 (22, r, 1) = some (.inr (1, [.int 0, .int 0, .int 0])) := by rw [eM_51]; exact hm_up_s
  have a_59 : ad_50 (22, r, 1) = q_49 := by rw [ead_50]; exact hm_au_s
  have hfr : hm_fr ad M ad_50 M_51 (fun u => (u.1 = 20 ∨ u.1 = 21 ∨ u.1 = 22) ∧ u.2.1 = r) := by rw [ead_50, eM_51]; exact hfr.au (by simp)
  refine lv_dup S.1 S.2.1 dX4_init_69 rfl ?_
  refine hm_uIN (As := []) (rest := [.ref q_49, .int 1, .ref q_5]) (st1 := [.ref q_49, .int 1, .ref q_5]) S hE hG (c_X0_init l g ad_50 M_51 (22, r, 1) q_49 a_59 h_58) hb_66 hb_29 (List.mem_of_getElem? (i := 4) rfl) hb_65 rfl hd_X0_init ⟨Nat.le_of_ble_eq_true rfl, Nat.le_of_ble_eq_true rfl⟩ rfl hl.1 rfl (Nat.le_of_ble_eq_true rfl) dX4_init_70 ⟨Nat.le_of_ble_eq_true rfl, Nat.le_of_ble_eq_true rfl⟩ rfl (fun H locs hG => ?_)
  obtain ⟨M_61, eM_61⟩ : ∃ q9, q9 = hm_up M_51 (22, r, 1) (alE (0, -1, 0)) := ⟨_, rfl⟩
  rw [← eM_61] at hG
  have h_62 : M_61 (20, r, 0) = some (.inr (5, [.int (nI r), .int v1, .int (nI lo), .int (nI w), .int (nI wa), .int 0, .int 0, .int 0, .int 0, .ref q_5])) := by rw [eM_61]; exact (hm_up_n (by simp)).trans h_52
  have h_63 : M_61 (21, r, 0) = some (hm_ra g 2 12 (va_up (fun _ => none) 0 (some q_31))) := by rw [eM_61]; exact (hm_up_n (by simp)).trans h_54
  have h_64 : M_61 (22, r, 0) = some (alE (0, -1, 0)) := by rw [eM_61]; exact (hm_up_n (by simp)).trans h_56
  have h_65 : M_61 (22, r, 1) = some (alE (0, -1, 0)) := by rw [eM_61]; exact hm_up_s
  have hfr : hm_fr ad M ad_50 M_61 (fun u => (u.1 = 20 ∨ u.1 = 21 ∨ u.1 = 22) ∧ u.2.1 = r) := by rw [eM_61]; exact hfr.up (by simp)
  refine hm_astq2 (j := 1) S hE hG h_63 a_55 rfl h_65 a_59 rfl (by unfold vp_in; decide) (by decide) dX4_init_73 (fun H locs hG => ?_)
  obtain ⟨M_66, eM_66⟩ : ∃ q9, q9 = hm_up M_61 (21, r, 0) (hm_ra g 2 12 (va_up (va_up (fun _ => none) 0 (some q_31)) 1 (some q_49))) := ⟨_, rfl⟩
  rw [← eM_66] at hG
  have h_67 : M_66 (20, r, 0) = some (.inr (5, [.int (nI r), .int v1, .int (nI lo), .int (nI w), .int (nI wa), .int 0, .int 0, .int 0, .int 0, .ref q_5])) := by rw [eM_66]; exact (hm_up_n (by simp)).trans h_62
  have h_68 : M_66 (21, r, 0) = some (hm_ra g 2 12 (va_up (va_up (fun _ => none) 0 (some q_31)) 1 (some q_49))) := by rw [eM_66]; exact hm_up_s
  have h_69 : M_66 (22, r, 0) = some (alE (0, -1, 0)) := by rw [eM_66]; exact (hm_up_n (by simp)).trans h_64
  have h_70 : M_66 (22, r, 1) = some (alE (0, -1, 0)) := by rw [eM_66]; exact (hm_up_n (by simp)).trans h_65
  have hfr : hm_fr ad M ad_50 M_66 (fun u => (u.1 = 20 ∨ u.1 = 21 ∨ u.1 = 22) ∧ u.2.1 = r) := by rw [eM_66]; exact hfr.up (by simp)
  refine lv_iinc (v := 2) (lv' := [(6, .int 2), (0, .ref a), (1, .int (nI r)), (2, .int v1), (3, .int (nI lo)), (4, .int (nI w)), (5, .int (nI wa))]) S.1 S.2.1 dX4_init_74 hl (k := 0) rfl (by decide) (by decide) rfl (fun ls hl => ?_)
  refine lv_goto (tgt := 53) S.1 S.2.1 dX4_init_77 (by decide) ?_
  refine lv_iload S.1 S.2.1 dX4_init_53 (lv_at hl 0 rfl) ?_
  refine lv_bipush (v := 12) S.1 S.2.1 dX4_init_55 (by decide) ?_
  refine lv_icmp_ge (tgt := 80) S.1 S.2.1 dX4_init_57 (by decide) (fun h9 => absurd h9 (by decide)) (fun _ => ?_)
  refine lv_aload_n S.1 S.2.1 dX4_init_60 rfl (lv_at hl 1 rfl) ?_
  refine hm_get (k := 9) S hE hG h_67 a_53 rfl hi_X40 (by decide) hb_189 rfl rfl dX4_init_61 ?_
  refine lv_iload S.1 S.2.1 dX4_init_64 (lv_at hl 0 rfl) ?_
  refine hm_new (ci := 1) (fs := [.int 0, .int 0, .int 0]) S hE hG (22, r, 2) rfl hi_X00 tyX0_ok hb_188 hb_28 hb_29 (by decide) (Nat.le_of_ble_eq_true rfl) (Nat.le_of_ble_eq_true rfl) dX4_init_66 (fun q_71 H hG => ?_)
  obtain ⟨ad_72, ead_72⟩ : ∃ q9, q9 = hm_au ad_50 (22, r, 2) q_71 := ⟨_, rfl⟩
  obtain ⟨M_73, eM_73⟩ : ∃ q9, q9 = hm_up M_66 (22, r, 2) (.inr (1, [.int 0, .int 0, .int 0])) := ⟨_, rfl⟩
  rw [← ead_72, ← eM_73] at hG
  have h_74 : M_73 (20, r, 0) = some (.inr (5, [.int (nI r), .int v1, .int (nI lo), .int (nI w), .int (nI wa), .int 0, .int 0, .int 0, .int 0, .ref q_5])) := by rw [eM_73]; exact (hm_up_n (by simp)).trans h_67
  have a_75 : ad_72 (20, r, 0) = a := by rw [ead_72]; exact (hm_au_n (by simp)).trans a_53
  have h_76 : M_73 (21, r, 0) = some (hm_ra g 2 12 (va_up (va_up (fun _ => none) 0 (some q_31)) 1 (some q_49))) := by rw [eM_73]; exact (hm_up_n (by simp)).trans h_68
  have a_77 : ad_72 (21, r, 0) = q_5 := by rw [ead_72]; exact (hm_au_n (by simp)).trans a_55
  have h_78 : M_73 (22, r, 0) = some (alE (0, -1, 0)) := by rw [eM_73]; exact (hm_up_n (by simp)).trans h_69
  have a_79 : ad_72 (22, r, 0) = q_31 := by rw [ead_72]; exact (hm_au_n (by simp)).trans a_57
  have h_80 : M_73 (22, r, 1) = some (alE (0, -1, 0)) := by rw [eM_73]; exact (hm_up_n (by simp)).trans h_70
  have a_81 : ad_72 (22, r, 1) = q_49 := by rw [ead_72]; exact (hm_au_n (by simp)).trans a_59
  have h_82 : M_73 (22, r, 2) = some (.inr (1, [.int 0, .int 0, .int 0])) := by rw [eM_73]; exact hm_up_s
  have a_83 : ad_72 (22, r, 2) = q_71 := by rw [ead_72]; exact hm_au_s
  have hfr : hm_fr ad M ad_72 M_73 (fun u => (u.1 = 20 ∨ u.1 = 21 ∨ u.1 = 22) ∧ u.2.1 = r) := by rw [ead_72, eM_73]; exact hfr.au (by simp)
  refine lv_dup S.1 S.2.1 dX4_init_69 rfl ?_
  refine hm_uIN (As := []) (rest := [.ref q_71, .int 2, .ref q_5]) (st1 := [.ref q_71, .int 2, .ref q_5]) S hE hG (c_X0_init l g ad_72 M_73 (22, r, 2) q_71 a_83 h_82) hb_66 hb_29 (List.mem_of_getElem? (i := 4) rfl) hb_65 rfl hd_X0_init ⟨Nat.le_of_ble_eq_true rfl, Nat.le_of_ble_eq_true rfl⟩ rfl hl.1 rfl (Nat.le_of_ble_eq_true rfl) dX4_init_70 ⟨Nat.le_of_ble_eq_true rfl, Nat.le_of_ble_eq_true rfl⟩ rfl (fun H locs hG => ?_)
  obtain ⟨M_85, eM_85⟩ : ∃ q9, q9 = hm_up M_73 (22, r, 2) (alE (0, -1, 0)) := ⟨_, rfl⟩
  rw [← eM_85] at hG
  have h_86 : M_85 (20, r, 0) = some (.inr (5, [.int (nI r), .int v1, .int (nI lo), .int (nI w), .int (nI wa), .int 0, .int 0, .int 0, .int 0, .ref q_5])) := by rw [eM_85]; exact (hm_up_n (by simp)).trans h_74
  have h_87 : M_85 (21, r, 0) = some (hm_ra g 2 12 (va_up (va_up (fun _ => none) 0 (some q_31)) 1 (some q_49))) := by rw [eM_85]; exact (hm_up_n (by simp)).trans h_76
  have h_88 : M_85 (22, r, 0) = some (alE (0, -1, 0)) := by rw [eM_85]; exact (hm_up_n (by simp)).trans h_78
  have h_89 : M_85 (22, r, 1) = some (alE (0, -1, 0)) := by rw [eM_85]; exact (hm_up_n (by simp)).trans h_80
  have h_90 : M_85 (22, r, 2) = some (alE (0, -1, 0)) := by rw [eM_85]; exact hm_up_s
  have hfr : hm_fr ad M ad_72 M_85 (fun u => (u.1 = 20 ∨ u.1 = 21 ∨ u.1 = 22) ∧ u.2.1 = r) := by rw [eM_85]; exact hfr.up (by simp)
  refine hm_astq2 (j := 2) S hE hG h_87 a_77 rfl h_90 a_83 rfl (by unfold vp_in; decide) (by decide) dX4_init_73 (fun H locs hG => ?_)
  obtain ⟨M_91, eM_91⟩ : ∃ q9, q9 = hm_up M_85 (21, r, 0) (hm_ra g 2 12 (va_up (va_up (va_up (fun _ => none) 0 (some q_31)) 1 (some q_49)) 2 (some q_71))) := ⟨_, rfl⟩
  rw [← eM_91] at hG
  have h_92 : M_91 (20, r, 0) = some (.inr (5, [.int (nI r), .int v1, .int (nI lo), .int (nI w), .int (nI wa), .int 0, .int 0, .int 0, .int 0, .ref q_5])) := by rw [eM_91]; exact (hm_up_n (by simp)).trans h_86
  have h_93 : M_91 (21, r, 0) = some (hm_ra g 2 12 (va_up (va_up (va_up (fun _ => none) 0 (some q_31)) 1 (some q_49)) 2 (some q_71))) := by rw [eM_91]; exact hm_up_s
  have h_94 : M_91 (22, r, 0) = some (alE (0, -1, 0)) := by rw [eM_91]; exact (hm_up_n (by simp)).trans h_88
  have h_95 : M_91 (22, r, 1) = some (alE (0, -1, 0)) := by rw [eM_91]; exact (hm_up_n (by simp)).trans h_89
  have h_96 : M_91 (22, r, 2) = some (alE (0, -1, 0)) := by rw [eM_91]; exact (hm_up_n (by simp)).trans h_90
  have hfr : hm_fr ad M ad_72 M_91 (fun u => (u.1 = 20 ∨ u.1 = 21 ∨ u.1 = 22) ∧ u.2.1 = r) := by rw [eM_91]; exact hfr.up (by simp)
  refine lv_iinc (v := 3) (lv' := [(6, .int 3), (0, .ref a), (1, .int (nI r)), (2, .int v1), (3, .int (nI lo)), (4, .int (nI w)), (5, .int (nI wa))]) S.1 S.2.1 dX4_init_74 hl (k := 0) rfl (by decide) (by decide) rfl (fun ls hl => ?_)
  refine lv_goto (tgt := 53) S.1 S.2.1 dX4_init_77 (by decide) ?_
  refine lv_iload S.1 S.2.1 dX4_init_53 (lv_at hl 0 rfl) ?_
  refine lv_bipush (v := 12) S.1 S.2.1 dX4_init_55 (by decide) ?_
  refine lv_icmp_ge (tgt := 80) S.1 S.2.1 dX4_init_57 (by decide) (fun h9 => absurd h9 (by decide)) (fun _ => ?_)
  refine lv_aload_n S.1 S.2.1 dX4_init_60 rfl (lv_at hl 1 rfl) ?_
  refine hm_get (k := 9) S hE hG h_92 a_75 rfl hi_X40 (by decide) hb_189 rfl rfl dX4_init_61 ?_
  refine lv_iload S.1 S.2.1 dX4_init_64 (lv_at hl 0 rfl) ?_
  refine hm_new (ci := 1) (fs := [.int 0, .int 0, .int 0]) S hE hG (22, r, 3) rfl hi_X00 tyX0_ok hb_188 hb_28 hb_29 (by decide) (Nat.le_of_ble_eq_true rfl) (Nat.le_of_ble_eq_true rfl) dX4_init_66 (fun q_97 H hG => ?_)
  obtain ⟨ad_98, ead_98⟩ : ∃ q9, q9 = hm_au ad_72 (22, r, 3) q_97 := ⟨_, rfl⟩
  obtain ⟨M_99, eM_99⟩ : ∃ q9, q9 = hm_up M_91 (22, r, 3) (.inr (1, [.int 0, .int 0, .int 0])) := ⟨_, rfl⟩
  rw [← ead_98, ← eM_99] at hG
  have h_100 : M_99 (20, r, 0) = some (.inr (5, [.int (nI r), .int v1, .int (nI lo), .int (nI w), .int (nI wa), .int 0, .int 0, .int 0, .int 0, .ref q_5])) := by rw [eM_99]; exact (hm_up_n (by simp)).trans h_92
  have a_101 : ad_98 (20, r, 0) = a := by rw [ead_98]; exact (hm_au_n (by simp)).trans a_75
  have h_102 : M_99 (21, r, 0) = some (hm_ra g 2 12 (va_up (va_up (va_up (fun _ => none) 0 (some q_31)) 1 (some q_49)) 2 (some q_71))) := by rw [eM_99]; exact (hm_up_n (by simp)).trans h_93
  have a_103 : ad_98 (21, r, 0) = q_5 := by rw [ead_98]; exact (hm_au_n (by simp)).trans a_77
  have h_104 : M_99 (22, r, 0) = some (alE (0, -1, 0)) := by rw [eM_99]; exact (hm_up_n (by simp)).trans h_94
  have a_105 : ad_98 (22, r, 0) = q_31 := by rw [ead_98]; exact (hm_au_n (by simp)).trans a_79
  have h_106 : M_99 (22, r, 1) = some (alE (0, -1, 0)) := by rw [eM_99]; exact (hm_up_n (by simp)).trans h_95
  have a_107 : ad_98 (22, r, 1) = q_49 := by rw [ead_98]; exact (hm_au_n (by simp)).trans a_81
  have h_108 : M_99 (22, r, 2) = some (alE (0, -1, 0)) := by rw [eM_99]; exact (hm_up_n (by simp)).trans h_96
  have a_109 : ad_98 (22, r, 2) = q_71 := by rw [ead_98]; exact (hm_au_n (by simp)).trans a_83
  have h_110 : M_99 (22, r, 3) = some (.inr (1, [.int 0, .int 0, .int 0])) := by rw [eM_99]; exact hm_up_s
  have a_111 : ad_98 (22, r, 3) = q_97 := by rw [ead_98]; exact hm_au_s
  have hfr : hm_fr ad M ad_98 M_99 (fun u => (u.1 = 20 ∨ u.1 = 21 ∨ u.1 = 22) ∧ u.2.1 = r) := by rw [ead_98, eM_99]; exact hfr.au (by simp)
  refine lv_dup S.1 S.2.1 dX4_init_69 rfl ?_
  refine hm_uIN (As := []) (rest := [.ref q_97, .int 3, .ref q_5]) (st1 := [.ref q_97, .int 3, .ref q_5]) S hE hG (c_X0_init l g ad_98 M_99 (22, r, 3) q_97 a_111 h_110) hb_66 hb_29 (List.mem_of_getElem? (i := 4) rfl) hb_65 rfl hd_X0_init ⟨Nat.le_of_ble_eq_true rfl, Nat.le_of_ble_eq_true rfl⟩ rfl hl.1 rfl (Nat.le_of_ble_eq_true rfl) dX4_init_70 ⟨Nat.le_of_ble_eq_true rfl, Nat.le_of_ble_eq_true rfl⟩ rfl (fun H locs hG => ?_)
  obtain ⟨M_113, eM_113⟩ : ∃ q9, q9 = hm_up M_99 (22, r, 3) (alE (0, -1, 0)) := ⟨_, rfl⟩
  rw [← eM_113] at hG
  have h_114 : M_113 (20, r, 0) = some (.inr (5, [.int (nI r), .int v1, .int (nI lo), .int (nI w), .int (nI wa), .int 0, .int 0, .int 0, .int 0, .ref q_5])) := by rw [eM_113]; exact (hm_up_n (by simp)).trans h_100
  have h_115 : M_113 (21, r, 0) = some (hm_ra g 2 12 (va_up (va_up (va_up (fun _ => none) 0 (some q_31)) 1 (some q_49)) 2 (some q_71))) := by rw [eM_113]; exact (hm_up_n (by simp)).trans h_102
  have h_116 : M_113 (22, r, 0) = some (alE (0, -1, 0)) := by rw [eM_113]; exact (hm_up_n (by simp)).trans h_104
  have h_117 : M_113 (22, r, 1) = some (alE (0, -1, 0)) := by rw [eM_113]; exact (hm_up_n (by simp)).trans h_106
  have h_118 : M_113 (22, r, 2) = some (alE (0, -1, 0)) := by rw [eM_113]; exact (hm_up_n (by simp)).trans h_108
  have h_119 : M_113 (22, r, 3) = some (alE (0, -1, 0)) := by rw [eM_113]; exact hm_up_s
  have hfr : hm_fr ad M ad_98 M_113 (fun u => (u.1 = 20 ∨ u.1 = 21 ∨ u.1 = 22) ∧ u.2.1 = r) := by rw [eM_113]; exact hfr.up (by simp)
  refine hm_astq2 (j := 3) S hE hG h_115 a_103 rfl h_119 a_111 rfl (by unfold vp_in; decide) (by decide) dX4_init_73 (fun H locs hG => ?_)
  obtain ⟨M_120, eM_120⟩ : ∃ q9, q9 = hm_up M_113 (21, r, 0) (hm_ra g 2 12 (va_up (va_up (va_up (va_up (fun _ => none) 0 (some q_31)) 1 (some q_49)) 2 (some q_71)) 3 (some q_97))) := ⟨_, rfl⟩
  rw [← eM_120] at hG
  have h_121 : M_120 (20, r, 0) = some (.inr (5, [.int (nI r), .int v1, .int (nI lo), .int (nI w), .int (nI wa), .int 0, .int 0, .int 0, .int 0, .ref q_5])) := by rw [eM_120]; exact (hm_up_n (by simp)).trans h_114
  have h_122 : M_120 (21, r, 0) = some (hm_ra g 2 12 (va_up (va_up (va_up (va_up (fun _ => none) 0 (some q_31)) 1 (some q_49)) 2 (some q_71)) 3 (some q_97))) := by rw [eM_120]; exact hm_up_s
  have h_123 : M_120 (22, r, 0) = some (alE (0, -1, 0)) := by rw [eM_120]; exact (hm_up_n (by simp)).trans h_116
  have h_124 : M_120 (22, r, 1) = some (alE (0, -1, 0)) := by rw [eM_120]; exact (hm_up_n (by simp)).trans h_117
  have h_125 : M_120 (22, r, 2) = some (alE (0, -1, 0)) := by rw [eM_120]; exact (hm_up_n (by simp)).trans h_118
  have h_126 : M_120 (22, r, 3) = some (alE (0, -1, 0)) := by rw [eM_120]; exact (hm_up_n (by simp)).trans h_119
  have hfr : hm_fr ad M ad_98 M_120 (fun u => (u.1 = 20 ∨ u.1 = 21 ∨ u.1 = 22) ∧ u.2.1 = r) := by rw [eM_120]; exact hfr.up (by simp)
  refine lv_iinc (v := 4) (lv' := [(6, .int 4), (0, .ref a), (1, .int (nI r)), (2, .int v1), (3, .int (nI lo)), (4, .int (nI w)), (5, .int (nI wa))]) S.1 S.2.1 dX4_init_74 hl (k := 0) rfl (by decide) (by decide) rfl (fun ls hl => ?_)
  refine lv_goto (tgt := 53) S.1 S.2.1 dX4_init_77 (by decide) ?_
  refine lv_iload S.1 S.2.1 dX4_init_53 (lv_at hl 0 rfl) ?_
  refine lv_bipush (v := 12) S.1 S.2.1 dX4_init_55 (by decide) ?_
  refine lv_icmp_ge (tgt := 80) S.1 S.2.1 dX4_init_57 (by decide) (fun h9 => absurd h9 (by decide)) (fun _ => ?_)
  refine lv_aload_n S.1 S.2.1 dX4_init_60 rfl (lv_at hl 1 rfl) ?_
  refine hm_get (k := 9) S hE hG h_121 a_101 rfl hi_X40 (by decide) hb_189 rfl rfl dX4_init_61 ?_
  refine lv_iload S.1 S.2.1 dX4_init_64 (lv_at hl 0 rfl) ?_
  refine hm_new (ci := 1) (fs := [.int 0, .int 0, .int 0]) S hE hG (22, r, 4) rfl hi_X00 tyX0_ok hb_188 hb_28 hb_29 (by decide) (Nat.le_of_ble_eq_true rfl) (Nat.le_of_ble_eq_true rfl) dX4_init_66 (fun q_127 H hG => ?_)
  obtain ⟨ad_128, ead_128⟩ : ∃ q9, q9 = hm_au ad_98 (22, r, 4) q_127 := ⟨_, rfl⟩
  obtain ⟨M_129, eM_129⟩ : ∃ q9, q9 = hm_up M_120 (22, r, 4) (.inr (1, [.int 0, .int 0, .int 0])) := ⟨_, rfl⟩
  rw [← ead_128, ← eM_129] at hG
  have h_130 : M_129 (20, r, 0) = some (.inr (5, [.int (nI r), .int v1, .int (nI lo), .int (nI w), .int (nI wa), .int 0, .int 0, .int 0, .int 0, .ref q_5])) := by rw [eM_129]; exact (hm_up_n (by simp)).trans h_121
  have a_131 : ad_128 (20, r, 0) = a := by rw [ead_128]; exact (hm_au_n (by simp)).trans a_101
  have h_132 : M_129 (21, r, 0) = some (hm_ra g 2 12 (va_up (va_up (va_up (va_up (fun _ => none) 0 (some q_31)) 1 (some q_49)) 2 (some q_71)) 3 (some q_97))) := by rw [eM_129]; exact (hm_up_n (by simp)).trans h_122
  have a_133 : ad_128 (21, r, 0) = q_5 := by rw [ead_128]; exact (hm_au_n (by simp)).trans a_103
  have h_134 : M_129 (22, r, 0) = some (alE (0, -1, 0)) := by rw [eM_129]; exact (hm_up_n (by simp)).trans h_123
  have a_135 : ad_128 (22, r, 0) = q_31 := by rw [ead_128]; exact (hm_au_n (by simp)).trans a_105
  have h_136 : M_129 (22, r, 1) = some (alE (0, -1, 0)) := by rw [eM_129]; exact (hm_up_n (by simp)).trans h_124
  have a_137 : ad_128 (22, r, 1) = q_49 := by rw [ead_128]; exact (hm_au_n (by simp)).trans a_107
  have h_138 : M_129 (22, r, 2) = some (alE (0, -1, 0)) := by rw [eM_129]; exact (hm_up_n (by simp)).trans h_125
  have a_139 : ad_128 (22, r, 2) = q_71 := by rw [ead_128]; exact (hm_au_n (by simp)).trans a_109
  have h_140 : M_129 (22, r, 3) = some (alE (0, -1, 0)) := by rw [eM_129]; exact (hm_up_n (by simp)).trans h_126
  have a_141 : ad_128 (22, r, 3) = q_97 := by rw [ead_128]; exact (hm_au_n (by simp)).trans a_111
  have h_142 : M_129 (22, r, 4) = some (.inr (1, [.int 0, .int 0, .int 0])) := by rw [eM_129]; exact hm_up_s
  have a_143 : ad_128 (22, r, 4) = q_127 := by rw [ead_128]; exact hm_au_s
  have hfr : hm_fr ad M ad_128 M_129 (fun u => (u.1 = 20 ∨ u.1 = 21 ∨ u.1 = 22) ∧ u.2.1 = r) := by rw [ead_128, eM_129]; exact hfr.au (by simp)
  refine lv_dup S.1 S.2.1 dX4_init_69 rfl ?_
  refine hm_uIN (As := []) (rest := [.ref q_127, .int 4, .ref q_5]) (st1 := [.ref q_127, .int 4, .ref q_5]) S hE hG (c_X0_init l g ad_128 M_129 (22, r, 4) q_127 a_143 h_142) hb_66 hb_29 (List.mem_of_getElem? (i := 4) rfl) hb_65 rfl hd_X0_init ⟨Nat.le_of_ble_eq_true rfl, Nat.le_of_ble_eq_true rfl⟩ rfl hl.1 rfl (Nat.le_of_ble_eq_true rfl) dX4_init_70 ⟨Nat.le_of_ble_eq_true rfl, Nat.le_of_ble_eq_true rfl⟩ rfl (fun H locs hG => ?_)
  obtain ⟨M_145, eM_145⟩ : ∃ q9, q9 = hm_up M_129 (22, r, 4) (alE (0, -1, 0)) := ⟨_, rfl⟩
  rw [← eM_145] at hG
  have h_146 : M_145 (20, r, 0) = some (.inr (5, [.int (nI r), .int v1, .int (nI lo), .int (nI w), .int (nI wa), .int 0, .int 0, .int 0, .int 0, .ref q_5])) := by rw [eM_145]; exact (hm_up_n (by simp)).trans h_130
  have h_147 : M_145 (21, r, 0) = some (hm_ra g 2 12 (va_up (va_up (va_up (va_up (fun _ => none) 0 (some q_31)) 1 (some q_49)) 2 (some q_71)) 3 (some q_97))) := by rw [eM_145]; exact (hm_up_n (by simp)).trans h_132
  have h_148 : M_145 (22, r, 0) = some (alE (0, -1, 0)) := by rw [eM_145]; exact (hm_up_n (by simp)).trans h_134
  have h_149 : M_145 (22, r, 1) = some (alE (0, -1, 0)) := by rw [eM_145]; exact (hm_up_n (by simp)).trans h_136
  have h_150 : M_145 (22, r, 2) = some (alE (0, -1, 0)) := by rw [eM_145]; exact (hm_up_n (by simp)).trans h_138
  have h_151 : M_145 (22, r, 3) = some (alE (0, -1, 0)) := by rw [eM_145]; exact (hm_up_n (by simp)).trans h_140
  have h_152 : M_145 (22, r, 4) = some (alE (0, -1, 0)) := by rw [eM_145]; exact hm_up_s
  have hfr : hm_fr ad M ad_128 M_145 (fun u => (u.1 = 20 ∨ u.1 = 21 ∨ u.1 = 22) ∧ u.2.1 = r) := by rw [eM_145]; exact hfr.up (by simp)
  refine hm_astq2 (j := 4) S hE hG h_147 a_133 rfl h_152 a_143 rfl (by unfold vp_in; decide) (by decide) dX4_init_73 (fun H locs hG => ?_)
  obtain ⟨M_153, eM_153⟩ : ∃ q9, q9 = hm_up M_145 (21, r, 0) (hm_ra g 2 12 (va_up (va_up (va_up (va_up (va_up (fun _ => none) 0 (some q_31)) 1 (some q_49)) 2 (some q_71)) 3 (some q_97)) 4 (some q_127))) := ⟨_, rfl⟩
  rw [← eM_153] at hG
  have h_154 : M_153 (20, r, 0) = some (.inr (5, [.int (nI r), .int v1, .int (nI lo), .int (nI w), .int (nI wa), .int 0, .int 0, .int 0, .int 0, .ref q_5])) := by rw [eM_153]; exact (hm_up_n (by simp)).trans h_146
  have h_155 : M_153 (21, r, 0) = some (hm_ra g 2 12 (va_up (va_up (va_up (va_up (va_up (fun _ => none) 0 (some q_31)) 1 (some q_49)) 2 (some q_71)) 3 (some q_97)) 4 (some q_127))) := by rw [eM_153]; exact hm_up_s
  have h_156 : M_153 (22, r, 0) = some (alE (0, -1, 0)) := by rw [eM_153]; exact (hm_up_n (by simp)).trans h_148
  have h_157 : M_153 (22, r, 1) = some (alE (0, -1, 0)) := by rw [eM_153]; exact (hm_up_n (by simp)).trans h_149
  have h_158 : M_153 (22, r, 2) = some (alE (0, -1, 0)) := by rw [eM_153]; exact (hm_up_n (by simp)).trans h_150
  have h_159 : M_153 (22, r, 3) = some (alE (0, -1, 0)) := by rw [eM_153]; exact (hm_up_n (by simp)).trans h_151
  have h_160 : M_153 (22, r, 4) = some (alE (0, -1, 0)) := by rw [eM_153]; exact (hm_up_n (by simp)).trans h_152
  have hfr : hm_fr ad M ad_128 M_153 (fun u => (u.1 = 20 ∨ u.1 = 21 ∨ u.1 = 22) ∧ u.2.1 = r) := by rw [eM_153]; exact hfr.up (by simp)
  refine lv_iinc (v := 5) (lv' := [(6, .int 5), (0, .ref a), (1, .int (nI r)), (2, .int v1), (3, .int (nI lo)), (4, .int (nI w)), (5, .int (nI wa))]) S.1 S.2.1 dX4_init_74 hl (k := 0) rfl (by decide) (by decide) rfl (fun ls hl => ?_)
  refine lv_goto (tgt := 53) S.1 S.2.1 dX4_init_77 (by decide) ?_
  refine lv_iload S.1 S.2.1 dX4_init_53 (lv_at hl 0 rfl) ?_
  refine lv_bipush (v := 12) S.1 S.2.1 dX4_init_55 (by decide) ?_
  refine lv_icmp_ge (tgt := 80) S.1 S.2.1 dX4_init_57 (by decide) (fun h9 => absurd h9 (by decide)) (fun _ => ?_)
  refine lv_aload_n S.1 S.2.1 dX4_init_60 rfl (lv_at hl 1 rfl) ?_
  refine hm_get (k := 9) S hE hG h_154 a_131 rfl hi_X40 (by decide) hb_189 rfl rfl dX4_init_61 ?_
  refine lv_iload S.1 S.2.1 dX4_init_64 (lv_at hl 0 rfl) ?_
  refine hm_new (ci := 1) (fs := [.int 0, .int 0, .int 0]) S hE hG (22, r, 5) rfl hi_X00 tyX0_ok hb_188 hb_28 hb_29 (by decide) (Nat.le_of_ble_eq_true rfl) (Nat.le_of_ble_eq_true rfl) dX4_init_66 (fun q_161 H hG => ?_)
  obtain ⟨ad_162, ead_162⟩ : ∃ q9, q9 = hm_au ad_128 (22, r, 5) q_161 := ⟨_, rfl⟩
  obtain ⟨M_163, eM_163⟩ : ∃ q9, q9 = hm_up M_153 (22, r, 5) (.inr (1, [.int 0, .int 0, .int 0])) := ⟨_, rfl⟩
  rw [← ead_162, ← eM_163] at hG
  have h_164 : M_163 (20, r, 0) = some (.inr (5, [.int (nI r), .int v1, .int (nI lo), .int (nI w), .int (nI wa), .int 0, .int 0, .int 0, .int 0, .ref q_5])) := by rw [eM_163]; exact (hm_up_n (by simp)).trans h_154
  have a_165 : ad_162 (20, r, 0) = a := by rw [ead_162]; exact (hm_au_n (by simp)).trans a_131
  have h_166 : M_163 (21, r, 0) = some (hm_ra g 2 12 (va_up (va_up (va_up (va_up (va_up (fun _ => none) 0 (some q_31)) 1 (some q_49)) 2 (some q_71)) 3 (some q_97)) 4 (some q_127))) := by rw [eM_163]; exact (hm_up_n (by simp)).trans h_155
  have a_167 : ad_162 (21, r, 0) = q_5 := by rw [ead_162]; exact (hm_au_n (by simp)).trans a_133
  have h_168 : M_163 (22, r, 0) = some (alE (0, -1, 0)) := by rw [eM_163]; exact (hm_up_n (by simp)).trans h_156
  have a_169 : ad_162 (22, r, 0) = q_31 := by rw [ead_162]; exact (hm_au_n (by simp)).trans a_135
  have h_170 : M_163 (22, r, 1) = some (alE (0, -1, 0)) := by rw [eM_163]; exact (hm_up_n (by simp)).trans h_157
  have a_171 : ad_162 (22, r, 1) = q_49 := by rw [ead_162]; exact (hm_au_n (by simp)).trans a_137
  have h_172 : M_163 (22, r, 2) = some (alE (0, -1, 0)) := by rw [eM_163]; exact (hm_up_n (by simp)).trans h_158
  have a_173 : ad_162 (22, r, 2) = q_71 := by rw [ead_162]; exact (hm_au_n (by simp)).trans a_139
  have h_174 : M_163 (22, r, 3) = some (alE (0, -1, 0)) := by rw [eM_163]; exact (hm_up_n (by simp)).trans h_159
  have a_175 : ad_162 (22, r, 3) = q_97 := by rw [ead_162]; exact (hm_au_n (by simp)).trans a_141
  have h_176 : M_163 (22, r, 4) = some (alE (0, -1, 0)) := by rw [eM_163]; exact (hm_up_n (by simp)).trans h_160
  have a_177 : ad_162 (22, r, 4) = q_127 := by rw [ead_162]; exact (hm_au_n (by simp)).trans a_143
  have h_178 : M_163 (22, r, 5) = some (.inr (1, [.int 0, .int 0, .int 0])) := by rw [eM_163]; exact hm_up_s
  have a_179 : ad_162 (22, r, 5) = q_161 := by rw [ead_162]; exact hm_au_s
  have hfr : hm_fr ad M ad_162 M_163 (fun u => (u.1 = 20 ∨ u.1 = 21 ∨ u.1 = 22) ∧ u.2.1 = r) := by rw [ead_162, eM_163]; exact hfr.au (by simp)
  refine lv_dup S.1 S.2.1 dX4_init_69 rfl ?_
  refine hm_uIN (As := []) (rest := [.ref q_161, .int 5, .ref q_5]) (st1 := [.ref q_161, .int 5, .ref q_5]) S hE hG (c_X0_init l g ad_162 M_163 (22, r, 5) q_161 a_179 h_178) hb_66 hb_29 (List.mem_of_getElem? (i := 4) rfl) hb_65 rfl hd_X0_init ⟨Nat.le_of_ble_eq_true rfl, Nat.le_of_ble_eq_true rfl⟩ rfl hl.1 rfl (Nat.le_of_ble_eq_true rfl) dX4_init_70 ⟨Nat.le_of_ble_eq_true rfl, Nat.le_of_ble_eq_true rfl⟩ rfl (fun H locs hG => ?_)
  obtain ⟨M_181, eM_181⟩ : ∃ q9, q9 = hm_up M_163 (22, r, 5) (alE (0, -1, 0)) := ⟨_, rfl⟩
  rw [← eM_181] at hG
  have h_182 : M_181 (20, r, 0) = some (.inr (5, [.int (nI r), .int v1, .int (nI lo), .int (nI w), .int (nI wa), .int 0, .int 0, .int 0, .int 0, .ref q_5])) := by rw [eM_181]; exact (hm_up_n (by simp)).trans h_164
  have h_183 : M_181 (21, r, 0) = some (hm_ra g 2 12 (va_up (va_up (va_up (va_up (va_up (fun _ => none) 0 (some q_31)) 1 (some q_49)) 2 (some q_71)) 3 (some q_97)) 4 (some q_127))) := by rw [eM_181]; exact (hm_up_n (by simp)).trans h_166
  have h_184 : M_181 (22, r, 0) = some (alE (0, -1, 0)) := by rw [eM_181]; exact (hm_up_n (by simp)).trans h_168
  have h_185 : M_181 (22, r, 1) = some (alE (0, -1, 0)) := by rw [eM_181]; exact (hm_up_n (by simp)).trans h_170
  have h_186 : M_181 (22, r, 2) = some (alE (0, -1, 0)) := by rw [eM_181]; exact (hm_up_n (by simp)).trans h_172
  have h_187 : M_181 (22, r, 3) = some (alE (0, -1, 0)) := by rw [eM_181]; exact (hm_up_n (by simp)).trans h_174
  have h_188 : M_181 (22, r, 4) = some (alE (0, -1, 0)) := by rw [eM_181]; exact (hm_up_n (by simp)).trans h_176
  have h_189 : M_181 (22, r, 5) = some (alE (0, -1, 0)) := by rw [eM_181]; exact hm_up_s
  have hfr : hm_fr ad M ad_162 M_181 (fun u => (u.1 = 20 ∨ u.1 = 21 ∨ u.1 = 22) ∧ u.2.1 = r) := by rw [eM_181]; exact hfr.up (by simp)
  refine hm_astq2 (j := 5) S hE hG h_183 a_167 rfl h_189 a_179 rfl (by unfold vp_in; decide) (by decide) dX4_init_73 (fun H locs hG => ?_)
  obtain ⟨M_190, eM_190⟩ : ∃ q9, q9 = hm_up M_181 (21, r, 0) (hm_ra g 2 12 (va_up (va_up (va_up (va_up (va_up (va_up (fun _ => none) 0 (some q_31)) 1 (some q_49)) 2 (some q_71)) 3 (some q_97)) 4 (some q_127)) 5 (some q_161))) := ⟨_, rfl⟩
  rw [← eM_190] at hG
  have h_191 : M_190 (20, r, 0) = some (.inr (5, [.int (nI r), .int v1, .int (nI lo), .int (nI w), .int (nI wa), .int 0, .int 0, .int 0, .int 0, .ref q_5])) := by rw [eM_190]; exact (hm_up_n (by simp)).trans h_182
  have h_192 : M_190 (21, r, 0) = some (hm_ra g 2 12 (va_up (va_up (va_up (va_up (va_up (va_up (fun _ => none) 0 (some q_31)) 1 (some q_49)) 2 (some q_71)) 3 (some q_97)) 4 (some q_127)) 5 (some q_161))) := by rw [eM_190]; exact hm_up_s
  have h_193 : M_190 (22, r, 0) = some (alE (0, -1, 0)) := by rw [eM_190]; exact (hm_up_n (by simp)).trans h_184
  have h_194 : M_190 (22, r, 1) = some (alE (0, -1, 0)) := by rw [eM_190]; exact (hm_up_n (by simp)).trans h_185
  have h_195 : M_190 (22, r, 2) = some (alE (0, -1, 0)) := by rw [eM_190]; exact (hm_up_n (by simp)).trans h_186
  have h_196 : M_190 (22, r, 3) = some (alE (0, -1, 0)) := by rw [eM_190]; exact (hm_up_n (by simp)).trans h_187
  have h_197 : M_190 (22, r, 4) = some (alE (0, -1, 0)) := by rw [eM_190]; exact (hm_up_n (by simp)).trans h_188
  have h_198 : M_190 (22, r, 5) = some (alE (0, -1, 0)) := by rw [eM_190]; exact (hm_up_n (by simp)).trans h_189
  have hfr : hm_fr ad M ad_162 M_190 (fun u => (u.1 = 20 ∨ u.1 = 21 ∨ u.1 = 22) ∧ u.2.1 = r) := by rw [eM_190]; exact hfr.up (by simp)
  refine lv_iinc (v := 6) (lv' := [(6, .int 6), (0, .ref a), (1, .int (nI r)), (2, .int v1), (3, .int (nI lo)), (4, .int (nI w)), (5, .int (nI wa))]) S.1 S.2.1 dX4_init_74 hl (k := 0) rfl (by decide) (by decide) rfl (fun ls hl => ?_)
  refine lv_goto (tgt := 53) S.1 S.2.1 dX4_init_77 (by decide) ?_
  refine lv_iload S.1 S.2.1 dX4_init_53 (lv_at hl 0 rfl) ?_
  refine lv_bipush (v := 12) S.1 S.2.1 dX4_init_55 (by decide) ?_
  refine lv_icmp_ge (tgt := 80) S.1 S.2.1 dX4_init_57 (by decide) (fun h9 => absurd h9 (by decide)) (fun _ => ?_)
  refine lv_aload_n S.1 S.2.1 dX4_init_60 rfl (lv_at hl 1 rfl) ?_
  refine hm_get (k := 9) S hE hG h_191 a_165 rfl hi_X40 (by decide) hb_189 rfl rfl dX4_init_61 ?_
  refine lv_iload S.1 S.2.1 dX4_init_64 (lv_at hl 0 rfl) ?_
  refine hm_new (ci := 1) (fs := [.int 0, .int 0, .int 0]) S hE hG (22, r, 6) rfl hi_X00 tyX0_ok hb_188 hb_28 hb_29 (by decide) (Nat.le_of_ble_eq_true rfl) (Nat.le_of_ble_eq_true rfl) dX4_init_66 (fun q_199 H hG => ?_)
  obtain ⟨ad_200, ead_200⟩ : ∃ q9, q9 = hm_au ad_162 (22, r, 6) q_199 := ⟨_, rfl⟩
  obtain ⟨M_201, eM_201⟩ : ∃ q9, q9 = hm_up M_190 (22, r, 6) (.inr (1, [.int 0, .int 0, .int 0])) := ⟨_, rfl⟩
  rw [← ead_200, ← eM_201] at hG
  have h_202 : M_201 (20, r, 0) = some (.inr (5, [.int (nI r), .int v1, .int (nI lo), .int (nI w), .int (nI wa), .int 0, .int 0, .int 0, .int 0, .ref q_5])) := by rw [eM_201]; exact (hm_up_n (by simp)).trans h_191
  have a_203 : ad_200 (20, r, 0) = a := by rw [ead_200]; exact (hm_au_n (by simp)).trans a_165
  have h_204 : M_201 (21, r, 0) = some (hm_ra g 2 12 (va_up (va_up (va_up (va_up (va_up (va_up (fun _ => none) 0 (some q_31)) 1 (some q_49)) 2 (some q_71)) 3 (some q_97)) 4 (some q_127)) 5 (some q_161))) := by rw [eM_201]; exact (hm_up_n (by simp)).trans h_192
  have a_205 : ad_200 (21, r, 0) = q_5 := by rw [ead_200]; exact (hm_au_n (by simp)).trans a_167
  have h_206 : M_201 (22, r, 0) = some (alE (0, -1, 0)) := by rw [eM_201]; exact (hm_up_n (by simp)).trans h_193
  have a_207 : ad_200 (22, r, 0) = q_31 := by rw [ead_200]; exact (hm_au_n (by simp)).trans a_169
  have h_208 : M_201 (22, r, 1) = some (alE (0, -1, 0)) := by rw [eM_201]; exact (hm_up_n (by simp)).trans h_194
  have a_209 : ad_200 (22, r, 1) = q_49 := by rw [ead_200]; exact (hm_au_n (by simp)).trans a_171
  have h_210 : M_201 (22, r, 2) = some (alE (0, -1, 0)) := by rw [eM_201]; exact (hm_up_n (by simp)).trans h_195
  have a_211 : ad_200 (22, r, 2) = q_71 := by rw [ead_200]; exact (hm_au_n (by simp)).trans a_173
  have h_212 : M_201 (22, r, 3) = some (alE (0, -1, 0)) := by rw [eM_201]; exact (hm_up_n (by simp)).trans h_196
  have a_213 : ad_200 (22, r, 3) = q_97 := by rw [ead_200]; exact (hm_au_n (by simp)).trans a_175
  have h_214 : M_201 (22, r, 4) = some (alE (0, -1, 0)) := by rw [eM_201]; exact (hm_up_n (by simp)).trans h_197
  have a_215 : ad_200 (22, r, 4) = q_127 := by rw [ead_200]; exact (hm_au_n (by simp)).trans a_177
  have h_216 : M_201 (22, r, 5) = some (alE (0, -1, 0)) := by rw [eM_201]; exact (hm_up_n (by simp)).trans h_198
  have a_217 : ad_200 (22, r, 5) = q_161 := by rw [ead_200]; exact (hm_au_n (by simp)).trans a_179
  have h_218 : M_201 (22, r, 6) = some (.inr (1, [.int 0, .int 0, .int 0])) := by rw [eM_201]; exact hm_up_s
  have a_219 : ad_200 (22, r, 6) = q_199 := by rw [ead_200]; exact hm_au_s
  have hfr : hm_fr ad M ad_200 M_201 (fun u => (u.1 = 20 ∨ u.1 = 21 ∨ u.1 = 22) ∧ u.2.1 = r) := by rw [ead_200, eM_201]; exact hfr.au (by simp)
  refine lv_dup S.1 S.2.1 dX4_init_69 rfl ?_
  refine hm_uIN (As := []) (rest := [.ref q_199, .int 6, .ref q_5]) (st1 := [.ref q_199, .int 6, .ref q_5]) S hE hG (c_X0_init l g ad_200 M_201 (22, r, 6) q_199 a_219 h_218) hb_66 hb_29 (List.mem_of_getElem? (i := 4) rfl) hb_65 rfl hd_X0_init ⟨Nat.le_of_ble_eq_true rfl, Nat.le_of_ble_eq_true rfl⟩ rfl hl.1 rfl (Nat.le_of_ble_eq_true rfl) dX4_init_70 ⟨Nat.le_of_ble_eq_true rfl, Nat.le_of_ble_eq_true rfl⟩ rfl (fun H locs hG => ?_)
  obtain ⟨M_221, eM_221⟩ : ∃ q9, q9 = hm_up M_201 (22, r, 6) (alE (0, -1, 0)) := ⟨_, rfl⟩
  rw [← eM_221] at hG
  have h_222 : M_221 (20, r, 0) = some (.inr (5, [.int (nI r), .int v1, .int (nI lo), .int (nI w), .int (nI wa), .int 0, .int 0, .int 0, .int 0, .ref q_5])) := by rw [eM_221]; exact (hm_up_n (by simp)).trans h_202
  have h_223 : M_221 (21, r, 0) = some (hm_ra g 2 12 (va_up (va_up (va_up (va_up (va_up (va_up (fun _ => none) 0 (some q_31)) 1 (some q_49)) 2 (some q_71)) 3 (some q_97)) 4 (some q_127)) 5 (some q_161))) := by rw [eM_221]; exact (hm_up_n (by simp)).trans h_204
  have h_224 : M_221 (22, r, 0) = some (alE (0, -1, 0)) := by rw [eM_221]; exact (hm_up_n (by simp)).trans h_206
  have h_225 : M_221 (22, r, 1) = some (alE (0, -1, 0)) := by rw [eM_221]; exact (hm_up_n (by simp)).trans h_208
  have h_226 : M_221 (22, r, 2) = some (alE (0, -1, 0)) := by rw [eM_221]; exact (hm_up_n (by simp)).trans h_210
  have h_227 : M_221 (22, r, 3) = some (alE (0, -1, 0)) := by rw [eM_221]; exact (hm_up_n (by simp)).trans h_212
  have h_228 : M_221 (22, r, 4) = some (alE (0, -1, 0)) := by rw [eM_221]; exact (hm_up_n (by simp)).trans h_214
  have h_229 : M_221 (22, r, 5) = some (alE (0, -1, 0)) := by rw [eM_221]; exact (hm_up_n (by simp)).trans h_216
  have h_230 : M_221 (22, r, 6) = some (alE (0, -1, 0)) := by rw [eM_221]; exact hm_up_s
  have hfr : hm_fr ad M ad_200 M_221 (fun u => (u.1 = 20 ∨ u.1 = 21 ∨ u.1 = 22) ∧ u.2.1 = r) := by rw [eM_221]; exact hfr.up (by simp)
  refine hm_astq2 (j := 6) S hE hG h_223 a_205 rfl h_230 a_219 rfl (by unfold vp_in; decide) (by decide) dX4_init_73 (fun H locs hG => ?_)
  obtain ⟨M_231, eM_231⟩ : ∃ q9, q9 = hm_up M_221 (21, r, 0) (hm_ra g 2 12 (va_up (va_up (va_up (va_up (va_up (va_up (va_up (fun _ => none) 0 (some q_31)) 1 (some q_49)) 2 (some q_71)) 3 (some q_97)) 4 (some q_127)) 5 (some q_161)) 6 (some q_199))) := ⟨_, rfl⟩
  rw [← eM_231] at hG
  have h_232 : M_231 (20, r, 0) = some (.inr (5, [.int (nI r), .int v1, .int (nI lo), .int (nI w), .int (nI wa), .int 0, .int 0, .int 0, .int 0, .ref q_5])) := by rw [eM_231]; exact (hm_up_n (by simp)).trans h_222
  have h_233 : M_231 (21, r, 0) = some (hm_ra g 2 12 (va_up (va_up (va_up (va_up (va_up (va_up (va_up (fun _ => none) 0 (some q_31)) 1 (some q_49)) 2 (some q_71)) 3 (some q_97)) 4 (some q_127)) 5 (some q_161)) 6 (some q_199))) := by rw [eM_231]; exact hm_up_s
  have h_234 : M_231 (22, r, 0) = some (alE (0, -1, 0)) := by rw [eM_231]; exact (hm_up_n (by simp)).trans h_224
  have h_235 : M_231 (22, r, 1) = some (alE (0, -1, 0)) := by rw [eM_231]; exact (hm_up_n (by simp)).trans h_225
  have h_236 : M_231 (22, r, 2) = some (alE (0, -1, 0)) := by rw [eM_231]; exact (hm_up_n (by simp)).trans h_226
  have h_237 : M_231 (22, r, 3) = some (alE (0, -1, 0)) := by rw [eM_231]; exact (hm_up_n (by simp)).trans h_227
  have h_238 : M_231 (22, r, 4) = some (alE (0, -1, 0)) := by rw [eM_231]; exact (hm_up_n (by simp)).trans h_228
  have h_239 : M_231 (22, r, 5) = some (alE (0, -1, 0)) := by rw [eM_231]; exact (hm_up_n (by simp)).trans h_229
  have h_240 : M_231 (22, r, 6) = some (alE (0, -1, 0)) := by rw [eM_231]; exact (hm_up_n (by simp)).trans h_230
  have hfr : hm_fr ad M ad_200 M_231 (fun u => (u.1 = 20 ∨ u.1 = 21 ∨ u.1 = 22) ∧ u.2.1 = r) := by rw [eM_231]; exact hfr.up (by simp)
  refine lv_iinc (v := 7) (lv' := [(6, .int 7), (0, .ref a), (1, .int (nI r)), (2, .int v1), (3, .int (nI lo)), (4, .int (nI w)), (5, .int (nI wa))]) S.1 S.2.1 dX4_init_74 hl (k := 0) rfl (by decide) (by decide) rfl (fun ls hl => ?_)
  refine lv_goto (tgt := 53) S.1 S.2.1 dX4_init_77 (by decide) ?_
  refine lv_iload S.1 S.2.1 dX4_init_53 (lv_at hl 0 rfl) ?_
  refine lv_bipush (v := 12) S.1 S.2.1 dX4_init_55 (by decide) ?_
  refine lv_icmp_ge (tgt := 80) S.1 S.2.1 dX4_init_57 (by decide) (fun h9 => absurd h9 (by decide)) (fun _ => ?_)
  refine lv_aload_n S.1 S.2.1 dX4_init_60 rfl (lv_at hl 1 rfl) ?_
  refine hm_get (k := 9) S hE hG h_232 a_203 rfl hi_X40 (by decide) hb_189 rfl rfl dX4_init_61 ?_
  refine lv_iload S.1 S.2.1 dX4_init_64 (lv_at hl 0 rfl) ?_
  refine hm_new (ci := 1) (fs := [.int 0, .int 0, .int 0]) S hE hG (22, r, 7) rfl hi_X00 tyX0_ok hb_188 hb_28 hb_29 (by decide) (Nat.le_of_ble_eq_true rfl) (Nat.le_of_ble_eq_true rfl) dX4_init_66 (fun q_241 H hG => ?_)
  obtain ⟨ad_242, ead_242⟩ : ∃ q9, q9 = hm_au ad_200 (22, r, 7) q_241 := ⟨_, rfl⟩
  obtain ⟨M_243, eM_243⟩ : ∃ q9, q9 = hm_up M_231 (22, r, 7) (.inr (1, [.int 0, .int 0, .int 0])) := ⟨_, rfl⟩
  rw [← ead_242, ← eM_243] at hG
  have h_244 : M_243 (20, r, 0) = some (.inr (5, [.int (nI r), .int v1, .int (nI lo), .int (nI w), .int (nI wa), .int 0, .int 0, .int 0, .int 0, .ref q_5])) := by rw [eM_243]; exact (hm_up_n (by simp)).trans h_232
  have a_245 : ad_242 (20, r, 0) = a := by rw [ead_242]; exact (hm_au_n (by simp)).trans a_203
  have h_246 : M_243 (21, r, 0) = some (hm_ra g 2 12 (va_up (va_up (va_up (va_up (va_up (va_up (va_up (fun _ => none) 0 (some q_31)) 1 (some q_49)) 2 (some q_71)) 3 (some q_97)) 4 (some q_127)) 5 (some q_161)) 6 (some q_199))) := by rw [eM_243]; exact (hm_up_n (by simp)).trans h_233
  have a_247 : ad_242 (21, r, 0) = q_5 := by rw [ead_242]; exact (hm_au_n (by simp)).trans a_205
  have h_248 : M_243 (22, r, 0) = some (alE (0, -1, 0)) := by rw [eM_243]; exact (hm_up_n (by simp)).trans h_234
  have a_249 : ad_242 (22, r, 0) = q_31 := by rw [ead_242]; exact (hm_au_n (by simp)).trans a_207
  have h_250 : M_243 (22, r, 1) = some (alE (0, -1, 0)) := by rw [eM_243]; exact (hm_up_n (by simp)).trans h_235
  have a_251 : ad_242 (22, r, 1) = q_49 := by rw [ead_242]; exact (hm_au_n (by simp)).trans a_209
  have h_252 : M_243 (22, r, 2) = some (alE (0, -1, 0)) := by rw [eM_243]; exact (hm_up_n (by simp)).trans h_236
  have a_253 : ad_242 (22, r, 2) = q_71 := by rw [ead_242]; exact (hm_au_n (by simp)).trans a_211
  have h_254 : M_243 (22, r, 3) = some (alE (0, -1, 0)) := by rw [eM_243]; exact (hm_up_n (by simp)).trans h_237
  have a_255 : ad_242 (22, r, 3) = q_97 := by rw [ead_242]; exact (hm_au_n (by simp)).trans a_213
  have h_256 : M_243 (22, r, 4) = some (alE (0, -1, 0)) := by rw [eM_243]; exact (hm_up_n (by simp)).trans h_238
  have a_257 : ad_242 (22, r, 4) = q_127 := by rw [ead_242]; exact (hm_au_n (by simp)).trans a_215
  have h_258 : M_243 (22, r, 5) = some (alE (0, -1, 0)) := by rw [eM_243]; exact (hm_up_n (by simp)).trans h_239
  have a_259 : ad_242 (22, r, 5) = q_161 := by rw [ead_242]; exact (hm_au_n (by simp)).trans a_217
  have h_260 : M_243 (22, r, 6) = some (alE (0, -1, 0)) := by rw [eM_243]; exact (hm_up_n (by simp)).trans h_240
  have a_261 : ad_242 (22, r, 6) = q_199 := by rw [ead_242]; exact (hm_au_n (by simp)).trans a_219
  have h_262 : M_243 (22, r, 7) = some (.inr (1, [.int 0, .int 0, .int 0])) := by rw [eM_243]; exact hm_up_s
  have a_263 : ad_242 (22, r, 7) = q_241 := by rw [ead_242]; exact hm_au_s
  have hfr : hm_fr ad M ad_242 M_243 (fun u => (u.1 = 20 ∨ u.1 = 21 ∨ u.1 = 22) ∧ u.2.1 = r) := by rw [ead_242, eM_243]; exact hfr.au (by simp)
  refine lv_dup S.1 S.2.1 dX4_init_69 rfl ?_
  refine hm_uIN (As := []) (rest := [.ref q_241, .int 7, .ref q_5]) (st1 := [.ref q_241, .int 7, .ref q_5]) S hE hG (c_X0_init l g ad_242 M_243 (22, r, 7) q_241 a_263 h_262) hb_66 hb_29 (List.mem_of_getElem? (i := 4) rfl) hb_65 rfl hd_X0_init ⟨Nat.le_of_ble_eq_true rfl, Nat.le_of_ble_eq_true rfl⟩ rfl hl.1 rfl (Nat.le_of_ble_eq_true rfl) dX4_init_70 ⟨Nat.le_of_ble_eq_true rfl, Nat.le_of_ble_eq_true rfl⟩ rfl (fun H locs hG => ?_)
  obtain ⟨M_265, eM_265⟩ : ∃ q9, q9 = hm_up M_243 (22, r, 7) (alE (0, -1, 0)) := ⟨_, rfl⟩
  rw [← eM_265] at hG
  have h_266 : M_265 (20, r, 0) = some (.inr (5, [.int (nI r), .int v1, .int (nI lo), .int (nI w), .int (nI wa), .int 0, .int 0, .int 0, .int 0, .ref q_5])) := by rw [eM_265]; exact (hm_up_n (by simp)).trans h_244
  have h_267 : M_265 (21, r, 0) = some (hm_ra g 2 12 (va_up (va_up (va_up (va_up (va_up (va_up (va_up (fun _ => none) 0 (some q_31)) 1 (some q_49)) 2 (some q_71)) 3 (some q_97)) 4 (some q_127)) 5 (some q_161)) 6 (some q_199))) := by rw [eM_265]; exact (hm_up_n (by simp)).trans h_246
  have h_268 : M_265 (22, r, 0) = some (alE (0, -1, 0)) := by rw [eM_265]; exact (hm_up_n (by simp)).trans h_248
  have h_269 : M_265 (22, r, 1) = some (alE (0, -1, 0)) := by rw [eM_265]; exact (hm_up_n (by simp)).trans h_250
  have h_270 : M_265 (22, r, 2) = some (alE (0, -1, 0)) := by rw [eM_265]; exact (hm_up_n (by simp)).trans h_252
  have h_271 : M_265 (22, r, 3) = some (alE (0, -1, 0)) := by rw [eM_265]; exact (hm_up_n (by simp)).trans h_254
  have h_272 : M_265 (22, r, 4) = some (alE (0, -1, 0)) := by rw [eM_265]; exact (hm_up_n (by simp)).trans h_256
  have h_273 : M_265 (22, r, 5) = some (alE (0, -1, 0)) := by rw [eM_265]; exact (hm_up_n (by simp)).trans h_258
  have h_274 : M_265 (22, r, 6) = some (alE (0, -1, 0)) := by rw [eM_265]; exact (hm_up_n (by simp)).trans h_260
  have h_275 : M_265 (22, r, 7) = some (alE (0, -1, 0)) := by rw [eM_265]; exact hm_up_s
  have hfr : hm_fr ad M ad_242 M_265 (fun u => (u.1 = 20 ∨ u.1 = 21 ∨ u.1 = 22) ∧ u.2.1 = r) := by rw [eM_265]; exact hfr.up (by simp)
  refine hm_astq2 (j := 7) S hE hG h_267 a_247 rfl h_275 a_263 rfl (by unfold vp_in; decide) (by decide) dX4_init_73 (fun H locs hG => ?_)
  obtain ⟨M_276, eM_276⟩ : ∃ q9, q9 = hm_up M_265 (21, r, 0) (hm_ra g 2 12 (va_up (va_up (va_up (va_up (va_up (va_up (va_up (va_up (fun _ => none) 0 (some q_31)) 1 (some q_49)) 2 (some q_71)) 3 (some q_97)) 4 (some q_127)) 5 (some q_161)) 6 (some q_199)) 7 (some q_241))) := ⟨_, rfl⟩
  rw [← eM_276] at hG
  have h_277 : M_276 (20, r, 0) = some (.inr (5, [.int (nI r), .int v1, .int (nI lo), .int (nI w), .int (nI wa), .int 0, .int 0, .int 0, .int 0, .ref q_5])) := by rw [eM_276]; exact (hm_up_n (by simp)).trans h_266
  have h_278 : M_276 (21, r, 0) = some (hm_ra g 2 12 (va_up (va_up (va_up (va_up (va_up (va_up (va_up (va_up (fun _ => none) 0 (some q_31)) 1 (some q_49)) 2 (some q_71)) 3 (some q_97)) 4 (some q_127)) 5 (some q_161)) 6 (some q_199)) 7 (some q_241))) := by rw [eM_276]; exact hm_up_s
  have h_279 : M_276 (22, r, 0) = some (alE (0, -1, 0)) := by rw [eM_276]; exact (hm_up_n (by simp)).trans h_268
  have h_280 : M_276 (22, r, 1) = some (alE (0, -1, 0)) := by rw [eM_276]; exact (hm_up_n (by simp)).trans h_269
  have h_281 : M_276 (22, r, 2) = some (alE (0, -1, 0)) := by rw [eM_276]; exact (hm_up_n (by simp)).trans h_270
  have h_282 : M_276 (22, r, 3) = some (alE (0, -1, 0)) := by rw [eM_276]; exact (hm_up_n (by simp)).trans h_271
  have h_283 : M_276 (22, r, 4) = some (alE (0, -1, 0)) := by rw [eM_276]; exact (hm_up_n (by simp)).trans h_272
  have h_284 : M_276 (22, r, 5) = some (alE (0, -1, 0)) := by rw [eM_276]; exact (hm_up_n (by simp)).trans h_273
  have h_285 : M_276 (22, r, 6) = some (alE (0, -1, 0)) := by rw [eM_276]; exact (hm_up_n (by simp)).trans h_274
  have h_286 : M_276 (22, r, 7) = some (alE (0, -1, 0)) := by rw [eM_276]; exact (hm_up_n (by simp)).trans h_275
  have hfr : hm_fr ad M ad_242 M_276 (fun u => (u.1 = 20 ∨ u.1 = 21 ∨ u.1 = 22) ∧ u.2.1 = r) := by rw [eM_276]; exact hfr.up (by simp)
  refine lv_iinc (v := 8) (lv' := [(6, .int 8), (0, .ref a), (1, .int (nI r)), (2, .int v1), (3, .int (nI lo)), (4, .int (nI w)), (5, .int (nI wa))]) S.1 S.2.1 dX4_init_74 hl (k := 0) rfl (by decide) (by decide) rfl (fun ls hl => ?_)
  refine lv_goto (tgt := 53) S.1 S.2.1 dX4_init_77 (by decide) ?_
  refine lv_iload S.1 S.2.1 dX4_init_53 (lv_at hl 0 rfl) ?_
  refine lv_bipush (v := 12) S.1 S.2.1 dX4_init_55 (by decide) ?_
  refine lv_icmp_ge (tgt := 80) S.1 S.2.1 dX4_init_57 (by decide) (fun h9 => absurd h9 (by decide)) (fun _ => ?_)
  refine lv_aload_n S.1 S.2.1 dX4_init_60 rfl (lv_at hl 1 rfl) ?_
  refine hm_get (k := 9) S hE hG h_277 a_245 rfl hi_X40 (by decide) hb_189 rfl rfl dX4_init_61 ?_
  refine lv_iload S.1 S.2.1 dX4_init_64 (lv_at hl 0 rfl) ?_
  refine hm_new (ci := 1) (fs := [.int 0, .int 0, .int 0]) S hE hG (22, r, 8) rfl hi_X00 tyX0_ok hb_188 hb_28 hb_29 (by decide) (Nat.le_of_ble_eq_true rfl) (Nat.le_of_ble_eq_true rfl) dX4_init_66 (fun q_287 H hG => ?_)
  obtain ⟨ad_288, ead_288⟩ : ∃ q9, q9 = hm_au ad_242 (22, r, 8) q_287 := ⟨_, rfl⟩
  obtain ⟨M_289, eM_289⟩ : ∃ q9, q9 = hm_up M_276 (22, r, 8) (.inr (1, [.int 0, .int 0, .int 0])) := ⟨_, rfl⟩
  rw [← ead_288, ← eM_289] at hG
  have h_290 : M_289 (20, r, 0) = some (.inr (5, [.int (nI r), .int v1, .int (nI lo), .int (nI w), .int (nI wa), .int 0, .int 0, .int 0, .int 0, .ref q_5])) := by rw [eM_289]; exact (hm_up_n (by simp)).trans h_277
  have a_291 : ad_288 (20, r, 0) = a := by rw [ead_288]; exact (hm_au_n (by simp)).trans a_245
  have h_292 : M_289 (21, r, 0) = some (hm_ra g 2 12 (va_up (va_up (va_up (va_up (va_up (va_up (va_up (va_up (fun _ => none) 0 (some q_31)) 1 (some q_49)) 2 (some q_71)) 3 (some q_97)) 4 (some q_127)) 5 (some q_161)) 6 (some q_199)) 7 (some q_241))) := by rw [eM_289]; exact (hm_up_n (by simp)).trans h_278
  have a_293 : ad_288 (21, r, 0) = q_5 := by rw [ead_288]; exact (hm_au_n (by simp)).trans a_247
  have h_294 : M_289 (22, r, 0) = some (alE (0, -1, 0)) := by rw [eM_289]; exact (hm_up_n (by simp)).trans h_279
  have a_295 : ad_288 (22, r, 0) = q_31 := by rw [ead_288]; exact (hm_au_n (by simp)).trans a_249
  have h_296 : M_289 (22, r, 1) = some (alE (0, -1, 0)) := by rw [eM_289]; exact (hm_up_n (by simp)).trans h_280
  have a_297 : ad_288 (22, r, 1) = q_49 := by rw [ead_288]; exact (hm_au_n (by simp)).trans a_251
  have h_298 : M_289 (22, r, 2) = some (alE (0, -1, 0)) := by rw [eM_289]; exact (hm_up_n (by simp)).trans h_281
  have a_299 : ad_288 (22, r, 2) = q_71 := by rw [ead_288]; exact (hm_au_n (by simp)).trans a_253
  have h_300 : M_289 (22, r, 3) = some (alE (0, -1, 0)) := by rw [eM_289]; exact (hm_up_n (by simp)).trans h_282
  have a_301 : ad_288 (22, r, 3) = q_97 := by rw [ead_288]; exact (hm_au_n (by simp)).trans a_255
  have h_302 : M_289 (22, r, 4) = some (alE (0, -1, 0)) := by rw [eM_289]; exact (hm_up_n (by simp)).trans h_283
  have a_303 : ad_288 (22, r, 4) = q_127 := by rw [ead_288]; exact (hm_au_n (by simp)).trans a_257
  have h_304 : M_289 (22, r, 5) = some (alE (0, -1, 0)) := by rw [eM_289]; exact (hm_up_n (by simp)).trans h_284
  have a_305 : ad_288 (22, r, 5) = q_161 := by rw [ead_288]; exact (hm_au_n (by simp)).trans a_259
  have h_306 : M_289 (22, r, 6) = some (alE (0, -1, 0)) := by rw [eM_289]; exact (hm_up_n (by simp)).trans h_285
  have a_307 : ad_288 (22, r, 6) = q_199 := by rw [ead_288]; exact (hm_au_n (by simp)).trans a_261
  have h_308 : M_289 (22, r, 7) = some (alE (0, -1, 0)) := by rw [eM_289]; exact (hm_up_n (by simp)).trans h_286
  have a_309 : ad_288 (22, r, 7) = q_241 := by rw [ead_288]; exact (hm_au_n (by simp)).trans a_263
  have h_310 : M_289 (22, r, 8) = some (.inr (1, [.int 0, .int 0, .int 0])) := by rw [eM_289]; exact hm_up_s
  have a_311 : ad_288 (22, r, 8) = q_287 := by rw [ead_288]; exact hm_au_s
  have hfr : hm_fr ad M ad_288 M_289 (fun u => (u.1 = 20 ∨ u.1 = 21 ∨ u.1 = 22) ∧ u.2.1 = r) := by rw [ead_288, eM_289]; exact hfr.au (by simp)
  refine lv_dup S.1 S.2.1 dX4_init_69 rfl ?_
  refine hm_uIN (As := []) (rest := [.ref q_287, .int 8, .ref q_5]) (st1 := [.ref q_287, .int 8, .ref q_5]) S hE hG (c_X0_init l g ad_288 M_289 (22, r, 8) q_287 a_311 h_310) hb_66 hb_29 (List.mem_of_getElem? (i := 4) rfl) hb_65 rfl hd_X0_init ⟨Nat.le_of_ble_eq_true rfl, Nat.le_of_ble_eq_true rfl⟩ rfl hl.1 rfl (Nat.le_of_ble_eq_true rfl) dX4_init_70 ⟨Nat.le_of_ble_eq_true rfl, Nat.le_of_ble_eq_true rfl⟩ rfl (fun H locs hG => ?_)
  obtain ⟨M_313, eM_313⟩ : ∃ q9, q9 = hm_up M_289 (22, r, 8) (alE (0, -1, 0)) := ⟨_, rfl⟩
  rw [← eM_313] at hG
  have h_314 : M_313 (20, r, 0) = some (.inr (5, [.int (nI r), .int v1, .int (nI lo), .int (nI w), .int (nI wa), .int 0, .int 0, .int 0, .int 0, .ref q_5])) := by rw [eM_313]; exact (hm_up_n (by simp)).trans h_290
  have h_315 : M_313 (21, r, 0) = some (hm_ra g 2 12 (va_up (va_up (va_up (va_up (va_up (va_up (va_up (va_up (fun _ => none) 0 (some q_31)) 1 (some q_49)) 2 (some q_71)) 3 (some q_97)) 4 (some q_127)) 5 (some q_161)) 6 (some q_199)) 7 (some q_241))) := by rw [eM_313]; exact (hm_up_n (by simp)).trans h_292
  have h_316 : M_313 (22, r, 0) = some (alE (0, -1, 0)) := by rw [eM_313]; exact (hm_up_n (by simp)).trans h_294
  have h_317 : M_313 (22, r, 1) = some (alE (0, -1, 0)) := by rw [eM_313]; exact (hm_up_n (by simp)).trans h_296
  have h_318 : M_313 (22, r, 2) = some (alE (0, -1, 0)) := by rw [eM_313]; exact (hm_up_n (by simp)).trans h_298
  have h_319 : M_313 (22, r, 3) = some (alE (0, -1, 0)) := by rw [eM_313]; exact (hm_up_n (by simp)).trans h_300
  have h_320 : M_313 (22, r, 4) = some (alE (0, -1, 0)) := by rw [eM_313]; exact (hm_up_n (by simp)).trans h_302
  have h_321 : M_313 (22, r, 5) = some (alE (0, -1, 0)) := by rw [eM_313]; exact (hm_up_n (by simp)).trans h_304
  have h_322 : M_313 (22, r, 6) = some (alE (0, -1, 0)) := by rw [eM_313]; exact (hm_up_n (by simp)).trans h_306
  have h_323 : M_313 (22, r, 7) = some (alE (0, -1, 0)) := by rw [eM_313]; exact (hm_up_n (by simp)).trans h_308
  have h_324 : M_313 (22, r, 8) = some (alE (0, -1, 0)) := by rw [eM_313]; exact hm_up_s
  have hfr : hm_fr ad M ad_288 M_313 (fun u => (u.1 = 20 ∨ u.1 = 21 ∨ u.1 = 22) ∧ u.2.1 = r) := by rw [eM_313]; exact hfr.up (by simp)
  refine hm_astq2 (j := 8) S hE hG h_315 a_293 rfl h_324 a_311 rfl (by unfold vp_in; decide) (by decide) dX4_init_73 (fun H locs hG => ?_)
  obtain ⟨M_325, eM_325⟩ : ∃ q9, q9 = hm_up M_313 (21, r, 0) (hm_ra g 2 12 (va_up (va_up (va_up (va_up (va_up (va_up (va_up (va_up (va_up (fun _ => none) 0 (some q_31)) 1 (some q_49)) 2 (some q_71)) 3 (some q_97)) 4 (some q_127)) 5 (some q_161)) 6 (some q_199)) 7 (some q_241)) 8 (some q_287))) := ⟨_, rfl⟩
  rw [← eM_325] at hG
  have h_326 : M_325 (20, r, 0) = some (.inr (5, [.int (nI r), .int v1, .int (nI lo), .int (nI w), .int (nI wa), .int 0, .int 0, .int 0, .int 0, .ref q_5])) := by rw [eM_325]; exact (hm_up_n (by simp)).trans h_314
  have h_327 : M_325 (21, r, 0) = some (hm_ra g 2 12 (va_up (va_up (va_up (va_up (va_up (va_up (va_up (va_up (va_up (fun _ => none) 0 (some q_31)) 1 (some q_49)) 2 (some q_71)) 3 (some q_97)) 4 (some q_127)) 5 (some q_161)) 6 (some q_199)) 7 (some q_241)) 8 (some q_287))) := by rw [eM_325]; exact hm_up_s
  have h_328 : M_325 (22, r, 0) = some (alE (0, -1, 0)) := by rw [eM_325]; exact (hm_up_n (by simp)).trans h_316
  have h_329 : M_325 (22, r, 1) = some (alE (0, -1, 0)) := by rw [eM_325]; exact (hm_up_n (by simp)).trans h_317
  have h_330 : M_325 (22, r, 2) = some (alE (0, -1, 0)) := by rw [eM_325]; exact (hm_up_n (by simp)).trans h_318
  have h_331 : M_325 (22, r, 3) = some (alE (0, -1, 0)) := by rw [eM_325]; exact (hm_up_n (by simp)).trans h_319
  have h_332 : M_325 (22, r, 4) = some (alE (0, -1, 0)) := by rw [eM_325]; exact (hm_up_n (by simp)).trans h_320
  have h_333 : M_325 (22, r, 5) = some (alE (0, -1, 0)) := by rw [eM_325]; exact (hm_up_n (by simp)).trans h_321
  have h_334 : M_325 (22, r, 6) = some (alE (0, -1, 0)) := by rw [eM_325]; exact (hm_up_n (by simp)).trans h_322
  have h_335 : M_325 (22, r, 7) = some (alE (0, -1, 0)) := by rw [eM_325]; exact (hm_up_n (by simp)).trans h_323
  have h_336 : M_325 (22, r, 8) = some (alE (0, -1, 0)) := by rw [eM_325]; exact (hm_up_n (by simp)).trans h_324
  have hfr : hm_fr ad M ad_288 M_325 (fun u => (u.1 = 20 ∨ u.1 = 21 ∨ u.1 = 22) ∧ u.2.1 = r) := by rw [eM_325]; exact hfr.up (by simp)
  refine lv_iinc (v := 9) (lv' := [(6, .int 9), (0, .ref a), (1, .int (nI r)), (2, .int v1), (3, .int (nI lo)), (4, .int (nI w)), (5, .int (nI wa))]) S.1 S.2.1 dX4_init_74 hl (k := 0) rfl (by decide) (by decide) rfl (fun ls hl => ?_)
  refine lv_goto (tgt := 53) S.1 S.2.1 dX4_init_77 (by decide) ?_
  refine lv_iload S.1 S.2.1 dX4_init_53 (lv_at hl 0 rfl) ?_
  refine lv_bipush (v := 12) S.1 S.2.1 dX4_init_55 (by decide) ?_
  refine lv_icmp_ge (tgt := 80) S.1 S.2.1 dX4_init_57 (by decide) (fun h9 => absurd h9 (by decide)) (fun _ => ?_)
  refine lv_aload_n S.1 S.2.1 dX4_init_60 rfl (lv_at hl 1 rfl) ?_
  refine hm_get (k := 9) S hE hG h_326 a_291 rfl hi_X40 (by decide) hb_189 rfl rfl dX4_init_61 ?_
  refine lv_iload S.1 S.2.1 dX4_init_64 (lv_at hl 0 rfl) ?_
  refine hm_new (ci := 1) (fs := [.int 0, .int 0, .int 0]) S hE hG (22, r, 9) rfl hi_X00 tyX0_ok hb_188 hb_28 hb_29 (by decide) (Nat.le_of_ble_eq_true rfl) (Nat.le_of_ble_eq_true rfl) dX4_init_66 (fun q_337 H hG => ?_)
  obtain ⟨ad_338, ead_338⟩ : ∃ q9, q9 = hm_au ad_288 (22, r, 9) q_337 := ⟨_, rfl⟩
  obtain ⟨M_339, eM_339⟩ : ∃ q9, q9 = hm_up M_325 (22, r, 9) (.inr (1, [.int 0, .int 0, .int 0])) := ⟨_, rfl⟩
  rw [← ead_338, ← eM_339] at hG
  have h_340 : M_339 (20, r, 0) = some (.inr (5, [.int (nI r), .int v1, .int (nI lo), .int (nI w), .int (nI wa), .int 0, .int 0, .int 0, .int 0, .ref q_5])) := by rw [eM_339]; exact (hm_up_n (by simp)).trans h_326
  have a_341 : ad_338 (20, r, 0) = a := by rw [ead_338]; exact (hm_au_n (by simp)).trans a_291
  have h_342 : M_339 (21, r, 0) = some (hm_ra g 2 12 (va_up (va_up (va_up (va_up (va_up (va_up (va_up (va_up (va_up (fun _ => none) 0 (some q_31)) 1 (some q_49)) 2 (some q_71)) 3 (some q_97)) 4 (some q_127)) 5 (some q_161)) 6 (some q_199)) 7 (some q_241)) 8 (some q_287))) := by rw [eM_339]; exact (hm_up_n (by simp)).trans h_327
  have a_343 : ad_338 (21, r, 0) = q_5 := by rw [ead_338]; exact (hm_au_n (by simp)).trans a_293
  have h_344 : M_339 (22, r, 0) = some (alE (0, -1, 0)) := by rw [eM_339]; exact (hm_up_n (by simp)).trans h_328
  have a_345 : ad_338 (22, r, 0) = q_31 := by rw [ead_338]; exact (hm_au_n (by simp)).trans a_295
  have h_346 : M_339 (22, r, 1) = some (alE (0, -1, 0)) := by rw [eM_339]; exact (hm_up_n (by simp)).trans h_329
  have a_347 : ad_338 (22, r, 1) = q_49 := by rw [ead_338]; exact (hm_au_n (by simp)).trans a_297
  have h_348 : M_339 (22, r, 2) = some (alE (0, -1, 0)) := by rw [eM_339]; exact (hm_up_n (by simp)).trans h_330
  have a_349 : ad_338 (22, r, 2) = q_71 := by rw [ead_338]; exact (hm_au_n (by simp)).trans a_299
  have h_350 : M_339 (22, r, 3) = some (alE (0, -1, 0)) := by rw [eM_339]; exact (hm_up_n (by simp)).trans h_331
  have a_351 : ad_338 (22, r, 3) = q_97 := by rw [ead_338]; exact (hm_au_n (by simp)).trans a_301
  have h_352 : M_339 (22, r, 4) = some (alE (0, -1, 0)) := by rw [eM_339]; exact (hm_up_n (by simp)).trans h_332
  have a_353 : ad_338 (22, r, 4) = q_127 := by rw [ead_338]; exact (hm_au_n (by simp)).trans a_303
  have h_354 : M_339 (22, r, 5) = some (alE (0, -1, 0)) := by rw [eM_339]; exact (hm_up_n (by simp)).trans h_333
  have a_355 : ad_338 (22, r, 5) = q_161 := by rw [ead_338]; exact (hm_au_n (by simp)).trans a_305
  have h_356 : M_339 (22, r, 6) = some (alE (0, -1, 0)) := by rw [eM_339]; exact (hm_up_n (by simp)).trans h_334
  have a_357 : ad_338 (22, r, 6) = q_199 := by rw [ead_338]; exact (hm_au_n (by simp)).trans a_307
  have h_358 : M_339 (22, r, 7) = some (alE (0, -1, 0)) := by rw [eM_339]; exact (hm_up_n (by simp)).trans h_335
  have a_359 : ad_338 (22, r, 7) = q_241 := by rw [ead_338]; exact (hm_au_n (by simp)).trans a_309
  have h_360 : M_339 (22, r, 8) = some (alE (0, -1, 0)) := by rw [eM_339]; exact (hm_up_n (by simp)).trans h_336
  have a_361 : ad_338 (22, r, 8) = q_287 := by rw [ead_338]; exact (hm_au_n (by simp)).trans a_311
  have h_362 : M_339 (22, r, 9) = some (.inr (1, [.int 0, .int 0, .int 0])) := by rw [eM_339]; exact hm_up_s
  have a_363 : ad_338 (22, r, 9) = q_337 := by rw [ead_338]; exact hm_au_s
  have hfr : hm_fr ad M ad_338 M_339 (fun u => (u.1 = 20 ∨ u.1 = 21 ∨ u.1 = 22) ∧ u.2.1 = r) := by rw [ead_338, eM_339]; exact hfr.au (by simp)
  refine lv_dup S.1 S.2.1 dX4_init_69 rfl ?_
  refine hm_uIN (As := []) (rest := [.ref q_337, .int 9, .ref q_5]) (st1 := [.ref q_337, .int 9, .ref q_5]) S hE hG (c_X0_init l g ad_338 M_339 (22, r, 9) q_337 a_363 h_362) hb_66 hb_29 (List.mem_of_getElem? (i := 4) rfl) hb_65 rfl hd_X0_init ⟨Nat.le_of_ble_eq_true rfl, Nat.le_of_ble_eq_true rfl⟩ rfl hl.1 rfl (Nat.le_of_ble_eq_true rfl) dX4_init_70 ⟨Nat.le_of_ble_eq_true rfl, Nat.le_of_ble_eq_true rfl⟩ rfl (fun H locs hG => ?_)
  obtain ⟨M_365, eM_365⟩ : ∃ q9, q9 = hm_up M_339 (22, r, 9) (alE (0, -1, 0)) := ⟨_, rfl⟩
  rw [← eM_365] at hG
  have h_366 : M_365 (20, r, 0) = some (.inr (5, [.int (nI r), .int v1, .int (nI lo), .int (nI w), .int (nI wa), .int 0, .int 0, .int 0, .int 0, .ref q_5])) := by rw [eM_365]; exact (hm_up_n (by simp)).trans h_340
  have h_367 : M_365 (21, r, 0) = some (hm_ra g 2 12 (va_up (va_up (va_up (va_up (va_up (va_up (va_up (va_up (va_up (fun _ => none) 0 (some q_31)) 1 (some q_49)) 2 (some q_71)) 3 (some q_97)) 4 (some q_127)) 5 (some q_161)) 6 (some q_199)) 7 (some q_241)) 8 (some q_287))) := by rw [eM_365]; exact (hm_up_n (by simp)).trans h_342
  have h_368 : M_365 (22, r, 0) = some (alE (0, -1, 0)) := by rw [eM_365]; exact (hm_up_n (by simp)).trans h_344
  have h_369 : M_365 (22, r, 1) = some (alE (0, -1, 0)) := by rw [eM_365]; exact (hm_up_n (by simp)).trans h_346
  have h_370 : M_365 (22, r, 2) = some (alE (0, -1, 0)) := by rw [eM_365]; exact (hm_up_n (by simp)).trans h_348
  have h_371 : M_365 (22, r, 3) = some (alE (0, -1, 0)) := by rw [eM_365]; exact (hm_up_n (by simp)).trans h_350
  have h_372 : M_365 (22, r, 4) = some (alE (0, -1, 0)) := by rw [eM_365]; exact (hm_up_n (by simp)).trans h_352
  have h_373 : M_365 (22, r, 5) = some (alE (0, -1, 0)) := by rw [eM_365]; exact (hm_up_n (by simp)).trans h_354
  have h_374 : M_365 (22, r, 6) = some (alE (0, -1, 0)) := by rw [eM_365]; exact (hm_up_n (by simp)).trans h_356
  have h_375 : M_365 (22, r, 7) = some (alE (0, -1, 0)) := by rw [eM_365]; exact (hm_up_n (by simp)).trans h_358
  have h_376 : M_365 (22, r, 8) = some (alE (0, -1, 0)) := by rw [eM_365]; exact (hm_up_n (by simp)).trans h_360
  have h_377 : M_365 (22, r, 9) = some (alE (0, -1, 0)) := by rw [eM_365]; exact hm_up_s
  have hfr : hm_fr ad M ad_338 M_365 (fun u => (u.1 = 20 ∨ u.1 = 21 ∨ u.1 = 22) ∧ u.2.1 = r) := by rw [eM_365]; exact hfr.up (by simp)
  refine hm_astq2 (j := 9) S hE hG h_367 a_343 rfl h_377 a_363 rfl (by unfold vp_in; decide) (by decide) dX4_init_73 (fun H locs hG => ?_)
  obtain ⟨M_378, eM_378⟩ : ∃ q9, q9 = hm_up M_365 (21, r, 0) (hm_ra g 2 12 (va_up (va_up (va_up (va_up (va_up (va_up (va_up (va_up (va_up (va_up (fun _ => none) 0 (some q_31)) 1 (some q_49)) 2 (some q_71)) 3 (some q_97)) 4 (some q_127)) 5 (some q_161)) 6 (some q_199)) 7 (some q_241)) 8 (some q_287)) 9 (some q_337))) := ⟨_, rfl⟩
  rw [← eM_378] at hG
  have h_379 : M_378 (20, r, 0) = some (.inr (5, [.int (nI r), .int v1, .int (nI lo), .int (nI w), .int (nI wa), .int 0, .int 0, .int 0, .int 0, .ref q_5])) := by rw [eM_378]; exact (hm_up_n (by simp)).trans h_366
  have h_380 : M_378 (21, r, 0) = some (hm_ra g 2 12 (va_up (va_up (va_up (va_up (va_up (va_up (va_up (va_up (va_up (va_up (fun _ => none) 0 (some q_31)) 1 (some q_49)) 2 (some q_71)) 3 (some q_97)) 4 (some q_127)) 5 (some q_161)) 6 (some q_199)) 7 (some q_241)) 8 (some q_287)) 9 (some q_337))) := by rw [eM_378]; exact hm_up_s
  have h_381 : M_378 (22, r, 0) = some (alE (0, -1, 0)) := by rw [eM_378]; exact (hm_up_n (by simp)).trans h_368
  have h_382 : M_378 (22, r, 1) = some (alE (0, -1, 0)) := by rw [eM_378]; exact (hm_up_n (by simp)).trans h_369
  have h_383 : M_378 (22, r, 2) = some (alE (0, -1, 0)) := by rw [eM_378]; exact (hm_up_n (by simp)).trans h_370
  have h_384 : M_378 (22, r, 3) = some (alE (0, -1, 0)) := by rw [eM_378]; exact (hm_up_n (by simp)).trans h_371
  have h_385 : M_378 (22, r, 4) = some (alE (0, -1, 0)) := by rw [eM_378]; exact (hm_up_n (by simp)).trans h_372
  have h_386 : M_378 (22, r, 5) = some (alE (0, -1, 0)) := by rw [eM_378]; exact (hm_up_n (by simp)).trans h_373
  have h_387 : M_378 (22, r, 6) = some (alE (0, -1, 0)) := by rw [eM_378]; exact (hm_up_n (by simp)).trans h_374
  have h_388 : M_378 (22, r, 7) = some (alE (0, -1, 0)) := by rw [eM_378]; exact (hm_up_n (by simp)).trans h_375
  have h_389 : M_378 (22, r, 8) = some (alE (0, -1, 0)) := by rw [eM_378]; exact (hm_up_n (by simp)).trans h_376
  have h_390 : M_378 (22, r, 9) = some (alE (0, -1, 0)) := by rw [eM_378]; exact (hm_up_n (by simp)).trans h_377
  have hfr : hm_fr ad M ad_338 M_378 (fun u => (u.1 = 20 ∨ u.1 = 21 ∨ u.1 = 22) ∧ u.2.1 = r) := by rw [eM_378]; exact hfr.up (by simp)
  refine lv_iinc (v := 10) (lv' := [(6, .int 10), (0, .ref a), (1, .int (nI r)), (2, .int v1), (3, .int (nI lo)), (4, .int (nI w)), (5, .int (nI wa))]) S.1 S.2.1 dX4_init_74 hl (k := 0) rfl (by decide) (by decide) rfl (fun ls hl => ?_)
  refine lv_goto (tgt := 53) S.1 S.2.1 dX4_init_77 (by decide) ?_
  refine lv_iload S.1 S.2.1 dX4_init_53 (lv_at hl 0 rfl) ?_
  refine lv_bipush (v := 12) S.1 S.2.1 dX4_init_55 (by decide) ?_
  refine lv_icmp_ge (tgt := 80) S.1 S.2.1 dX4_init_57 (by decide) (fun h9 => absurd h9 (by decide)) (fun _ => ?_)
  refine lv_aload_n S.1 S.2.1 dX4_init_60 rfl (lv_at hl 1 rfl) ?_
  refine hm_get (k := 9) S hE hG h_379 a_341 rfl hi_X40 (by decide) hb_189 rfl rfl dX4_init_61 ?_
  refine lv_iload S.1 S.2.1 dX4_init_64 (lv_at hl 0 rfl) ?_
  refine hm_new (ci := 1) (fs := [.int 0, .int 0, .int 0]) S hE hG (22, r, 10) rfl hi_X00 tyX0_ok hb_188 hb_28 hb_29 (by decide) (Nat.le_of_ble_eq_true rfl) (Nat.le_of_ble_eq_true rfl) dX4_init_66 (fun q_391 H hG => ?_)
  obtain ⟨ad_392, ead_392⟩ : ∃ q9, q9 = hm_au ad_338 (22, r, 10) q_391 := ⟨_, rfl⟩
  obtain ⟨M_393, eM_393⟩ : ∃ q9, q9 = hm_up M_378 (22, r, 10) (.inr (1, [.int 0, .int 0, .int 0])) := ⟨_, rfl⟩
  rw [← ead_392, ← eM_393] at hG
  have h_394 : M_393 (20, r, 0) = some (.inr (5, [.int (nI r), .int v1, .int (nI lo), .int (nI w), .int (nI wa), .int 0, .int 0, .int 0, .int 0, .ref q_5])) := by rw [eM_393]; exact (hm_up_n (by simp)).trans h_379
  have a_395 : ad_392 (20, r, 0) = a := by rw [ead_392]; exact (hm_au_n (by simp)).trans a_341
  have h_396 : M_393 (21, r, 0) = some (hm_ra g 2 12 (va_up (va_up (va_up (va_up (va_up (va_up (va_up (va_up (va_up (va_up (fun _ => none) 0 (some q_31)) 1 (some q_49)) 2 (some q_71)) 3 (some q_97)) 4 (some q_127)) 5 (some q_161)) 6 (some q_199)) 7 (some q_241)) 8 (some q_287)) 9 (some q_337))) := by rw [eM_393]; exact (hm_up_n (by simp)).trans h_380
  have a_397 : ad_392 (21, r, 0) = q_5 := by rw [ead_392]; exact (hm_au_n (by simp)).trans a_343
  have h_398 : M_393 (22, r, 0) = some (alE (0, -1, 0)) := by rw [eM_393]; exact (hm_up_n (by simp)).trans h_381
  have a_399 : ad_392 (22, r, 0) = q_31 := by rw [ead_392]; exact (hm_au_n (by simp)).trans a_345
  have h_400 : M_393 (22, r, 1) = some (alE (0, -1, 0)) := by rw [eM_393]; exact (hm_up_n (by simp)).trans h_382
  have a_401 : ad_392 (22, r, 1) = q_49 := by rw [ead_392]; exact (hm_au_n (by simp)).trans a_347
  have h_402 : M_393 (22, r, 2) = some (alE (0, -1, 0)) := by rw [eM_393]; exact (hm_up_n (by simp)).trans h_383
  have a_403 : ad_392 (22, r, 2) = q_71 := by rw [ead_392]; exact (hm_au_n (by simp)).trans a_349
  have h_404 : M_393 (22, r, 3) = some (alE (0, -1, 0)) := by rw [eM_393]; exact (hm_up_n (by simp)).trans h_384
  have a_405 : ad_392 (22, r, 3) = q_97 := by rw [ead_392]; exact (hm_au_n (by simp)).trans a_351
  have h_406 : M_393 (22, r, 4) = some (alE (0, -1, 0)) := by rw [eM_393]; exact (hm_up_n (by simp)).trans h_385
  have a_407 : ad_392 (22, r, 4) = q_127 := by rw [ead_392]; exact (hm_au_n (by simp)).trans a_353
  have h_408 : M_393 (22, r, 5) = some (alE (0, -1, 0)) := by rw [eM_393]; exact (hm_up_n (by simp)).trans h_386
  have a_409 : ad_392 (22, r, 5) = q_161 := by rw [ead_392]; exact (hm_au_n (by simp)).trans a_355
  have h_410 : M_393 (22, r, 6) = some (alE (0, -1, 0)) := by rw [eM_393]; exact (hm_up_n (by simp)).trans h_387
  have a_411 : ad_392 (22, r, 6) = q_199 := by rw [ead_392]; exact (hm_au_n (by simp)).trans a_357
  have h_412 : M_393 (22, r, 7) = some (alE (0, -1, 0)) := by rw [eM_393]; exact (hm_up_n (by simp)).trans h_388
  have a_413 : ad_392 (22, r, 7) = q_241 := by rw [ead_392]; exact (hm_au_n (by simp)).trans a_359
  have h_414 : M_393 (22, r, 8) = some (alE (0, -1, 0)) := by rw [eM_393]; exact (hm_up_n (by simp)).trans h_389
  have a_415 : ad_392 (22, r, 8) = q_287 := by rw [ead_392]; exact (hm_au_n (by simp)).trans a_361
  have h_416 : M_393 (22, r, 9) = some (alE (0, -1, 0)) := by rw [eM_393]; exact (hm_up_n (by simp)).trans h_390
  have a_417 : ad_392 (22, r, 9) = q_337 := by rw [ead_392]; exact (hm_au_n (by simp)).trans a_363
  have h_418 : M_393 (22, r, 10) = some (.inr (1, [.int 0, .int 0, .int 0])) := by rw [eM_393]; exact hm_up_s
  have a_419 : ad_392 (22, r, 10) = q_391 := by rw [ead_392]; exact hm_au_s
  have hfr : hm_fr ad M ad_392 M_393 (fun u => (u.1 = 20 ∨ u.1 = 21 ∨ u.1 = 22) ∧ u.2.1 = r) := by rw [ead_392, eM_393]; exact hfr.au (by simp)
  refine lv_dup S.1 S.2.1 dX4_init_69 rfl ?_
  refine hm_uIN (As := []) (rest := [.ref q_391, .int 10, .ref q_5]) (st1 := [.ref q_391, .int 10, .ref q_5]) S hE hG (c_X0_init l g ad_392 M_393 (22, r, 10) q_391 a_419 h_418) hb_66 hb_29 (List.mem_of_getElem? (i := 4) rfl) hb_65 rfl hd_X0_init ⟨Nat.le_of_ble_eq_true rfl, Nat.le_of_ble_eq_true rfl⟩ rfl hl.1 rfl (Nat.le_of_ble_eq_true rfl) dX4_init_70 ⟨Nat.le_of_ble_eq_true rfl, Nat.le_of_ble_eq_true rfl⟩ rfl (fun H locs hG => ?_)
  obtain ⟨M_421, eM_421⟩ : ∃ q9, q9 = hm_up M_393 (22, r, 10) (alE (0, -1, 0)) := ⟨_, rfl⟩
  rw [← eM_421] at hG
  have h_422 : M_421 (20, r, 0) = some (.inr (5, [.int (nI r), .int v1, .int (nI lo), .int (nI w), .int (nI wa), .int 0, .int 0, .int 0, .int 0, .ref q_5])) := by rw [eM_421]; exact (hm_up_n (by simp)).trans h_394
  have h_423 : M_421 (21, r, 0) = some (hm_ra g 2 12 (va_up (va_up (va_up (va_up (va_up (va_up (va_up (va_up (va_up (va_up (fun _ => none) 0 (some q_31)) 1 (some q_49)) 2 (some q_71)) 3 (some q_97)) 4 (some q_127)) 5 (some q_161)) 6 (some q_199)) 7 (some q_241)) 8 (some q_287)) 9 (some q_337))) := by rw [eM_421]; exact (hm_up_n (by simp)).trans h_396
  have h_424 : M_421 (22, r, 0) = some (alE (0, -1, 0)) := by rw [eM_421]; exact (hm_up_n (by simp)).trans h_398
  have h_425 : M_421 (22, r, 1) = some (alE (0, -1, 0)) := by rw [eM_421]; exact (hm_up_n (by simp)).trans h_400
  have h_426 : M_421 (22, r, 2) = some (alE (0, -1, 0)) := by rw [eM_421]; exact (hm_up_n (by simp)).trans h_402
  have h_427 : M_421 (22, r, 3) = some (alE (0, -1, 0)) := by rw [eM_421]; exact (hm_up_n (by simp)).trans h_404
  have h_428 : M_421 (22, r, 4) = some (alE (0, -1, 0)) := by rw [eM_421]; exact (hm_up_n (by simp)).trans h_406
  have h_429 : M_421 (22, r, 5) = some (alE (0, -1, 0)) := by rw [eM_421]; exact (hm_up_n (by simp)).trans h_408
  have h_430 : M_421 (22, r, 6) = some (alE (0, -1, 0)) := by rw [eM_421]; exact (hm_up_n (by simp)).trans h_410
  have h_431 : M_421 (22, r, 7) = some (alE (0, -1, 0)) := by rw [eM_421]; exact (hm_up_n (by simp)).trans h_412
  have h_432 : M_421 (22, r, 8) = some (alE (0, -1, 0)) := by rw [eM_421]; exact (hm_up_n (by simp)).trans h_414
  have h_433 : M_421 (22, r, 9) = some (alE (0, -1, 0)) := by rw [eM_421]; exact (hm_up_n (by simp)).trans h_416
  have h_434 : M_421 (22, r, 10) = some (alE (0, -1, 0)) := by rw [eM_421]; exact hm_up_s
  have hfr : hm_fr ad M ad_392 M_421 (fun u => (u.1 = 20 ∨ u.1 = 21 ∨ u.1 = 22) ∧ u.2.1 = r) := by rw [eM_421]; exact hfr.up (by simp)
  refine hm_astq2 (j := 10) S hE hG h_423 a_397 rfl h_434 a_419 rfl (by unfold vp_in; decide) (by decide) dX4_init_73 (fun H locs hG => ?_)
  obtain ⟨M_435, eM_435⟩ : ∃ q9, q9 = hm_up M_421 (21, r, 0) (hm_ra g 2 12 (va_up (va_up (va_up (va_up (va_up (va_up (va_up (va_up (va_up (va_up (va_up (fun _ => none) 0 (some q_31)) 1 (some q_49)) 2 (some q_71)) 3 (some q_97)) 4 (some q_127)) 5 (some q_161)) 6 (some q_199)) 7 (some q_241)) 8 (some q_287)) 9 (some q_337)) 10 (some q_391))) := ⟨_, rfl⟩
  rw [← eM_435] at hG
  have h_436 : M_435 (20, r, 0) = some (.inr (5, [.int (nI r), .int v1, .int (nI lo), .int (nI w), .int (nI wa), .int 0, .int 0, .int 0, .int 0, .ref q_5])) := by rw [eM_435]; exact (hm_up_n (by simp)).trans h_422
  have h_437 : M_435 (21, r, 0) = some (hm_ra g 2 12 (va_up (va_up (va_up (va_up (va_up (va_up (va_up (va_up (va_up (va_up (va_up (fun _ => none) 0 (some q_31)) 1 (some q_49)) 2 (some q_71)) 3 (some q_97)) 4 (some q_127)) 5 (some q_161)) 6 (some q_199)) 7 (some q_241)) 8 (some q_287)) 9 (some q_337)) 10 (some q_391))) := by rw [eM_435]; exact hm_up_s
  have h_438 : M_435 (22, r, 0) = some (alE (0, -1, 0)) := by rw [eM_435]; exact (hm_up_n (by simp)).trans h_424
  have h_439 : M_435 (22, r, 1) = some (alE (0, -1, 0)) := by rw [eM_435]; exact (hm_up_n (by simp)).trans h_425
  have h_440 : M_435 (22, r, 2) = some (alE (0, -1, 0)) := by rw [eM_435]; exact (hm_up_n (by simp)).trans h_426
  have h_441 : M_435 (22, r, 3) = some (alE (0, -1, 0)) := by rw [eM_435]; exact (hm_up_n (by simp)).trans h_427
  have h_442 : M_435 (22, r, 4) = some (alE (0, -1, 0)) := by rw [eM_435]; exact (hm_up_n (by simp)).trans h_428
  have h_443 : M_435 (22, r, 5) = some (alE (0, -1, 0)) := by rw [eM_435]; exact (hm_up_n (by simp)).trans h_429
  have h_444 : M_435 (22, r, 6) = some (alE (0, -1, 0)) := by rw [eM_435]; exact (hm_up_n (by simp)).trans h_430
  have h_445 : M_435 (22, r, 7) = some (alE (0, -1, 0)) := by rw [eM_435]; exact (hm_up_n (by simp)).trans h_431
  have h_446 : M_435 (22, r, 8) = some (alE (0, -1, 0)) := by rw [eM_435]; exact (hm_up_n (by simp)).trans h_432
  have h_447 : M_435 (22, r, 9) = some (alE (0, -1, 0)) := by rw [eM_435]; exact (hm_up_n (by simp)).trans h_433
  have h_448 : M_435 (22, r, 10) = some (alE (0, -1, 0)) := by rw [eM_435]; exact (hm_up_n (by simp)).trans h_434
  have hfr : hm_fr ad M ad_392 M_435 (fun u => (u.1 = 20 ∨ u.1 = 21 ∨ u.1 = 22) ∧ u.2.1 = r) := by rw [eM_435]; exact hfr.up (by simp)
  refine lv_iinc (v := 11) (lv' := [(6, .int 11), (0, .ref a), (1, .int (nI r)), (2, .int v1), (3, .int (nI lo)), (4, .int (nI w)), (5, .int (nI wa))]) S.1 S.2.1 dX4_init_74 hl (k := 0) rfl (by decide) (by decide) rfl (fun ls hl => ?_)
  refine lv_goto (tgt := 53) S.1 S.2.1 dX4_init_77 (by decide) ?_
  refine lv_iload S.1 S.2.1 dX4_init_53 (lv_at hl 0 rfl) ?_
  refine lv_bipush (v := 12) S.1 S.2.1 dX4_init_55 (by decide) ?_
  refine lv_icmp_ge (tgt := 80) S.1 S.2.1 dX4_init_57 (by decide) (fun h9 => absurd h9 (by decide)) (fun _ => ?_)
  refine lv_aload_n S.1 S.2.1 dX4_init_60 rfl (lv_at hl 1 rfl) ?_
  refine hm_get (k := 9) S hE hG h_436 a_395 rfl hi_X40 (by decide) hb_189 rfl rfl dX4_init_61 ?_
  refine lv_iload S.1 S.2.1 dX4_init_64 (lv_at hl 0 rfl) ?_
  refine hm_new (ci := 1) (fs := [.int 0, .int 0, .int 0]) S hE hG (22, r, 11) rfl hi_X00 tyX0_ok hb_188 hb_28 hb_29 (by decide) (Nat.le_of_ble_eq_true rfl) (Nat.le_of_ble_eq_true rfl) dX4_init_66 (fun q_449 H hG => ?_)
  obtain ⟨ad_450, ead_450⟩ : ∃ q9, q9 = hm_au ad_392 (22, r, 11) q_449 := ⟨_, rfl⟩
  obtain ⟨M_451, eM_451⟩ : ∃ q9, q9 = hm_up M_435 (22, r, 11) (.inr (1, [.int 0, .int 0, .int 0])) := ⟨_, rfl⟩
  rw [← ead_450, ← eM_451] at hG
  have h_452 : M_451 (20, r, 0) = some (.inr (5, [.int (nI r), .int v1, .int (nI lo), .int (nI w), .int (nI wa), .int 0, .int 0, .int 0, .int 0, .ref q_5])) := by rw [eM_451]; exact (hm_up_n (by simp)).trans h_436
  have a_453 : ad_450 (20, r, 0) = a := by rw [ead_450]; exact (hm_au_n (by simp)).trans a_395
  have h_454 : M_451 (21, r, 0) = some (hm_ra g 2 12 (va_up (va_up (va_up (va_up (va_up (va_up (va_up (va_up (va_up (va_up (va_up (fun _ => none) 0 (some q_31)) 1 (some q_49)) 2 (some q_71)) 3 (some q_97)) 4 (some q_127)) 5 (some q_161)) 6 (some q_199)) 7 (some q_241)) 8 (some q_287)) 9 (some q_337)) 10 (some q_391))) := by rw [eM_451]; exact (hm_up_n (by simp)).trans h_437
  have a_455 : ad_450 (21, r, 0) = q_5 := by rw [ead_450]; exact (hm_au_n (by simp)).trans a_397
  have h_456 : M_451 (22, r, 0) = some (alE (0, -1, 0)) := by rw [eM_451]; exact (hm_up_n (by simp)).trans h_438
  have a_457 : ad_450 (22, r, 0) = q_31 := by rw [ead_450]; exact (hm_au_n (by simp)).trans a_399
  have h_458 : M_451 (22, r, 1) = some (alE (0, -1, 0)) := by rw [eM_451]; exact (hm_up_n (by simp)).trans h_439
  have a_459 : ad_450 (22, r, 1) = q_49 := by rw [ead_450]; exact (hm_au_n (by simp)).trans a_401
  have h_460 : M_451 (22, r, 2) = some (alE (0, -1, 0)) := by rw [eM_451]; exact (hm_up_n (by simp)).trans h_440
  have a_461 : ad_450 (22, r, 2) = q_71 := by rw [ead_450]; exact (hm_au_n (by simp)).trans a_403
  have h_462 : M_451 (22, r, 3) = some (alE (0, -1, 0)) := by rw [eM_451]; exact (hm_up_n (by simp)).trans h_441
  have a_463 : ad_450 (22, r, 3) = q_97 := by rw [ead_450]; exact (hm_au_n (by simp)).trans a_405
  have h_464 : M_451 (22, r, 4) = some (alE (0, -1, 0)) := by rw [eM_451]; exact (hm_up_n (by simp)).trans h_442
  have a_465 : ad_450 (22, r, 4) = q_127 := by rw [ead_450]; exact (hm_au_n (by simp)).trans a_407
  have h_466 : M_451 (22, r, 5) = some (alE (0, -1, 0)) := by rw [eM_451]; exact (hm_up_n (by simp)).trans h_443
  have a_467 : ad_450 (22, r, 5) = q_161 := by rw [ead_450]; exact (hm_au_n (by simp)).trans a_409
  have h_468 : M_451 (22, r, 6) = some (alE (0, -1, 0)) := by rw [eM_451]; exact (hm_up_n (by simp)).trans h_444
  have a_469 : ad_450 (22, r, 6) = q_199 := by rw [ead_450]; exact (hm_au_n (by simp)).trans a_411
  have h_470 : M_451 (22, r, 7) = some (alE (0, -1, 0)) := by rw [eM_451]; exact (hm_up_n (by simp)).trans h_445
  have a_471 : ad_450 (22, r, 7) = q_241 := by rw [ead_450]; exact (hm_au_n (by simp)).trans a_413
  have h_472 : M_451 (22, r, 8) = some (alE (0, -1, 0)) := by rw [eM_451]; exact (hm_up_n (by simp)).trans h_446
  have a_473 : ad_450 (22, r, 8) = q_287 := by rw [ead_450]; exact (hm_au_n (by simp)).trans a_415
  have h_474 : M_451 (22, r, 9) = some (alE (0, -1, 0)) := by rw [eM_451]; exact (hm_up_n (by simp)).trans h_447
  have a_475 : ad_450 (22, r, 9) = q_337 := by rw [ead_450]; exact (hm_au_n (by simp)).trans a_417
  have h_476 : M_451 (22, r, 10) = some (alE (0, -1, 0)) := by rw [eM_451]; exact (hm_up_n (by simp)).trans h_448
  have a_477 : ad_450 (22, r, 10) = q_391 := by rw [ead_450]; exact (hm_au_n (by simp)).trans a_419
  have h_478 : M_451 (22, r, 11) = some (.inr (1, [.int 0, .int 0, .int 0])) := by rw [eM_451]; exact hm_up_s
  have a_479 : ad_450 (22, r, 11) = q_449 := by rw [ead_450]; exact hm_au_s
  have hfr : hm_fr ad M ad_450 M_451 (fun u => (u.1 = 20 ∨ u.1 = 21 ∨ u.1 = 22) ∧ u.2.1 = r) := by rw [ead_450, eM_451]; exact hfr.au (by simp)
  refine lv_dup S.1 S.2.1 dX4_init_69 rfl ?_
  refine hm_uIN (As := []) (rest := [.ref q_449, .int 11, .ref q_5]) (st1 := [.ref q_449, .int 11, .ref q_5]) S hE hG (c_X0_init l g ad_450 M_451 (22, r, 11) q_449 a_479 h_478) hb_66 hb_29 (List.mem_of_getElem? (i := 4) rfl) hb_65 rfl hd_X0_init ⟨Nat.le_of_ble_eq_true rfl, Nat.le_of_ble_eq_true rfl⟩ rfl hl.1 rfl (Nat.le_of_ble_eq_true rfl) dX4_init_70 ⟨Nat.le_of_ble_eq_true rfl, Nat.le_of_ble_eq_true rfl⟩ rfl (fun H locs hG => ?_)
  obtain ⟨M_481, eM_481⟩ : ∃ q9, q9 = hm_up M_451 (22, r, 11) (alE (0, -1, 0)) := ⟨_, rfl⟩
  rw [← eM_481] at hG
  have h_482 : M_481 (20, r, 0) = some (.inr (5, [.int (nI r), .int v1, .int (nI lo), .int (nI w), .int (nI wa), .int 0, .int 0, .int 0, .int 0, .ref q_5])) := by rw [eM_481]; exact (hm_up_n (by simp)).trans h_452
  have h_483 : M_481 (21, r, 0) = some (hm_ra g 2 12 (va_up (va_up (va_up (va_up (va_up (va_up (va_up (va_up (va_up (va_up (va_up (fun _ => none) 0 (some q_31)) 1 (some q_49)) 2 (some q_71)) 3 (some q_97)) 4 (some q_127)) 5 (some q_161)) 6 (some q_199)) 7 (some q_241)) 8 (some q_287)) 9 (some q_337)) 10 (some q_391))) := by rw [eM_481]; exact (hm_up_n (by simp)).trans h_454
  have h_484 : M_481 (22, r, 0) = some (alE (0, -1, 0)) := by rw [eM_481]; exact (hm_up_n (by simp)).trans h_456
  have h_485 : M_481 (22, r, 1) = some (alE (0, -1, 0)) := by rw [eM_481]; exact (hm_up_n (by simp)).trans h_458
  have h_486 : M_481 (22, r, 2) = some (alE (0, -1, 0)) := by rw [eM_481]; exact (hm_up_n (by simp)).trans h_460
  have h_487 : M_481 (22, r, 3) = some (alE (0, -1, 0)) := by rw [eM_481]; exact (hm_up_n (by simp)).trans h_462
  have h_488 : M_481 (22, r, 4) = some (alE (0, -1, 0)) := by rw [eM_481]; exact (hm_up_n (by simp)).trans h_464
  have h_489 : M_481 (22, r, 5) = some (alE (0, -1, 0)) := by rw [eM_481]; exact (hm_up_n (by simp)).trans h_466
  have h_490 : M_481 (22, r, 6) = some (alE (0, -1, 0)) := by rw [eM_481]; exact (hm_up_n (by simp)).trans h_468
  have h_491 : M_481 (22, r, 7) = some (alE (0, -1, 0)) := by rw [eM_481]; exact (hm_up_n (by simp)).trans h_470
  have h_492 : M_481 (22, r, 8) = some (alE (0, -1, 0)) := by rw [eM_481]; exact (hm_up_n (by simp)).trans h_472
  have h_493 : M_481 (22, r, 9) = some (alE (0, -1, 0)) := by rw [eM_481]; exact (hm_up_n (by simp)).trans h_474
  have h_494 : M_481 (22, r, 10) = some (alE (0, -1, 0)) := by rw [eM_481]; exact (hm_up_n (by simp)).trans h_476
  have h_495 : M_481 (22, r, 11) = some (alE (0, -1, 0)) := by rw [eM_481]; exact hm_up_s
  have hfr : hm_fr ad M ad_450 M_481 (fun u => (u.1 = 20 ∨ u.1 = 21 ∨ u.1 = 22) ∧ u.2.1 = r) := by rw [eM_481]; exact hfr.up (by simp)
  refine hm_astq2 (j := 11) S hE hG h_483 a_455 rfl h_495 a_479 rfl (by unfold vp_in; decide) (by decide) dX4_init_73 (fun H locs hG => ?_)
  obtain ⟨M_496, eM_496⟩ : ∃ q9, q9 = hm_up M_481 (21, r, 0) (hm_ra g 2 12 (va_up (va_up (va_up (va_up (va_up (va_up (va_up (va_up (va_up (va_up (va_up (va_up (fun _ => none) 0 (some q_31)) 1 (some q_49)) 2 (some q_71)) 3 (some q_97)) 4 (some q_127)) 5 (some q_161)) 6 (some q_199)) 7 (some q_241)) 8 (some q_287)) 9 (some q_337)) 10 (some q_391)) 11 (some q_449))) := ⟨_, rfl⟩
  rw [← eM_496] at hG
  have h_497 : M_496 (20, r, 0) = some (.inr (5, [.int (nI r), .int v1, .int (nI lo), .int (nI w), .int (nI wa), .int 0, .int 0, .int 0, .int 0, .ref q_5])) := by rw [eM_496]; exact (hm_up_n (by simp)).trans h_482
  have h_498 : M_496 (21, r, 0) = some (hm_ra g 2 12 (va_up (va_up (va_up (va_up (va_up (va_up (va_up (va_up (va_up (va_up (va_up (va_up (fun _ => none) 0 (some q_31)) 1 (some q_49)) 2 (some q_71)) 3 (some q_97)) 4 (some q_127)) 5 (some q_161)) 6 (some q_199)) 7 (some q_241)) 8 (some q_287)) 9 (some q_337)) 10 (some q_391)) 11 (some q_449))) := by rw [eM_496]; exact hm_up_s
  have h_499 : M_496 (22, r, 0) = some (alE (0, -1, 0)) := by rw [eM_496]; exact (hm_up_n (by simp)).trans h_484
  have h_500 : M_496 (22, r, 1) = some (alE (0, -1, 0)) := by rw [eM_496]; exact (hm_up_n (by simp)).trans h_485
  have h_501 : M_496 (22, r, 2) = some (alE (0, -1, 0)) := by rw [eM_496]; exact (hm_up_n (by simp)).trans h_486
  have h_502 : M_496 (22, r, 3) = some (alE (0, -1, 0)) := by rw [eM_496]; exact (hm_up_n (by simp)).trans h_487
  have h_503 : M_496 (22, r, 4) = some (alE (0, -1, 0)) := by rw [eM_496]; exact (hm_up_n (by simp)).trans h_488
  have h_504 : M_496 (22, r, 5) = some (alE (0, -1, 0)) := by rw [eM_496]; exact (hm_up_n (by simp)).trans h_489
  have h_505 : M_496 (22, r, 6) = some (alE (0, -1, 0)) := by rw [eM_496]; exact (hm_up_n (by simp)).trans h_490
  have h_506 : M_496 (22, r, 7) = some (alE (0, -1, 0)) := by rw [eM_496]; exact (hm_up_n (by simp)).trans h_491
  have h_507 : M_496 (22, r, 8) = some (alE (0, -1, 0)) := by rw [eM_496]; exact (hm_up_n (by simp)).trans h_492
  have h_508 : M_496 (22, r, 9) = some (alE (0, -1, 0)) := by rw [eM_496]; exact (hm_up_n (by simp)).trans h_493
  have h_509 : M_496 (22, r, 10) = some (alE (0, -1, 0)) := by rw [eM_496]; exact (hm_up_n (by simp)).trans h_494
  have h_510 : M_496 (22, r, 11) = some (alE (0, -1, 0)) := by rw [eM_496]; exact (hm_up_n (by simp)).trans h_495
  have hfr : hm_fr ad M ad_450 M_496 (fun u => (u.1 = 20 ∨ u.1 = 21 ∨ u.1 = 22) ∧ u.2.1 = r) := by rw [eM_496]; exact hfr.up (by simp)
  refine lv_iinc (v := 12) (lv' := [(6, .int 12), (0, .ref a), (1, .int (nI r)), (2, .int v1), (3, .int (nI lo)), (4, .int (nI w)), (5, .int (nI wa))]) S.1 S.2.1 dX4_init_74 hl (k := 0) rfl (by decide) (by decide) rfl (fun ls hl => ?_)
  refine lv_goto (tgt := 53) S.1 S.2.1 dX4_init_77 (by decide) ?_
  refine lv_iload S.1 S.2.1 dX4_init_53 (lv_at hl 0 rfl) ?_
  refine lv_bipush (v := 12) S.1 S.2.1 dX4_init_55 (by decide) ?_
  refine lv_icmp_ge (tgt := 80) S.1 S.2.1 dX4_init_57 (by decide) (fun _ => ?_) (fun h9 => absurd (by decide) h9)
  have hrows : va_up (va_up (va_up (va_up (va_up (va_up (va_up (va_up (va_up (va_up (va_up (va_up (fun _ => none) 0 (some q_31)) 1 (some q_49)) 2 (some q_71)) 3 (some q_97)) 4 (some q_127)) 5 (some q_161)) 6 (some q_199)) 7 (some q_241)) 8 (some q_287)) 9 (some q_337)) 10 (some q_391)) 11 (some q_449) = alsA ad_450 r := by
    funext j
    by_cases hj : j < 12
    · have h9 : j = 0 ∨ j = 1 ∨ j = 2 ∨ j = 3 ∨ j = 4 ∨ j = 5 ∨ j = 6 ∨ j = 7 ∨ j = 8 ∨ j = 9 ∨ j = 10 ∨ j = 11 := by omega
      rcases h9 with rfl | rfl | rfl | rfl | rfl | rfl | rfl | rfl | rfl | rfl | rfl | rfl <;> simp [va_up, alsA, a_457, a_459, a_461, a_463, a_465, a_467, a_469, a_471, a_473, a_475, a_477, a_479]
    · simp only [alsA, if_neg hj]
      simp [va_up, show ¬ j = 0 by omega, show ¬ j = 1 by omega, show ¬ j = 2 by omega, show ¬ j = 3 by omega, show ¬ j = 4 by omega, show ¬ j = 5 by omega, show ¬ j = 6 by omega, show ¬ j = 7 by omega, show ¬ j = 8 by omega, show ¬ j = 9 by omega, show ¬ j = 10 by omega, show ¬ j = 11 by omega]
  have hals : ∀ k, k < 12 → M_496 (22, r, k) = some (alE (0, -1, 0)) := by
    intro k hk
    have h9 : k = 0 ∨ k = 1 ∨ k = 2 ∨ k = 3 ∨ k = 4 ∨ k = 5 ∨ k = 6 ∨ k = 7 ∨ k = 8 ∨ k = 9 ∨ k = 10 ∨ k = 11 := by omega
    rcases h9 with rfl | rfl | rfl | rfl | rfl | rfl | rfl | rfl | rfl | rfl | rfl | rfl
    · exact h_499
    · exact h_500
    · exact h_501
    · exact h_502
    · exact h_503
    · exact h_504
    · exact h_505
    · exact h_506
    · exact h_507
    · exact h_508
    · exact h_509
    · exact h_510
  exact hm_vret S hG hr hlk (⟨rfl, ⟨by rw [h_497, ← a_455]; rfl, by rw [h_498, hrows], hals, hr6, hlo, hw, hwa⟩, a_453, hfr⟩) (Nat.le_of_ble_eq_true rfl) (Nat.le_of_ble_eq_true rfl) dX4_init_80

abbrev rm_Jx4a65c_grow_92f84 : Room := { frames := 1, cells := 1, slots := 10, locals := 14 }
set_option maxHeartbeats 4000000 in
set_option maxRecDepth 100000 in
theorem c_Jx4a65c_grow_92f84 (l : Launch) (g : GV) (ad : AD) (M : CT) (t tq : TG) (hne : tq ≠ t) (mc : Int32) (h1 : M t = some (liE mc (hm_b g 1) 0)) : hm_Met l yJx4a65c_grow_92f84 cJx4a65c_grow_92f84 4 (some (.array (.object "java/lang/Object"))) rm_Jx4a65c_grow_92f84 g ad M [.ref (ad t), .int 1] (fun v ad1 M1 => ∃ q, v = some (.ref q) ∧ ad1 tq = q ∧ M1 tq = some (hm_ra g 3 10 (fun _ => none)) ∧ M1 t = some (liE mc q 0) ∧ ad1 t = ad t ∧ hm_fr ad M ad1 M1 (fun u => u = t ∨ u = tq)) := by
  refine hm_start (own := RJx4a65c) (by decide) rfl (Nat.le_of_ble_eq_true rfl) ?_
  intro p e s m args below meth c S hr hlk hnm hE hG ls hl
  have hl : lv_has ls 4 [(0, .ref (ad t)), (1, .int 1)] := hl
  have hfr : hm_fr ad M ad M (fun u => u = t ∨ u = tq) := hm_fr.rf
  refine lv_aload_n S.1 S.2.1 dJx4a65c_grow_92f84_0 rfl (lv_at hl 0 rfl) ?_
  refine hm_get (k := 1) S hE hG h1 rfl rfl hi_Jx4a65c0 (by decide) hb_38 rfl rfl dJx4a65c_grow_92f84_1 ?_
  refine hm_tlen (v := 0) S hG hE.2.2.1.1.2 rfl dJx4a65c_grow_92f84_4 ?_
  refine lv_istore_n (lv' := [(2, .int 0), (0, .ref (ad t)), (1, .int 1)]) S.1 S.2.1 dJx4a65c_grow_92f84_5 rfl hl (by decide) rfl (fun ls hl => ?_)
  refine lv_iload_n S.1 S.2.1 dJx4a65c_grow_92f84_6 rfl (lv_at hl 0 rfl) ?_
  refine lv_if_gt (tgt := 20) S.1 S.2.1 dJx4a65c_grow_92f84_7 (by decide) (fun h9 => absurd h9 (by decide)) (fun _ => ?_)
  refine lv_aload_n S.1 S.2.1 dJx4a65c_grow_92f84_10 rfl (lv_at hl 1 rfl) ?_
  refine hm_get (k := 1) S hE hG h1 rfl rfl hi_Jx4a65c0 (by decide) hb_38 rfl rfl dJx4a65c_grow_92f84_11 ?_
  refine hm_gets S hG hE.2.2.1.1.1 hb_37 dJx4a65c_grow_92f84_14 ?_
  refine lv_acmp_eq (rx := some (hm_b g 1)) (ry := some (hm_b g 1)) (tgt := 45) S.1 S.2.1 dJx4a65c_grow_92f84_17 (by decide) (fun _ => ?_) (fun h9 => absurd rfl h9)
  refine lv_aload_n S.1 S.2.1 dJx4a65c_grow_92f84_45 rfl (lv_at hl 1 rfl) ?_
  refine lv_bipush (v := 10) S.1 S.2.1 dJx4a65c_grow_92f84_46 (by decide) ?_
  refine lv_iload_n S.1 S.2.1 dJx4a65c_grow_92f84_48 rfl (lv_at hl 2 rfl) ?_
  refine hm_max (z := 10) S hb_133 hb_134 hb_5 hb_135 hl.1 (Nat.le_of_ble_eq_true rfl) (Nat.le_of_ble_eq_true rfl) (Nat.le_of_ble_eq_true rfl) (Nat.le_of_ble_eq_true rfl) (by decide) dJx4a65c_grow_92f84_49 ?_
  refine hm_newQ (k := 3) (N := 10) S hE hG tq rfl hb_136 hE.2.2.2.2.2.2.1 (by decide) (by decide) (by decide) (Nat.le_of_ble_eq_true rfl) (Nat.le_of_ble_eq_true rfl) dJx4a65c_grow_92f84_52 (fun q_1 H hG => ?_)
  obtain ⟨ad_2, ead_2⟩ : ∃ q9, q9 = hm_au ad tq q_1 := ⟨_, rfl⟩
  obtain ⟨M_3, eM_3⟩ : ∃ q9, q9 = hm_up M tq (hm_ra g 3 10 (fun _ => none)) := ⟨_, rfl⟩
  rw [← ead_2, ← eM_3] at hG
  have h_4 : M_3 t = some (.inr (0, [.int mc, .ref (hm_b g 1), .int 0])) := by rw [eM_3]; exact (hm_up_n (hne.symm)).trans h1
  have a_5 : ad_2 t = (ad t) := by rw [ead_2]; exact (hm_au_n (hne.symm)).trans rfl
  have h_6 : M_3 tq = some (hm_ra g 3 10 (fun _ => none)) := by rw [eM_3]; exact hm_up_s
  have a_7 : ad_2 tq = q_1 := by rw [ead_2]; exact hm_au_s
  have hfr : hm_fr ad M ad_2 M_3 (fun u => u = t ∨ u = tq) := by rw [ead_2, eM_3]; exact hfr.au (by simp)
  refine lv_dup_x1 S.1 S.2.1 dJx4a65c_grow_92f84_55 rfl rfl ?_
  refine hm_put (k := 1) (fs' := [.int mc, .ref q_1, .int 0]) S hE hG h_4 a_5 rfl hi_Jx4a65c0 tyJx4a65c_ok nmJx4a65c (by decide) hb_38 rfl rfl (by rfl) (by rfl) (Nat.le_of_ble_eq_true rfl) rfl dJx4a65c_grow_92f84_56 (fun H locs hG => ?_)
  obtain ⟨M_9, eM_9⟩ : ∃ q9, q9 = hm_up M_3 t (.inr (0, [.int mc, .ref q_1, .int 0])) := ⟨_, rfl⟩
  rw [← eM_9] at hG
  have h_10 : M_9 t = some (.inr (0, [.int mc, .ref q_1, .int 0])) := by rw [eM_9]; exact hm_up_s
  have h_11 : M_9 tq = some (hm_ra g 3 10 (fun _ => none)) := by rw [eM_9]; exact (hm_up_n (hne)).trans h_6
  have hfr : hm_fr ad M ad_2 M_9 (fun u => u = t ∨ u = tq) := by rw [eM_9]; exact hfr.up (by simp)
  exact hm_aret S hG hr (Or.inr ⟨_, rfl⟩) hlk (⟨_, rfl, a_7, h_11, h_10, a_5, hfr⟩) (Nat.le_of_ble_eq_true rfl) (Nat.le_of_ble_eq_true rfl) dJx4a65c_grow_92f84_59

abbrev rm_Jx4a65c_grow_d5877 : Room := { frames := 2, cells := 1, slots := 10, locals := 37 }
set_option maxHeartbeats 4000000 in
set_option maxRecDepth 100000 in
theorem c_Jx4a65c_grow_d5877 (l : Launch) (g : GV) (ad : AD) (M : CT) (t tq : TG) (hne : tq ≠ t) (mc : Int32) (h1 : M t = some (liE mc (hm_b g 1) 0)) : hm_Met l yJx4a65c_grow_d5877 cJx4a65c_grow_d5877 1 (some (.array (.object "java/lang/Object"))) rm_Jx4a65c_grow_d5877 g ad M [.ref (ad t)] (fun v ad1 M1 => ∃ q, v = some (.ref q) ∧ ad1 tq = q ∧ M1 tq = some (hm_ra g 3 10 (fun _ => none)) ∧ M1 t = some (liE mc q 0) ∧ ad1 t = ad t ∧ hm_fr ad M ad1 M1 (fun u => u = t ∨ u = tq)) := by
  refine hm_start (own := RJx4a65c) (by decide) rfl (Nat.le_of_ble_eq_true rfl) ?_
  intro p e s m args below meth c S hr hlk hnm hE hG ls hl
  have hl : lv_has ls 1 [(0, .ref (ad t))] := hl
  refine lv_aload_n S.1 S.2.1 dJx4a65c_grow_d5877_0 rfl (lv_at hl 0 rfl) ?_
  refine lv_aload_n S.1 S.2.1 dJx4a65c_grow_d5877_1 rfl (lv_at hl 0 rfl) ?_
  refine hm_get (k := 2) S hE hG h1 rfl rfl hi_Jx4a65c0 (by decide) hb_101 rfl rfl dJx4a65c_grow_d5877_2 ?_
  refine lv_iconst (v := 1) S.1 S.2.1 dJx4a65c_grow_d5877_5 (by decide) ?_
  refine lv_iadd S.1 S.2.1 dJx4a65c_grow_d5877_6 ?_
  refine hm_top (z := 1) (by decide) ?_
  refine hm_callV (As := [.int 1]) (rest := []) S hE hG (c_Jx4a65c_grow_92f84 l g ad M t tq hne mc h1) (hm_gV hb_129 hb_130 hb_131 hb_15 hb_132) ⟨rfl, hd_Jx4a65c_grow_92f84⟩ h1 rfl rfl ⟨Nat.le_of_ble_eq_true rfl, Nat.le_of_ble_eq_true rfl⟩ rfl hl.1 rfl (Nat.le_of_ble_eq_true rfl) dJx4a65c_grow_d5877_7 ⟨Nat.le_of_ble_eq_true rfl, Nat.le_of_ble_eq_true rfl⟩ (fun v9 ad_2 M_1 H locs hp9 hG => ?_)
  obtain ⟨q1, rfl, hq1, hq2, hq3, hq4, hf9⟩ := hp9
  refine hm_st (st' := [.ref q1]) rfl ?_
  exact hm_aret S hG hr (Or.inr ⟨_, rfl⟩) hlk (⟨_, rfl, hq1, hq2, hq3, hq4, hf9⟩) (Nat.le_of_ble_eq_true rfl) (Nat.le_of_ble_eq_true rfl) dJx4a65c_grow_d5877_10

abbrev rm_Jx4a65c_add_72be8_A : Room := { frames := 3, cells := 1, slots := 10, locals := 57 }
set_option maxHeartbeats 4000000 in
set_option maxRecDepth 100000 in
theorem c_Jx4a65c_add_72be8_A (l : Launch) (g : GV) (ad : AD) (M : CT) (t tq : TG) (hne : tq ≠ t) (mc : Int32) (h1 : M t = some (liE mc (hm_b g 1) 0)) (f0 : Nat → Option Nat) (tv : TG) (v ci : Nat) (vs : List Value) (C : String) (T : u_T) (N : Nat) (hv1 : tv ≠ t) (hv2 : tv ≠ tq) (hv : M tv = some (.inr (ci, vs))) (hav : ad tv = v) (hc : vwCl[ci]? = some (C, T, N)) (hca : Cond.castable C "java/lang/Object" ∈ hm_nst) : hm_Met l yJx4a65c_add_72be8 cJx4a65c_add_72be8 4 none rm_Jx4a65c_add_72be8_A g ad M [.ref (ad t), .ref v, .ref (hm_b g 1), .int 0] (fun w ad1 M1 => w = none ∧ (∃ q f, M1 t = some (liE mc q (0 + 1)) ∧ ad1 tq = q ∧ M1 tq = some (hm_ra g 3 10 f) ∧ (∀ k, k < 0 → f k = f0 k) ∧ f 0 = some v) ∧ ad1 t = ad t ∧ hm_fr ad M ad1 M1 (fun u => u = t ∨ u = tq)) := by
  refine hm_start (own := RJx4a65c) (by decide) rfl (Nat.le_of_ble_eq_true rfl) ?_
  intro p e s m args below meth c S hr hlk hnm hE hG ls hl
  have hl : lv_has ls 4 [(0, .ref (ad t)), (1, .ref v), (2, .ref (hm_b g 1)), (3, .int 0)] := hl
  have hfr : hm_fr ad M ad M (fun u => u = t ∨ u = tq) := hm_fr.rf
  refine lv_iload_n S.1 S.2.1 dJx4a65c_add_72be8_0 rfl (lv_at hl 3 rfl) ?_
  refine lv_aload_n S.1 S.2.1 dJx4a65c_add_72be8_1 rfl (lv_at hl 2 rfl) ?_
  refine hm_tlen (v := 0) S hG hE.2.2.1.1.2 rfl dJx4a65c_add_72be8_2 ?_
  refine lv_icmp_ne (tgt := 11) S.1 S.2.1 dJx4a65c_add_72be8_3 (by decide) (fun h9 => absurd (by decide) h9) (fun _ => ?_)
  refine lv_aload_n S.1 S.2.1 dJx4a65c_add_72be8_6 rfl (lv_at hl 0 rfl) ?_
  refine hm_callV (As := []) (rest := []) S hE hG (c_Jx4a65c_grow_d5877 l g ad M t tq hne mc h1) (hm_gV hb_125 hb_126 hb_127 hb_15 hb_128) ⟨rfl, hd_Jx4a65c_grow_d5877⟩ h1 rfl rfl ⟨Nat.le_of_ble_eq_true rfl, Nat.le_of_ble_eq_true rfl⟩ rfl hl.1 rfl (Nat.le_of_ble_eq_true rfl) dJx4a65c_add_72be8_7 ⟨Nat.le_of_ble_eq_true rfl, Nat.le_of_ble_eq_true rfl⟩ (fun v9 ad_2 M_1 H locs hp9 hG => ?_)
  obtain ⟨q1, rfl, hq1, hq2, hq3, hq4, hf9⟩ := hp9
  refine hm_st (st' := [.ref q1]) rfl ?_
  have hfr : hm_fr ad M ad_2 M_1 (fun u => u = t ∨ u = tq) := hfr.tr hf9 (by simp)
  have hnv : ¬ (tv = t ∨ tv = tq) := fun h => h.elim hv1 hv2
  have h_3 : M_1 tv = some (.inr (ci, vs)) := ((hf9 tv hnv).2).trans hv
  have a_4 : ad_2 tv = v := ((hf9 tv hnv).1).trans hav
  refine lv_astore_n (lv' := [(2, .ref q1), (0, .ref (ad t)), (1, .ref v), (3, .int 0)]) S.1 S.2.1 dJx4a65c_add_72be8_10 rfl hl (by decide) rfl (fun ls hl => ?_)
  refine lv_aload_n S.1 S.2.1 dJx4a65c_add_72be8_11 rfl (lv_at hl 0 rfl) ?_
  refine lv_iload_n S.1 S.2.1 dJx4a65c_add_72be8_12 rfl (lv_at hl 3 rfl) ?_
  refine lv_aload_n S.1 S.2.1 dJx4a65c_add_72be8_13 rfl (lv_at hl 2 rfl) ?_
  refine hm_astO2 (j := 0) S hE hG hq2 hq1 hca h_3 a_4 hc (by unfold vp_in; decide) (by decide) dJx4a65c_add_72be8_14 (fun H locs hG => ?_)
  obtain ⟨M_5, eM_5⟩ : ∃ q9, q9 = hm_up M_1 tq (hm_ra g 3 10 (va_up (fun _ => none) 0 (some v))) := ⟨_, rfl⟩
  rw [← eM_5] at hG
  have h_6 : M_5 t = some (.inr (0, [.int mc, .ref q1, .int 0])) := by rw [eM_5]; exact (hm_up_n (hne.symm)).trans hq3
  have h_7 : M_5 tq = some (hm_ra g 3 10 (va_up (fun _ => none) 0 (some v))) := by rw [eM_5]; exact hm_up_s
  have h_8 : M_5 tv = some (.inr (ci, vs)) := by rw [eM_5]; exact (hm_up_n (hv2)).trans h_3
  have hfr : hm_fr ad M ad_2 M_5 (fun u => u = t ∨ u = tq) := by rw [eM_5]; exact hfr.up (by simp)
  refine lv_aload_n S.1 S.2.1 dJx4a65c_add_72be8_15 rfl (lv_at hl 1 rfl) ?_
  refine lv_iload_n S.1 S.2.1 dJx4a65c_add_72be8_16 rfl (lv_at hl 3 rfl) ?_
  refine lv_iconst (v := 1) S.1 S.2.1 dJx4a65c_add_72be8_17 (by decide) ?_
  refine lv_iadd S.1 S.2.1 dJx4a65c_add_72be8_18 ?_
  refine hm_top (z := 1) (by decide) ?_
  refine hm_put (k := 2) (fs' := [.int mc, .ref q1, .int 1]) S hE hG h_6 hq4 rfl hi_Jx4a65c0 tyJx4a65c_ok nmJx4a65c (by decide) hb_101 rfl rfl (by rfl) (by rfl) (Nat.le_of_ble_eq_true rfl) rfl dJx4a65c_add_72be8_19 (fun H locs hG => ?_)
  obtain ⟨M_9, eM_9⟩ : ∃ q9, q9 = hm_up M_5 t (.inr (0, [.int mc, .ref q1, .int 1])) := ⟨_, rfl⟩
  rw [← eM_9] at hG
  have h_10 : M_9 t = some (.inr (0, [.int mc, .ref q1, .int 1])) := by rw [eM_9]; exact hm_up_s
  have h_11 : M_9 tq = some (hm_ra g 3 10 (va_up (fun _ => none) 0 (some v))) := by rw [eM_9]; exact (hm_up_n (hne)).trans h_7
  have h_12 : M_9 tv = some (.inr (ci, vs)) := by rw [eM_9]; exact (hm_up_n (hv1)).trans h_8
  have hfr : hm_fr ad M ad_2 M_9 (fun u => u = t ∨ u = tq) := by rw [eM_9]; exact hfr.up (by simp)
  exact hm_vret S hG hr hlk (⟨rfl, ⟨_, _, h_10, hq1, h_11, fun k hk => absurd hk (Nat.not_lt_zero _), va_up_self _ _ _⟩, hq4, hfr⟩) (Nat.le_of_ble_eq_true rfl) (Nat.le_of_ble_eq_true rfl) dJx4a65c_add_72be8_22

abbrev rm_Jx4a65c_add_72be8_B : Room := { frames := 3, cells := 1, slots := 10, locals := 57 }
set_option maxHeartbeats 4000000 in
set_option maxRecDepth 100000 in
theorem c_Jx4a65c_add_72be8_B (l : Launch) (g : GV) (ad : AD) (M : CT) (t tq : TG) (hne : tq ≠ t) (mc : Int32) (q n : Nat) (hn : n < 10) (f0 : Nat → Option Nat) (h1 : M t = some (liE mc q n)) (hq1 : ad tq = q) (hq2 : M tq = some (hm_ra g 3 10 f0)) (tv : TG) (v ci : Nat) (vs : List Value) (C : String) (T : u_T) (N : Nat) (hv1 : tv ≠ t) (hv2 : tv ≠ tq) (hv : M tv = some (.inr (ci, vs))) (hav : ad tv = v) (hc : vwCl[ci]? = some (C, T, N)) (hca : Cond.castable C "java/lang/Object" ∈ hm_nst) : hm_Met l yJx4a65c_add_72be8 cJx4a65c_add_72be8 4 none rm_Jx4a65c_add_72be8_B g ad M [.ref (ad t), .ref v, .ref q, .int (nI n)] (fun w ad1 M1 => w = none ∧ (∃ q f, M1 t = some (liE mc q (n + 1)) ∧ ad1 tq = q ∧ M1 tq = some (hm_ra g 3 10 f) ∧ (∀ k, k < n → f k = f0 k) ∧ f n = some v) ∧ ad1 t = ad t ∧ hm_fr ad M ad1 M1 (fun u => u = t ∨ u = tq)) := by
  refine hm_start (own := RJx4a65c) (by decide) rfl (Nat.le_of_ble_eq_true rfl) ?_
  intro p e s m args below meth c S hr hlk hnm hE hG ls hl
  have hl : lv_has ls 4 [(0, .ref (ad t)), (1, .ref v), (2, .ref q), (3, .int (nI n))] := hl
  have hfr : hm_fr ad M ad M (fun u => u = t ∨ u = tq) := hm_fr.rf
  refine lv_iload_n S.1 S.2.1 dJx4a65c_add_72be8_0 rfl (lv_at hl 3 rfl) ?_
  refine lv_aload_n S.1 S.2.1 dJx4a65c_add_72be8_1 rfl (lv_at hl 2 rfl) ?_
  refine hm_alen (k := 3) (v := 10) S hE hG hq2 hq1 rfl (by rfl) dJx4a65c_add_72be8_2 ?_
  refine lv_icmp_ne (tgt := 11) S.1 S.2.1 dJx4a65c_add_72be8_3 (by decide) (fun _ => ?_) (fun h9 => absurd h9 (fun h => absurd (hm_eqI (b := 10) (by omega) (by decide) h) (by omega)))
  refine lv_aload_n S.1 S.2.1 dJx4a65c_add_72be8_11 rfl (lv_at hl 2 rfl) ?_
  refine lv_iload_n S.1 S.2.1 dJx4a65c_add_72be8_12 rfl (lv_at hl 3 rfl) ?_
  refine lv_aload_n S.1 S.2.1 dJx4a65c_add_72be8_13 rfl (lv_at hl 1 rfl) ?_
  refine hm_astO2 (j := n) S hE hG hq2 hq1 hca hv hav hc (vp_in_nI (hn) (by decide)) (nI_clamp (Nat.lt_trans (hn) (by decide))) dJx4a65c_add_72be8_14 (fun H locs hG => ?_)
  obtain ⟨M_1, eM_1⟩ : ∃ q9, q9 = hm_up M tq (hm_ra g 3 10 (va_up f0 n (some v))) := ⟨_, rfl⟩
  rw [← eM_1] at hG
  have h_2 : M_1 t = some (.inr (0, [.int mc, .ref q, .int (nI n)])) := by rw [eM_1]; exact (hm_up_n (hne.symm)).trans h1
  have h_3 : M_1 tq = some (hm_ra g 3 10 (va_up f0 n (some v))) := by rw [eM_1]; exact hm_up_s
  have h_4 : M_1 tv = some (.inr (ci, vs)) := by rw [eM_1]; exact (hm_up_n (hv2)).trans hv
  have hfr : hm_fr ad M ad M_1 (fun u => u = t ∨ u = tq) := by rw [eM_1]; exact hfr.up (by simp)
  refine lv_aload_n S.1 S.2.1 dJx4a65c_add_72be8_15 rfl (lv_at hl 0 rfl) ?_
  refine lv_iload_n S.1 S.2.1 dJx4a65c_add_72be8_16 rfl (lv_at hl 3 rfl) ?_
  refine lv_iconst (v := 1) S.1 S.2.1 dJx4a65c_add_72be8_17 (by decide) ?_
  refine lv_iadd S.1 S.2.1 dJx4a65c_add_72be8_18 ?_
  refine hm_top (z := nI (n + 1)) (nI_1 n) ?_
  refine hm_put (k := 2) (fs' := [.int mc, .ref q, .int (nI (n + 1))]) S hE hG h_2 rfl rfl hi_Jx4a65c0 tyJx4a65c_ok nmJx4a65c (by decide) hb_101 rfl rfl (by rfl) (by rfl) (Nat.le_of_ble_eq_true rfl) rfl dJx4a65c_add_72be8_19 (fun H locs hG => ?_)
  obtain ⟨M_5, eM_5⟩ : ∃ q9, q9 = hm_up M_1 t (.inr (0, [.int mc, .ref q, .int (nI (n + 1))])) := ⟨_, rfl⟩
  rw [← eM_5] at hG
  have h_6 : M_5 t = some (.inr (0, [.int mc, .ref q, .int (nI (n + 1))])) := by rw [eM_5]; exact hm_up_s
  have h_7 : M_5 tq = some (hm_ra g 3 10 (va_up f0 n (some v))) := by rw [eM_5]; exact (hm_up_n (hne)).trans h_3
  have h_8 : M_5 tv = some (.inr (ci, vs)) := by rw [eM_5]; exact (hm_up_n (hv1)).trans h_4
  have hfr : hm_fr ad M ad M_5 (fun u => u = t ∨ u = tq) := by rw [eM_5]; exact hfr.up (by simp)
  exact hm_vret S hG hr hlk (⟨rfl, ⟨_, _, h_6, hq1, h_7, fun k hk => va_up_ne _ _ (Nat.ne_of_lt hk), va_up_self _ _ _⟩, rfl, hfr⟩) (Nat.le_of_ble_eq_true rfl) (Nat.le_of_ble_eq_true rfl) dJx4a65c_add_72be8_22

abbrev rm_Jx4a65c_add_9ea2d_A : Room := { frames := 4, cells := 1, slots := 10, locals := 80 }
set_option maxHeartbeats 4000000 in
set_option maxRecDepth 100000 in
theorem c_Jx4a65c_add_9ea2d_A (l : Launch) (g : GV) (ad : AD) (M : CT) (t tq : TG) (hne : tq ≠ t) (mc : Int32) (h1 : M t = some (liE mc (hm_b g 1) 0)) (f0 : Nat → Option Nat) (tv : TG) (v ci : Nat) (vs : List Value) (C : String) (T : u_T) (N : Nat) (hv1 : tv ≠ t) (hv2 : tv ≠ tq) (hv : M tv = some (.inr (ci, vs))) (hav : ad tv = v) (hc : vwCl[ci]? = some (C, T, N)) (hca : Cond.castable C "java/lang/Object" ∈ hm_nst) : hm_Met l yJx4a65c_add_9ea2d cJx4a65c_add_9ea2d 2 (some .boolean) rm_Jx4a65c_add_9ea2d_A g ad M [.ref (ad t), .ref v] (fun w ad1 M1 => w = some (.int 1) ∧ (∃ q f, M1 t = some (liE (mc + 1) q (0 + 1)) ∧ ad1 tq = q ∧ M1 tq = some (hm_ra g 3 10 f) ∧ (∀ k, k < 0 → f k = f0 k) ∧ f 0 = some v) ∧ ad1 t = ad t ∧ hm_fr ad M ad1 M1 (fun u => u = t ∨ u = tq)) := by
  refine hm_start (own := RJx4a65c) (by decide) rfl (Nat.le_of_ble_eq_true rfl) ?_
  intro p e s m args below meth c S hr hlk hnm hE hG ls hl
  have hl : lv_has ls 2 [(0, .ref (ad t)), (1, .ref v)] := hl
  have hfr : hm_fr ad M ad M (fun u => u = t ∨ u = tq) := hm_fr.rf
  refine lv_aload_n S.1 S.2.1 dJx4a65c_add_9ea2d_0 rfl (lv_at hl 0 rfl) ?_
  refine lv_dup S.1 S.2.1 dJx4a65c_add_9ea2d_1 rfl ?_
  refine hm_getI (k := 0) S hE hG h1 rfl rfl hi_Jx4a65c0 (by decide) hb_119 hb_120 rfl dJx4a65c_add_9ea2d_2 ?_
  refine lv_iconst (v := 1) S.1 S.2.1 dJx4a65c_add_9ea2d_5 (by decide) ?_
  refine lv_iadd S.1 S.2.1 dJx4a65c_add_9ea2d_6 ?_
  refine hm_putI (k := 0) (fs' := [.int (mc + 1), .ref (hm_b g 1), .int 0]) S hE hG h1 rfl rfl hi_Jx4a65c0 tyJx4a65c_ok nmJx4a65c (by decide) hb_119 hb_120 rfl (by rfl) (by rfl) (Nat.le_of_ble_eq_true rfl) rfl dJx4a65c_add_9ea2d_7 (fun H locs hG => ?_)
  obtain ⟨M_1, eM_1⟩ : ∃ q9, q9 = hm_up M t (.inr (0, [.int (mc + 1), .ref (hm_b g 1), .int 0])) := ⟨_, rfl⟩
  rw [← eM_1] at hG
  have h_2 : M_1 t = some (.inr (0, [.int (mc + 1), .ref (hm_b g 1), .int 0])) := by rw [eM_1]; exact hm_up_s
  have h_3 : M_1 tv = some (.inr (ci, vs)) := by rw [eM_1]; exact (hm_up_n (hv1)).trans hv
  have hfr : hm_fr ad M ad M_1 (fun u => u = t ∨ u = tq) := by rw [eM_1]; exact hfr.up (by simp)
  refine lv_aload_n S.1 S.2.1 dJx4a65c_add_9ea2d_10 rfl (lv_at hl 0 rfl) ?_
  refine lv_aload_n S.1 S.2.1 dJx4a65c_add_9ea2d_11 rfl (lv_at hl 1 rfl) ?_
  refine lv_aload_n S.1 S.2.1 dJx4a65c_add_9ea2d_12 rfl (lv_at hl 0 rfl) ?_
  refine hm_get (k := 1) S hE hG h_2 rfl rfl hi_Jx4a65c0 (by decide) hb_38 rfl rfl dJx4a65c_add_9ea2d_13 ?_
  refine lv_aload_n S.1 S.2.1 dJx4a65c_add_9ea2d_16 rfl (lv_at hl 0 rfl) ?_
  refine hm_get (k := 2) S hE hG h_2 rfl rfl hi_Jx4a65c0 (by decide) hb_101 rfl rfl dJx4a65c_add_9ea2d_17 ?_
  refine hm_callV (As := [.ref v, .ref (hm_b g 1), .int 0]) (rest := []) S hE hG (c_Jx4a65c_add_72be8_A l g ad M_1 t tq hne (mc + 1) h_2 f0 tv v ci vs C T N hv1 hv2 h_3 hav hc hca) (hm_gV hb_121 hb_122 hb_123 hb_15 hb_124) ⟨rfl, hd_Jx4a65c_add_72be8⟩ h_2 rfl rfl ⟨Nat.le_of_ble_eq_true rfl, Nat.le_of_ble_eq_true rfl⟩ rfl hl.1 rfl (Nat.le_of_ble_eq_true rfl) dJx4a65c_add_9ea2d_20 ⟨Nat.le_of_ble_eq_true rfl, Nat.le_of_ble_eq_true rfl⟩ (fun v9 ad_5 M_4 H locs hp9 hG => ?_)
  obtain ⟨rfl, hp1, hp2, hf9⟩ := hp9
  refine hm_st (st' := []) rfl ?_
  have hfr : hm_fr ad M ad_5 M_4 (fun u => u = t ∨ u = tq) := hfr.tr hf9 (by simp)
  refine lv_iconst (v := 1) S.1 S.2.1 dJx4a65c_add_9ea2d_23 (by decide) ?_
  exact hm_zret S hG hr hlk (by decide) (⟨rfl, hp1, hp2, hfr⟩) (Nat.le_of_ble_eq_true rfl) (Nat.le_of_ble_eq_true rfl) dJx4a65c_add_9ea2d_24

abbrev rm_Jx4a65c_add_9ea2d_B : Room := { frames := 4, cells := 1, slots := 10, locals := 80 }
set_option maxHeartbeats 4000000 in
set_option maxRecDepth 100000 in
theorem c_Jx4a65c_add_9ea2d_B (l : Launch) (g : GV) (ad : AD) (M : CT) (t tq : TG) (hne : tq ≠ t) (mc : Int32) (q n : Nat) (hn : n < 10) (f0 : Nat → Option Nat) (h1 : M t = some (liE mc q n)) (hq1 : ad tq = q) (hq2 : M tq = some (hm_ra g 3 10 f0)) (tv : TG) (v ci : Nat) (vs : List Value) (C : String) (T : u_T) (N : Nat) (hv1 : tv ≠ t) (hv2 : tv ≠ tq) (hv : M tv = some (.inr (ci, vs))) (hav : ad tv = v) (hc : vwCl[ci]? = some (C, T, N)) (hca : Cond.castable C "java/lang/Object" ∈ hm_nst) : hm_Met l yJx4a65c_add_9ea2d cJx4a65c_add_9ea2d 2 (some .boolean) rm_Jx4a65c_add_9ea2d_B g ad M [.ref (ad t), .ref v] (fun w ad1 M1 => w = some (.int 1) ∧ (∃ q f, M1 t = some (liE (mc + 1) q (n + 1)) ∧ ad1 tq = q ∧ M1 tq = some (hm_ra g 3 10 f) ∧ (∀ k, k < n → f k = f0 k) ∧ f n = some v) ∧ ad1 t = ad t ∧ hm_fr ad M ad1 M1 (fun u => u = t ∨ u = tq)) := by
  refine hm_start (own := RJx4a65c) (by decide) rfl (Nat.le_of_ble_eq_true rfl) ?_
  intro p e s m args below meth c S hr hlk hnm hE hG ls hl
  have hl : lv_has ls 2 [(0, .ref (ad t)), (1, .ref v)] := hl
  have hfr : hm_fr ad M ad M (fun u => u = t ∨ u = tq) := hm_fr.rf
  refine lv_aload_n S.1 S.2.1 dJx4a65c_add_9ea2d_0 rfl (lv_at hl 0 rfl) ?_
  refine lv_dup S.1 S.2.1 dJx4a65c_add_9ea2d_1 rfl ?_
  refine hm_getI (k := 0) S hE hG h1 rfl rfl hi_Jx4a65c0 (by decide) hb_119 hb_120 rfl dJx4a65c_add_9ea2d_2 ?_
  refine lv_iconst (v := 1) S.1 S.2.1 dJx4a65c_add_9ea2d_5 (by decide) ?_
  refine lv_iadd S.1 S.2.1 dJx4a65c_add_9ea2d_6 ?_
  refine hm_putI (k := 0) (fs' := [.int (mc + 1), .ref q, .int (nI n)]) S hE hG h1 rfl rfl hi_Jx4a65c0 tyJx4a65c_ok nmJx4a65c (by decide) hb_119 hb_120 rfl (by rfl) (by rfl) (Nat.le_of_ble_eq_true rfl) rfl dJx4a65c_add_9ea2d_7 (fun H locs hG => ?_)
  obtain ⟨M_1, eM_1⟩ : ∃ q9, q9 = hm_up M t (.inr (0, [.int (mc + 1), .ref q, .int (nI n)])) := ⟨_, rfl⟩
  rw [← eM_1] at hG
  have h_2 : M_1 t = some (.inr (0, [.int (mc + 1), .ref q, .int (nI n)])) := by rw [eM_1]; exact hm_up_s
  have h_3 : M_1 tq = some (hm_ra g 3 10 f0) := by rw [eM_1]; exact (hm_up_n (hne)).trans hq2
  have h_4 : M_1 tv = some (.inr (ci, vs)) := by rw [eM_1]; exact (hm_up_n (hv1)).trans hv
  have hfr : hm_fr ad M ad M_1 (fun u => u = t ∨ u = tq) := by rw [eM_1]; exact hfr.up (by simp)
  refine lv_aload_n S.1 S.2.1 dJx4a65c_add_9ea2d_10 rfl (lv_at hl 0 rfl) ?_
  refine lv_aload_n S.1 S.2.1 dJx4a65c_add_9ea2d_11 rfl (lv_at hl 1 rfl) ?_
  refine lv_aload_n S.1 S.2.1 dJx4a65c_add_9ea2d_12 rfl (lv_at hl 0 rfl) ?_
  refine hm_get (k := 1) S hE hG h_2 rfl rfl hi_Jx4a65c0 (by decide) hb_38 rfl rfl dJx4a65c_add_9ea2d_13 ?_
  refine lv_aload_n S.1 S.2.1 dJx4a65c_add_9ea2d_16 rfl (lv_at hl 0 rfl) ?_
  refine hm_get (k := 2) S hE hG h_2 rfl rfl hi_Jx4a65c0 (by decide) hb_101 rfl rfl dJx4a65c_add_9ea2d_17 ?_
  refine hm_callV (As := [.ref v, .ref q, .int (nI n)]) (rest := []) S hE hG (c_Jx4a65c_add_72be8_B l g ad M_1 t tq hne (mc + 1) q n hn f0 h_2 hq1 h_3 tv v ci vs C T N hv1 hv2 h_4 hav hc hca) (hm_gV hb_121 hb_122 hb_123 hb_15 hb_124) ⟨rfl, hd_Jx4a65c_add_72be8⟩ h_2 rfl rfl ⟨Nat.le_of_ble_eq_true rfl, Nat.le_of_ble_eq_true rfl⟩ rfl hl.1 rfl (Nat.le_of_ble_eq_true rfl) dJx4a65c_add_9ea2d_20 ⟨Nat.le_of_ble_eq_true rfl, Nat.le_of_ble_eq_true rfl⟩ (fun v9 ad_6 M_5 H locs hp9 hG => ?_)
  obtain ⟨rfl, hp1, hp2, hf9⟩ := hp9
  refine hm_st (st' := []) rfl ?_
  have hfr : hm_fr ad M ad_6 M_5 (fun u => u = t ∨ u = tq) := hfr.tr hf9 (by simp)
  refine lv_iconst (v := 1) S.1 S.2.1 dJx4a65c_add_9ea2d_23 (by decide) ?_
  exact hm_zret S hG hr hlk (by decide) (⟨rfl, hp1, hp2, hfr⟩) (Nat.le_of_ble_eq_true rfl) (Nat.le_of_ble_eq_true rfl) dJx4a65c_add_9ea2d_24

theorem c_add (l : Launch) {g : GV} {ad : AD} {M : CT} {t tq : TG} {n : Nat} {els : Nat → Nat} (h : hasLi g ad M t tq n els) (hne : tq ≠ t) (hn : n < 10) (tv : TG) (v ci : Nat) (vs : List Value) (C : String) (T : u_T) (N : Nat) (hv1 : tv ≠ t) (hv2 : tv ≠ tq) (hv : M tv = some (.inr (ci, vs))) (hav : ad tv = v) (hc : vwCl[ci]? = some (C, T, N)) (hca : Cond.castable C "java/lang/Object" ∈ hm_nst) : hm_Met l yJx4a65c_add_9ea2d cJx4a65c_add_9ea2d 2 (some .boolean) rm_Jx4a65c_add_9ea2d_A g ad M [.ref (ad t), .ref v] (fun w ad1 M1 => w = some (.int 1) ∧ hasLi g ad1 M1 t tq (n + 1) (fun k => if k = n then v else els k) ∧ ad1 t = ad t ∧ hm_fr ad M ad1 M1 (fun u => u = t ∨ u = tq)) := by
  obtain ⟨mc, q, f, h1, h2, h3⟩ := h
  have key : ∀ (n0 : Nat) (f0 : Nat → Option Nat), n0 = n → (∀ k, k < n → f0 k = some (els k)) → ∀ (w : Option Value) (ad1 : AD) (M1 : CT), (w = some (.int 1) ∧ (∃ q f, M1 t = some (liE (mc + 1) q (n0 + 1)) ∧ ad1 tq = q ∧ M1 tq = some (hm_ra g 3 10 f) ∧ (∀ k, k < n0 → f k = f0 k) ∧ f n0 = some v) ∧ ad1 t = ad t ∧ hm_fr ad M ad1 M1 (fun u => u = t ∨ u = tq)) → (w = some (.int 1) ∧ hasLi g ad1 M1 t tq (n + 1) (fun k => if k = n then v else els k) ∧ ad1 t = ad t ∧ hm_fr ad M ad1 M1 (fun u => u = t ∨ u = tq)) := by
    intro n0 f0 e hf0 w ad1 M1 h
    subst e
    obtain ⟨p1, ⟨q2, f2, p2, p3, p4, p5, p6⟩, p7, p8⟩ := h
    refine ⟨p1, ⟨_, q2, f2, p2, Or.inr ⟨p3, p4, fun k hk => ?_⟩, by omega⟩, p7, p8⟩
    by_cases hk2 : k = n0
    · rw [hk2, p6]; simp
    · rw [p5 k (by omega), hf0 k (by omega)]; simp [hk2]
  rcases h2 with ⟨h4, h5⟩ | ⟨h4, h5, h6⟩
  · subst h4; subst h5
    exact hm_Met.post (c_Jx4a65c_add_9ea2d_A l g ad M t tq hne mc h1 (fun _ => none) tv v ci vs C T N hv1 hv2 hv hav hc hca) (key 0 _ rfl (fun k hk => absurd hk (Nat.not_lt_zero _)))
  · exact hm_Met.post (c_Jx4a65c_add_9ea2d_B l g ad M t tq hne mc q n hn f h1 h4 h5 tv v ci vs C T N hv1 hv2 hv hav hc hca) (key n f rfl h6)
