abbrev rm_X6_series : Room := { frames := 5, cells := 17, slots := 115, locals := 101 }
set_option maxHeartbeats 4000000 in
set_option maxRecDepth 100000 in
theorem c_X6_series (l : Launch) (g : GV) (ad : AD) (M : CT) (x : XD) (hx : hasX g ad M x) (hn : xS x < 6) (v1 v2 v3 : Int32) (h1 : ¬ v1 < 0) (h2 : ¬ 2 < v1) (h3 : ¬ v2 < 0) (h4 : ¬ 5 < v2) (h5 : ¬ v3 < 0) (h6 : ¬ 5 < v3) : hm_Met l yX6_series cX6_series 5 (some .int) rm_X6_series g ad M [.ref (ad (0, 0, 0)), .int v1, .int v2, .int v3] (fun v ad1 M1 => v = some (.int (nI (xS x))) ∧ hasX g ad1 M1 (addS x (v1, v2, v3, fun _ => 0, fun _ _ => 0, 0, 0)) ∧ ad1 (0, 0, 0) = ad (0, 0, 0) ∧ ∀ u : TG, 80 ≤ u.1 → ad1 u = ad u ∧ M1 u = M u) := by
  refine hm_start (own := RX6) (by decide) rfl (Nat.le_of_ble_eq_true rfl) ?_
  intro p e s m args below meth c S hr hlk hnm hE hG ls hl
  have hl : lv_has ls 5 [(0, .ref (ad (0, 0, 0))), (1, .int v1), (2, .int v2), (3, .int v3)] := hl
  have hfr : hm_fr ad M ad M (fun u => (u.1 = 10 ∨ u.1 = 11 ∨ u.1 = 12 ∨ u.1 = 13) ∧ u.2.1 = xS x) := hm_fr.rf
  obtain ⟨hX, hLs, hLr, hLh, h7, hLg, h70, hSe, hRu, hHu, hGr, hS6, hR6, hH5⟩ := id hx
  obtain ⟨fs1, hb1⟩ := hLs.ob
  obtain ⟨fs2, hb2⟩ := hLr.ob
  obtain ⟨fs3, hb3⟩ := hLh.ob
  refine lv_iload_n S.1 S.2.1 dX6_series_0 rfl (lv_at hl 1 rfl) ?_
  refine lv_iconst (v := 0) S.1 S.2.1 dX6_series_1 (by decide) ?_
  refine lv_iconst (v := 2) S.1 S.2.1 dX6_series_2 (by decide) ?_
  refine hm_uS (As := [.int v1, .int 0, .int 2]) (rest := []) (st1 := [.int (bI (decide (v1 < 0) || decide (2 < v1)))]) S hE hG (c_X6_isOutside l g ad M v1 0 2) (hm_gS hb_91 hb_92 hb_2 hb_93) hd_X6_isOutside ⟨Nat.le_of_ble_eq_true rfl, Nat.le_of_ble_eq_true rfl⟩ rfl hl.1 rfl (Nat.le_of_ble_eq_true rfl) dX6_series_3 ⟨Nat.le_of_ble_eq_true rfl, Nat.le_of_ble_eq_true rfl⟩ rfl (fun H locs hG => ?_)
  refine lv_if_eq (tgt := 19) S.1 S.2.1 dX6_series_6 (by decide) (fun _ => ?_) (fun h9 => absurd (hm_in0' h1 h2) h9)
  refine lv_iload_n S.1 S.2.1 dX6_series_19 rfl (lv_at hl 2 rfl) ?_
  refine hm_uS (As := [.int v2]) (rest := []) (st1 := []) S hE hG (c_X6_requireMetric l g ad M v2 (h3) (h4)) (hm_gS hb_94 hb_95 hb_2 hb_96) hd_X6_requireMetric ⟨Nat.le_of_ble_eq_true rfl, Nat.le_of_ble_eq_true rfl⟩ rfl hl.1 rfl (Nat.le_of_ble_eq_true rfl) dX6_series_20 ⟨Nat.le_of_ble_eq_true rfl, Nat.le_of_ble_eq_true rfl⟩ rfl (fun H locs hG => ?_)
  refine lv_iload_n S.1 S.2.1 dX6_series_23 rfl (lv_at hl 3 rfl) ?_
  refine lv_iconst (v := 0) S.1 S.2.1 dX6_series_24 (by decide) ?_
  refine lv_iconst (v := 5) S.1 S.2.1 dX6_series_25 (by decide) ?_
  refine hm_uS (As := [.int v3, .int 0, .int 5]) (rest := []) (st1 := [.int (bI (decide (v3 < 0) || decide (5 < v3)))]) S hE hG (c_X6_isOutside l g ad M v3 0 5) (hm_gS hb_91 hb_92 hb_2 hb_93) hd_X6_isOutside ⟨Nat.le_of_ble_eq_true rfl, Nat.le_of_ble_eq_true rfl⟩ rfl hl.1 rfl (Nat.le_of_ble_eq_true rfl) dX6_series_26 ⟨Nat.le_of_ble_eq_true rfl, Nat.le_of_ble_eq_true rfl⟩ rfl (fun H locs hG => ?_)
  refine lv_if_eq (tgt := 42) S.1 S.2.1 dX6_series_29 (by decide) (fun _ => ?_) (fun h9 => absurd (hm_in0' h5 h6) h9)
  refine lv_aload_n S.1 S.2.1 dX6_series_42 rfl (lv_at hl 0 rfl) ?_
  refine hm_get (k := 0) S hE hG hX rfl rfl hi_X60 (by decide) hb_16 rfl rfl dX6_series_43 ?_
  refine hm_uV (As := []) (rest := []) (st1 := [.int (nI (xS x))]) S hE hG (c_size l hLs) (hm_gV hb_97 hb_98 hb_99 hb_15 hb_100) hd_Jx4a65c_size_8abf5 rfl hb1 rfl rfl ⟨Nat.le_of_ble_eq_true rfl, Nat.le_of_ble_eq_true rfl⟩ rfl hl.1 rfl (Nat.le_of_ble_eq_true rfl) dX6_series_46 ⟨Nat.le_of_ble_eq_true rfl, Nat.le_of_ble_eq_true rfl⟩ rfl (fun H locs hG => ?_)
  refine lv_istore (lv' := [(4, .int (nI (xS x))), (0, .ref (ad (0, 0, 0))), (1, .int v1), (2, .int v2), (3, .int v3)]) S.1 S.2.1 dX6_series_49 hl (by decide) rfl (fun ls hl => ?_)
  refine lv_iload S.1 S.2.1 dX6_series_51 (lv_at hl 0 rfl) ?_
  refine lv_bipush (v := 12) S.1 S.2.1 dX6_series_53 (by decide) ?_
  refine lv_icmp_lt (tgt := 68) S.1 S.2.1 dX6_series_55 (by decide) (fun _ => ?_) (fun h9 => absurd (nI_lt (b := 12) (by omega) (by decide)) h9)
  refine lv_aload_n S.1 S.2.1 dX6_series_68 rfl (lv_at hl 1 rfl) ?_
  refine hm_get (k := 0) S hE hG hX rfl rfl hi_X60 (by decide) hb_16 rfl rfl dX6_series_69 ?_
  refine hm_new (ci := 6) (fs := [.int 0, .int 0, .int 0, .int 0, .null, .null, .int 0, .int 0]) S hE hG (10, xS x, 0) rfl hi_X50 tyX5_ok hb_246 hb_89 hb_90 (by decide) (Nat.le_of_ble_eq_true rfl) (Nat.le_of_ble_eq_true rfl) dX6_series_72 (fun q_1 H hG => ?_)
  obtain ⟨ad_2, ead_2⟩ : ∃ q9, q9 = hm_au ad (10, xS x, 0) q_1 := ⟨_, rfl⟩
  obtain ⟨M_3, eM_3⟩ : ∃ q9, q9 = hm_up M (10, xS x, 0) (.inr (6, [.int 0, .int 0, .int 0, .int 0, .null, .null, .int 0, .int 0])) := ⟨_, rfl⟩
  rw [← ead_2, ← eM_3] at hG
  have h_4 : M_3 (0, 0, 0) = some (.inr (7, [.ref (ad (1, 0, 0)), .ref (ad (2, 0, 0)), .ref (ad (3, 0, 0)), .ref (ad (7, 0, 0)), .ref (ad (8, 0, 0)), .ref (ad (70, 0, 0)), .int (nI (xC x)), .int (nI (xG x)), .int (nI (xP x))])) := by rw [eM_3]; exact (hm_up_n (by simp)).trans hX
  have a_5 : ad_2 (0, 0, 0) = (ad (0, 0, 0)) := by rw [ead_2]; exact (hm_au_n (by simp)).trans rfl
  have h_6 : M_3 (1, 0, 0) = some (.inr (0, fs1)) := by rw [eM_3]; exact (hm_up_n (by simp)).trans hb1
  have a_7 : ad_2 (1, 0, 0) = (ad (1, 0, 0)) := by rw [ead_2]; exact (hm_au_n (by simp)).trans rfl
  have h_8 : M_3 (2, 0, 0) = some (.inr (0, fs2)) := by rw [eM_3]; exact (hm_up_n (by simp)).trans hb2
  have a_9 : ad_2 (2, 0, 0) = (ad (2, 0, 0)) := by rw [ead_2]; exact (hm_au_n (by simp)).trans rfl
  have h_10 : M_3 (3, 0, 0) = some (.inr (0, fs3)) := by rw [eM_3]; exact (hm_up_n (by simp)).trans hb3
  have a_11 : ad_2 (3, 0, 0) = (ad (3, 0, 0)) := by rw [ead_2]; exact (hm_au_n (by simp)).trans rfl
  have h_12 : M_3 (7, 0, 0) = some (hm_ra g 1 7 (grpA ad)) := by rw [eM_3]; exact (hm_up_n (by simp)).trans h7
  have a_13 : ad_2 (7, 0, 0) = (ad (7, 0, 0)) := by rw [ead_2]; exact (hm_au_n (by simp)).trans rfl
  have h_14 : M_3 (8, 0, 0) = some (.inr (4, [.ref (ad (9, 0, 0)), .int (nI (lLa (xL x))), .int (nI (lHe (xL x))), .int (nI (lEv (xL x)))])) := by rw [eM_3]; exact (hm_up_n (by simp)).trans hLg.1
  have a_15 : ad_2 (8, 0, 0) = (ad (8, 0, 0)) := by rw [ead_2]; exact (hm_au_n (by simp)).trans rfl
  have h_16 : M_3 (10, xS x, 0) = some (.inr (6, [.int 0, .int 0, .int 0, .int 0, .null, .null, .int 0, .int 0])) := by rw [eM_3]; exact hm_up_s
  have a_17 : ad_2 (10, xS x, 0) = q_1 := by rw [ead_2]; exact hm_au_s
  have hfr : hm_fr ad M ad_2 M_3 (fun u => (u.1 = 10 ∨ u.1 = 11 ∨ u.1 = 12 ∨ u.1 = 13) ∧ u.2.1 = xS x) := by rw [ead_2, eM_3]; exact hfr.au (by simp)
  refine lv_dup S.1 S.2.1 dX6_series_75 rfl ?_
  refine lv_iload S.1 S.2.1 dX6_series_76 (lv_at hl 0 rfl) ?_
  refine lv_iload_n S.1 S.2.1 dX6_series_78 rfl (lv_at hl 2 rfl) ?_
  refine lv_iload_n S.1 S.2.1 dX6_series_79 rfl (lv_at hl 3 rfl) ?_
  refine lv_iload_n S.1 S.2.1 dX6_series_80 rfl (lv_at hl 4 rfl) ?_
  refine hm_callI (As := [.int (nI (xS x)), .int v1, .int v2, .int v3]) (rest := [.ref q_1, .ref (ad (1, 0, 0))]) S hE hG (c_X5_init l g ad_2 M_3 (xS x) q_1 v1 v2 v3 (by omega) a_17 h_16) hb_104 hb_90 hb_102 hb_103 rfl hd_X5_init ⟨Nat.le_of_ble_eq_true rfl, Nat.le_of_ble_eq_true rfl⟩ rfl hl.1 rfl (Nat.le_of_ble_eq_true rfl) dX6_series_81 ⟨Nat.le_of_ble_eq_true rfl, Nat.le_of_ble_eq_true rfl⟩ (fun v9 ad_20 M_19 H locs hp9 hG => ?_)
  obtain ⟨rfl, hse9, had9, hf9⟩ := hp9
  refine hm_st (st' := [.ref q_1, .ref (ad (1, 0, 0))]) rfl ?_
  have h_21 : M_19 (0, 0, 0) = some (.inr (7, [.ref (ad (1, 0, 0)), .ref (ad (2, 0, 0)), .ref (ad (3, 0, 0)), .ref (ad (7, 0, 0)), .ref (ad (8, 0, 0)), .ref (ad (70, 0, 0)), .int (nI (xC x)), .int (nI (xG x)), .int (nI (xP x))])) := ((hf9 (0, 0, 0) (by simp)).2).trans h_4
  have a_22 : ad_20 (0, 0, 0) = (ad (0, 0, 0)) := ((hf9 (0, 0, 0) (by simp)).1).trans a_5
  have h_23 : M_19 (1, 0, 0) = some (.inr (0, fs1)) := ((hf9 (1, 0, 0) (by simp)).2).trans h_6
  have a_24 : ad_20 (1, 0, 0) = (ad (1, 0, 0)) := ((hf9 (1, 0, 0) (by simp)).1).trans a_7
  have h_25 : M_19 (2, 0, 0) = some (.inr (0, fs2)) := ((hf9 (2, 0, 0) (by simp)).2).trans h_8
  have a_26 : ad_20 (2, 0, 0) = (ad (2, 0, 0)) := ((hf9 (2, 0, 0) (by simp)).1).trans a_9
  have h_27 : M_19 (3, 0, 0) = some (.inr (0, fs3)) := ((hf9 (3, 0, 0) (by simp)).2).trans h_10
  have a_28 : ad_20 (3, 0, 0) = (ad (3, 0, 0)) := ((hf9 (3, 0, 0) (by simp)).1).trans a_11
  have h_29 : M_19 (7, 0, 0) = some (hm_ra g 1 7 (grpA ad)) := ((hf9 (7, 0, 0) (by simp)).2).trans h_12
  have a_30 : ad_20 (7, 0, 0) = (ad (7, 0, 0)) := ((hf9 (7, 0, 0) (by simp)).1).trans a_13
  have h_31 : M_19 (8, 0, 0) = some (.inr (4, [.ref (ad (9, 0, 0)), .int (nI (lLa (xL x))), .int (nI (lHe (xL x))), .int (nI (lEv (xL x)))])) := ((hf9 (8, 0, 0) (by simp)).2).trans h_14
  have a_32 : ad_20 (8, 0, 0) = (ad (8, 0, 0)) := ((hf9 (8, 0, 0) (by simp)).1).trans a_15
  have hfr : hm_fr ad M ad_20 M_19 (fun u => (u.1 = 10 ∨ u.1 = 11 ∨ u.1 = 12 ∨ u.1 = 13) ∧ u.2.1 = xS x) := hfr.tr hf9 (by simp)
  have hls9 : hasLi g ad_20 M_19 (1, 0, 0) (4, 0, 0) (xS x) (fun k => ad (10, k, 0)) := hLs.fr hfr (by simp) (by simp) (fun _ _ => rfl)
  refine hm_callV (As := [.ref q_1]) (rest := []) S hE hG (c_addA l a_24 hls9 (by simp) (by omega) (10, xS x, 0) q_1 6 _ _ _ _ (by simp) (by simp) hse9.1 had9 rfl (List.mem_of_getElem? (i := 8) rfl)) (hm_gV hb_115 hb_116 hb_117 hb_15 hb_118) ⟨rfl, hd_Jx4a65c_add_9ea2d⟩ h_23 a_24 rfl ⟨Nat.le_of_ble_eq_true rfl, Nat.le_of_ble_eq_true rfl⟩ rfl hl.1 rfl (Nat.le_of_ble_eq_true rfl) dX6_series_84 ⟨Nat.le_of_ble_eq_true rfl, Nat.le_of_ble_eq_true rfl⟩ (fun v9 ad_34 M_33 H locs hp9 hG => ?_)
  obtain ⟨rfl, hli9, hl9, hf9⟩ := hp9
  refine hm_st (st' := [.int 1]) rfl ?_
  refine lv_pop S.1 S.2.1 dX6_series_87 rfl ?_
  refine lv_iload S.1 S.2.1 dX6_series_88 (lv_at hl 0 rfl) ?_
  exact hm_iret S hG hr hlk (⟨rfl, hx.addS _ hfr hf9 hl9 hse9 had9 hli9 hn⟩) (Nat.le_of_ble_eq_true rfl) (Nat.le_of_ble_eq_true rfl) dX6_series_90

abbrev rm_X6_rule : Room := { frames := 5, cells := 15, slots := 68, locals := 101 }
set_option maxHeartbeats 4000000 in
set_option maxRecDepth 100000 in
theorem c_X6_rule (l : Launch) (g : GV) (ad : AD) (M : CT) (x : XD) (hx : hasX g ad M x) (hn : xR x < 6) (v1 : Int32) (lo w wa : Nat) (li : Int32) (ab : Bool) (h1 : ¬ v1 < 0) (h2 : ¬ 5 < v1) (hlo : lo < 9) (hw1 : 1 ≤ w) (hw2 : w ≤ 12) (hwa : wa < 3) (h3 : ¬ li < -10000) (h4 : ¬ 10000 < li) : hm_Met l yX6_rule cX6_rule 9 (some .int) rm_X6_rule g ad M [.ref (ad (0, 0, 0)), .int v1, .int (nI lo), .int (nI w), .int (nI wa), .int li, .int (bI ab)] (fun v ad1 M1 => v = some (.int (nI (xR x))) ∧ hasX g ad1 M1 (addR x (v1, lo, w, wa, ab, li, 0, 0)) ∧ ad1 (0, 0, 0) = ad (0, 0, 0) ∧ ∀ u : TG, 80 ≤ u.1 → ad1 u = ad u ∧ M1 u = M u) := by
  refine hm_start (own := RX6) (by decide) rfl (Nat.le_of_ble_eq_true rfl) ?_
  intro p e s m args below meth c S hr hlk hnm hE hG ls hl
  have hl : lv_has ls 9 [(0, .ref (ad (0, 0, 0))), (1, .int v1), (2, .int (nI lo)), (3, .int (nI w)), (4, .int (nI wa)), (5, .int li), (6, .int (bI ab))] := hl
  have hfr : hm_fr ad M ad M (fun u => (u.1 = 20 ∨ u.1 = 21 ∨ u.1 = 22) ∧ u.2.1 = xR x) := hm_fr.rf
  obtain ⟨hX, hLs, hLr, hLh, h7, hLg, h70, hSe, hRu, hHu, hGr, hS6, hR6, hH5⟩ := id hx
  obtain ⟨fs1, hb1⟩ := hLs.ob
  obtain ⟨fs2, hb2⟩ := hLr.ob
  obtain ⟨fs3, hb3⟩ := hLh.ob
  refine lv_iload_n S.1 S.2.1 dX6_rule_0 rfl (lv_at hl 1 rfl) ?_
  refine hm_uS (As := [.int v1]) (rest := []) (st1 := []) S hE hG (c_X6_requireMetric l g ad M v1 (h1) (h2)) (hm_gS hb_94 hb_95 hb_2 hb_96) hd_X6_requireMetric ⟨Nat.le_of_ble_eq_true rfl, Nat.le_of_ble_eq_true rfl⟩ rfl hl.1 rfl (Nat.le_of_ble_eq_true rfl) dX6_rule_1 ⟨Nat.le_of_ble_eq_true rfl, Nat.le_of_ble_eq_true rfl⟩ rfl (fun H locs hG => ?_)
  refine lv_iload_n S.1 S.2.1 dX6_rule_4 rfl (lv_at hl 2 rfl) ?_
  refine hm_uS (As := [.int (nI lo)]) (rest := []) (st1 := []) S hE hG (c_X6_requireLook l g ad M (nI lo) (nI_nlt (b := 0) (by omega) (by omega)) (nI_nlt (a := 8) (b := lo) (by omega) (by omega))) (hm_gS hb_173 hb_174 hb_2 hb_175) hd_X6_requireLook ⟨Nat.le_of_ble_eq_true rfl, Nat.le_of_ble_eq_true rfl⟩ rfl hl.1 rfl (Nat.le_of_ble_eq_true rfl) dX6_rule_5 ⟨Nat.le_of_ble_eq_true rfl, Nat.le_of_ble_eq_true rfl⟩ rfl (fun H locs hG => ?_)
  refine lv_iload_n S.1 S.2.1 dX6_rule_8 rfl (lv_at hl 3 rfl) ?_
  refine hm_uS (As := [.int (nI w)]) (rest := []) (st1 := []) S hE hG (c_X6_requireW l g ad M (nI w) (nI_nlt (b := 1) (by omega) (by omega)) (nI_nlt (a := 12) (b := w) (by omega) (by omega))) (hm_gS hb_176 hb_177 hb_2 hb_178) hd_X6_requireW ⟨Nat.le_of_ble_eq_true rfl, Nat.le_of_ble_eq_true rfl⟩ rfl hl.1 rfl (Nat.le_of_ble_eq_true rfl) dX6_rule_9 ⟨Nat.le_of_ble_eq_true rfl, Nat.le_of_ble_eq_true rfl⟩ rfl (fun H locs hG => ?_)
  refine lv_iload S.1 S.2.1 dX6_rule_12 (lv_at hl 4 rfl) ?_
  refine lv_iconst (v := 0) S.1 S.2.1 dX6_rule_14 (by decide) ?_
  refine lv_iconst (v := 2) S.1 S.2.1 dX6_rule_15 (by decide) ?_
  refine hm_uS (As := [.int (nI wa), .int 0, .int 2]) (rest := []) (st1 := [.int (bI (decide ((nI wa) < 0) || decide (2 < (nI wa))))]) S hE hG (c_X6_isOutside l g ad M (nI wa) 0 2) (hm_gS hb_91 hb_92 hb_2 hb_93) hd_X6_isOutside ⟨Nat.le_of_ble_eq_true rfl, Nat.le_of_ble_eq_true rfl⟩ rfl hl.1 rfl (Nat.le_of_ble_eq_true rfl) dX6_rule_16 ⟨Nat.le_of_ble_eq_true rfl, Nat.le_of_ble_eq_true rfl⟩ rfl (fun H locs hG => ?_)
  refine lv_if_eq (tgt := 32) S.1 S.2.1 dX6_rule_19 (by decide) (fun _ => ?_) (fun h9 => absurd (hm_in0 (b := 2) (by omega) (by decide)) h9)
  refine lv_iload S.1 S.2.1 dX6_rule_32 (lv_at hl 5 rfl) ?_
  refine hm_uS (As := [.int li]) (rest := []) (st1 := []) S hE hG (c_X6_requireLimit l g ad M li (h3) (h4)) (hm_gS hb_179 hb_180 hb_2 hb_181) hd_X6_requireLimit ⟨Nat.le_of_ble_eq_true rfl, Nat.le_of_ble_eq_true rfl⟩ rfl hl.1 rfl (Nat.le_of_ble_eq_true rfl) dX6_rule_34 ⟨Nat.le_of_ble_eq_true rfl, Nat.le_of_ble_eq_true rfl⟩ rfl (fun H locs hG => ?_)
  refine lv_aload_n S.1 S.2.1 dX6_rule_37 rfl (lv_at hl 0 rfl) ?_
  refine hm_get (k := 1) S hE hG hX rfl rfl hi_X60 (by decide) hb_17 rfl rfl dX6_rule_38 ?_
  refine hm_uV (As := []) (rest := []) (st1 := [.int (nI (xR x))]) S hE hG (c_size l hLr) (hm_gV hb_97 hb_98 hb_99 hb_15 hb_100) hd_Jx4a65c_size_8abf5 rfl hb2 rfl rfl ⟨Nat.le_of_ble_eq_true rfl, Nat.le_of_ble_eq_true rfl⟩ rfl hl.1 rfl (Nat.le_of_ble_eq_true rfl) dX6_rule_41 ⟨Nat.le_of_ble_eq_true rfl, Nat.le_of_ble_eq_true rfl⟩ rfl (fun H locs hG => ?_)
  refine lv_istore (lv' := [(7, .int (nI (xR x))), (0, .ref (ad (0, 0, 0))), (1, .int v1), (2, .int (nI lo)), (3, .int (nI w)), (4, .int (nI wa)), (5, .int li), (6, .int (bI ab))]) S.1 S.2.1 dX6_rule_44 hl (by decide) rfl (fun ls hl => ?_)
  refine lv_iload S.1 S.2.1 dX6_rule_46 (lv_at hl 0 rfl) ?_
  refine lv_bipush (v := 6) S.1 S.2.1 dX6_rule_48 (by decide) ?_
  refine lv_icmp_lt (tgt := 63) S.1 S.2.1 dX6_rule_50 (by decide) (fun _ => ?_) (fun h9 => absurd (nI_lt (b := 6) (by omega) (by decide)) h9)
  refine hm_new (ci := 5) (fs := [.int 0, .int 0, .int 0, .int 0, .int 0, .int 0, .int 0, .int 0, .int 0, .null]) S hE hG (20, xR x, 0) rfl hi_X40 tyX4_ok hb_207 hb_169 hb_170 (by decide) (Nat.le_of_ble_eq_true rfl) (Nat.le_of_ble_eq_true rfl) dX6_rule_63 (fun q_1 H hG => ?_)
  obtain ⟨ad_2, ead_2⟩ : ∃ q9, q9 = hm_au ad (20, xR x, 0) q_1 := ⟨_, rfl⟩
  obtain ⟨M_3, eM_3⟩ : ∃ q9, q9 = hm_up M (20, xR x, 0) (.inr (5, [.int 0, .int 0, .int 0, .int 0, .int 0, .int 0, .int 0, .int 0, .int 0, .null])) := ⟨_, rfl⟩
  rw [← ead_2, ← eM_3] at hG
  have h_4 : M_3 (0, 0, 0) = some (.inr (7, [.ref (ad (1, 0, 0)), .ref (ad (2, 0, 0)), .ref (ad (3, 0, 0)), .ref (ad (7, 0, 0)), .ref (ad (8, 0, 0)), .ref (ad (70, 0, 0)), .int (nI (xC x)), .int (nI (xG x)), .int (nI (xP x))])) := by rw [eM_3]; exact (hm_up_n (by simp)).trans hX
  have a_5 : ad_2 (0, 0, 0) = (ad (0, 0, 0)) := by rw [ead_2]; exact (hm_au_n (by simp)).trans rfl
  have h_6 : M_3 (1, 0, 0) = some (.inr (0, fs1)) := by rw [eM_3]; exact (hm_up_n (by simp)).trans hb1
  have a_7 : ad_2 (1, 0, 0) = (ad (1, 0, 0)) := by rw [ead_2]; exact (hm_au_n (by simp)).trans rfl
  have h_8 : M_3 (2, 0, 0) = some (.inr (0, fs2)) := by rw [eM_3]; exact (hm_up_n (by simp)).trans hb2
  have a_9 : ad_2 (2, 0, 0) = (ad (2, 0, 0)) := by rw [ead_2]; exact (hm_au_n (by simp)).trans rfl
  have h_10 : M_3 (3, 0, 0) = some (.inr (0, fs3)) := by rw [eM_3]; exact (hm_up_n (by simp)).trans hb3
  have a_11 : ad_2 (3, 0, 0) = (ad (3, 0, 0)) := by rw [ead_2]; exact (hm_au_n (by simp)).trans rfl
  have h_12 : M_3 (7, 0, 0) = some (hm_ra g 1 7 (grpA ad)) := by rw [eM_3]; exact (hm_up_n (by simp)).trans h7
  have a_13 : ad_2 (7, 0, 0) = (ad (7, 0, 0)) := by rw [ead_2]; exact (hm_au_n (by simp)).trans rfl
  have h_14 : M_3 (8, 0, 0) = some (.inr (4, [.ref (ad (9, 0, 0)), .int (nI (lLa (xL x))), .int (nI (lHe (xL x))), .int (nI (lEv (xL x)))])) := by rw [eM_3]; exact (hm_up_n (by simp)).trans hLg.1
  have a_15 : ad_2 (8, 0, 0) = (ad (8, 0, 0)) := by rw [ead_2]; exact (hm_au_n (by simp)).trans rfl
  have h_16 : M_3 (20, xR x, 0) = some (.inr (5, [.int 0, .int 0, .int 0, .int 0, .int 0, .int 0, .int 0, .int 0, .int 0, .null])) := by rw [eM_3]; exact hm_up_s
  have a_17 : ad_2 (20, xR x, 0) = q_1 := by rw [ead_2]; exact hm_au_s
  have hfr : hm_fr ad M ad_2 M_3 (fun u => (u.1 = 20 ∨ u.1 = 21 ∨ u.1 = 22) ∧ u.2.1 = xR x) := by rw [ead_2, eM_3]; exact hfr.au (by simp)
  refine lv_dup S.1 S.2.1 dX6_rule_66 rfl ?_
  refine lv_iload S.1 S.2.1 dX6_rule_67 (lv_at hl 0 rfl) ?_
  refine lv_iload_n S.1 S.2.1 dX6_rule_69 rfl (lv_at hl 2 rfl) ?_
  refine lv_iload_n S.1 S.2.1 dX6_rule_70 rfl (lv_at hl 3 rfl) ?_
  refine lv_iload_n S.1 S.2.1 dX6_rule_71 rfl (lv_at hl 4 rfl) ?_
  refine lv_iload S.1 S.2.1 dX6_rule_72 (lv_at hl 5 rfl) ?_
  refine hm_callI (As := [.int (nI (xR x)), .int v1, .int (nI lo), .int (nI w), .int (nI wa)]) (rest := [.ref q_1]) S hE hG (c_X4_init l g ad_2 M_3 (xR x) q_1 v1 lo w wa (by omega) hlo hw2 hwa a_17 h_16) hb_184 hb_170 hb_182 hb_183 rfl hd_X4_init ⟨Nat.le_of_ble_eq_true rfl, Nat.le_of_ble_eq_true rfl⟩ rfl hl.1 rfl (Nat.le_of_ble_eq_true rfl) dX6_rule_74 ⟨Nat.le_of_ble_eq_true rfl, Nat.le_of_ble_eq_true rfl⟩ (fun v9 ad_20 M_19 H locs hp9 hG => ?_)
  obtain ⟨rfl, hru9, had9, hf9⟩ := hp9
  refine hm_st (st' := [.ref q_1]) rfl ?_
  have h_21 : M_19 (0, 0, 0) = some (.inr (7, [.ref (ad (1, 0, 0)), .ref (ad (2, 0, 0)), .ref (ad (3, 0, 0)), .ref (ad (7, 0, 0)), .ref (ad (8, 0, 0)), .ref (ad (70, 0, 0)), .int (nI (xC x)), .int (nI (xG x)), .int (nI (xP x))])) := ((hf9 (0, 0, 0) (by simp)).2).trans h_4
  have a_22 : ad_20 (0, 0, 0) = (ad (0, 0, 0)) := ((hf9 (0, 0, 0) (by simp)).1).trans a_5
  have h_23 : M_19 (1, 0, 0) = some (.inr (0, fs1)) := ((hf9 (1, 0, 0) (by simp)).2).trans h_6
  have a_24 : ad_20 (1, 0, 0) = (ad (1, 0, 0)) := ((hf9 (1, 0, 0) (by simp)).1).trans a_7
  have h_25 : M_19 (2, 0, 0) = some (.inr (0, fs2)) := ((hf9 (2, 0, 0) (by simp)).2).trans h_8
  have a_26 : ad_20 (2, 0, 0) = (ad (2, 0, 0)) := ((hf9 (2, 0, 0) (by simp)).1).trans a_9
  have h_27 : M_19 (3, 0, 0) = some (.inr (0, fs3)) := ((hf9 (3, 0, 0) (by simp)).2).trans h_10
  have a_28 : ad_20 (3, 0, 0) = (ad (3, 0, 0)) := ((hf9 (3, 0, 0) (by simp)).1).trans a_11
  have h_29 : M_19 (7, 0, 0) = some (hm_ra g 1 7 (grpA ad)) := ((hf9 (7, 0, 0) (by simp)).2).trans h_12
  have a_30 : ad_20 (7, 0, 0) = (ad (7, 0, 0)) := ((hf9 (7, 0, 0) (by simp)).1).trans a_13
  have h_31 : M_19 (8, 0, 0) = some (.inr (4, [.ref (ad (9, 0, 0)), .int (nI (lLa (xL x))), .int (nI (lHe (xL x))), .int (nI (lEv (xL x)))])) := ((hf9 (8, 0, 0) (by simp)).2).trans h_14
  have a_32 : ad_20 (8, 0, 0) = (ad (8, 0, 0)) := ((hf9 (8, 0, 0) (by simp)).1).trans a_15
  have hfr : hm_fr ad M ad_20 M_19 (fun u => (u.1 = 20 ∨ u.1 = 21 ∨ u.1 = 22) ∧ u.2.1 = xR x) := hfr.tr hf9 (by simp)
  refine lv_astore (lv' := [(8, .ref q_1), (7, .int (nI (xR x))), (0, .ref (ad (0, 0, 0))), (1, .int v1), (2, .int (nI lo)), (3, .int (nI w)), (4, .int (nI wa)), (5, .int li), (6, .int (bI ab))]) S.1 S.2.1 dX6_rule_77 hl (by decide) rfl (fun ls hl => ?_)
  refine lv_aload S.1 S.2.1 dX6_rule_79 (lv_at hl 0 rfl) ?_
  refine lv_iload S.1 S.2.1 dX6_rule_81 (lv_at hl 7 rfl) ?_
  refine hm_put (k := 6) (fs' := [.int (nI (xR x)), .int v1, .int (nI lo), .int (nI w), .int (nI wa), .int (bI false), .int li, .int 0, .int 0, .ref (ad_20 (21, xR x, 0))]) S hE hG hru9.1 had9 rfl hi_X40 tyX4_ok nmX4 (by decide) hb_171 rfl rfl (by rfl) (by rfl) (Nat.le_of_ble_eq_true rfl) rfl dX6_rule_83 (fun H locs hG => ?_)
  obtain ⟨M_33, eM_33⟩ : ∃ q9, q9 = hm_up M_19 (20, xR x, 0) (.inr (5, [.int (nI (xR x)), .int v1, .int (nI lo), .int (nI w), .int (nI wa), .int (bI false), .int li, .int 0, .int 0, .ref (ad_20 (21, xR x, 0))])) := ⟨_, rfl⟩
  rw [← eM_33] at hG
  have h_34 : M_33 (0, 0, 0) = some (.inr (7, [.ref (ad (1, 0, 0)), .ref (ad (2, 0, 0)), .ref (ad (3, 0, 0)), .ref (ad (7, 0, 0)), .ref (ad (8, 0, 0)), .ref (ad (70, 0, 0)), .int (nI (xC x)), .int (nI (xG x)), .int (nI (xP x))])) := by rw [eM_33]; exact (hm_up_n (by simp)).trans h_21
  have h_35 : M_33 (1, 0, 0) = some (.inr (0, fs1)) := by rw [eM_33]; exact (hm_up_n (by simp)).trans h_23
  have h_36 : M_33 (2, 0, 0) = some (.inr (0, fs2)) := by rw [eM_33]; exact (hm_up_n (by simp)).trans h_25
  have h_37 : M_33 (3, 0, 0) = some (.inr (0, fs3)) := by rw [eM_33]; exact (hm_up_n (by simp)).trans h_27
  have h_38 : M_33 (7, 0, 0) = some (hm_ra g 1 7 (grpA ad)) := by rw [eM_33]; exact (hm_up_n (by simp)).trans h_29
  have h_39 : M_33 (8, 0, 0) = some (.inr (4, [.ref (ad (9, 0, 0)), .int (nI (lLa (xL x))), .int (nI (lHe (xL x))), .int (nI (lEv (xL x)))])) := by rw [eM_33]; exact (hm_up_n (by simp)).trans h_31
  have h_40 : M_33 (20, xR x, 0) = some (.inr (5, [.int (nI (xR x)), .int v1, .int (nI lo), .int (nI w), .int (nI wa), .int (bI false), .int li, .int 0, .int 0, .ref (ad_20 (21, xR x, 0))])) := by rw [eM_33]; exact hm_up_s
  have hfr : hm_fr ad M ad_20 M_33 (fun u => (u.1 = 20 ∨ u.1 = 21 ∨ u.1 = 22) ∧ u.2.1 = xR x) := by rw [eM_33]; exact hfr.up (by simp)
  refine lv_aload S.1 S.2.1 dX6_rule_86 (lv_at hl 0 rfl) ?_
  refine lv_iload S.1 S.2.1 dX6_rule_88 (lv_at hl 8 rfl) ?_
  refine hm_put (k := 5) (fs' := [.int (nI (xR x)), .int v1, .int (nI lo), .int (nI w), .int (nI wa), .int (bI ab), .int li, .int 0, .int 0, .ref (ad_20 (21, xR x, 0))]) S hE hG h_40 had9 rfl hi_X40 tyX4_ok nmX4 (by decide) hb_172 rfl rfl (hm_narZ _) (hm_fitZ _) (Nat.le_of_ble_eq_true rfl) rfl dX6_rule_90 (fun H locs hG => ?_)
  obtain ⟨M_41, eM_41⟩ : ∃ q9, q9 = hm_up M_33 (20, xR x, 0) (.inr (5, [.int (nI (xR x)), .int v1, .int (nI lo), .int (nI w), .int (nI wa), .int (bI ab), .int li, .int 0, .int 0, .ref (ad_20 (21, xR x, 0))])) := ⟨_, rfl⟩
  rw [← eM_41] at hG
  have h_42 : M_41 (0, 0, 0) = some (.inr (7, [.ref (ad (1, 0, 0)), .ref (ad (2, 0, 0)), .ref (ad (3, 0, 0)), .ref (ad (7, 0, 0)), .ref (ad (8, 0, 0)), .ref (ad (70, 0, 0)), .int (nI (xC x)), .int (nI (xG x)), .int (nI (xP x))])) := by rw [eM_41]; exact (hm_up_n (by simp)).trans h_34
  have h_43 : M_41 (1, 0, 0) = some (.inr (0, fs1)) := by rw [eM_41]; exact (hm_up_n (by simp)).trans h_35
  have h_44 : M_41 (2, 0, 0) = some (.inr (0, fs2)) := by rw [eM_41]; exact (hm_up_n (by simp)).trans h_36
  have h_45 : M_41 (3, 0, 0) = some (.inr (0, fs3)) := by rw [eM_41]; exact (hm_up_n (by simp)).trans h_37
  have h_46 : M_41 (7, 0, 0) = some (hm_ra g 1 7 (grpA ad)) := by rw [eM_41]; exact (hm_up_n (by simp)).trans h_38
  have h_47 : M_41 (8, 0, 0) = some (.inr (4, [.ref (ad (9, 0, 0)), .int (nI (lLa (xL x))), .int (nI (lHe (xL x))), .int (nI (lEv (xL x)))])) := by rw [eM_41]; exact (hm_up_n (by simp)).trans h_39
  have h_48 : M_41 (20, xR x, 0) = some (.inr (5, [.int (nI (xR x)), .int v1, .int (nI lo), .int (nI w), .int (nI wa), .int (bI ab), .int li, .int 0, .int 0, .ref (ad_20 (21, xR x, 0))])) := by rw [eM_41]; exact hm_up_s
  have hfr : hm_fr ad M ad_20 M_41 (fun u => (u.1 = 20 ∨ u.1 = 21 ∨ u.1 = 22) ∧ u.2.1 = xR x) := by rw [eM_41]; exact hfr.up (by simp)
  refine lv_aload_n S.1 S.2.1 dX6_rule_93 rfl (lv_at hl 2 rfl) ?_
  refine hm_get (k := 1) S hE hG h_42 a_22 rfl hi_X60 (by decide) hb_17 rfl rfl dX6_rule_94 ?_
  refine lv_aload S.1 S.2.1 dX6_rule_97 (lv_at hl 0 rfl) ?_
  have hru8 : hasRu g ad_20 M_41 (xR x) (v1, lo, w, wa, ab, li, 0, 0) (fun _ => (0, -1, 0)) := by
    rw [eM_41, eM_33, hm_up_up]
    exact ru_has (u2 := (v1, lo, w, wa, ab, li, 0, 0)) hru9 hlo hw2 hwa
  have hls9 : hasLi g ad_20 M_41 (2, 0, 0) (5, 0, 0) (xR x) (fun k => ad (20, k, 0)) := hLr.fr hfr (by simp) (by simp) (fun _ _ => rfl)
  refine hm_callV (As := [.ref q_1]) (rest := []) S hE hG (c_addA l a_26 hls9 (by simp) (by omega) (20, xR x, 0) q_1 5 _ _ _ _ (by simp) (by simp) h_48 had9 rfl (List.mem_of_getElem? (i := 9) rfl)) (hm_gV hb_115 hb_116 hb_117 hb_15 hb_118) ⟨rfl, hd_Jx4a65c_add_9ea2d⟩ h_44 a_26 rfl ⟨Nat.le_of_ble_eq_true rfl, Nat.le_of_ble_eq_true rfl⟩ rfl hl.1 rfl (Nat.le_of_ble_eq_true rfl) dX6_rule_99 ⟨Nat.le_of_ble_eq_true rfl, Nat.le_of_ble_eq_true rfl⟩ (fun v9 ad_50 M_49 H locs hp9 hG => ?_)
  obtain ⟨rfl, hli9, hl9, hf9⟩ := hp9
  refine hm_st (st' := [.int 1]) rfl ?_
  refine lv_pop S.1 S.2.1 dX6_rule_102 rfl ?_
  refine lv_iload S.1 S.2.1 dX6_rule_103 (lv_at hl 1 rfl) ?_
  exact hm_iret S hG hr hlk (⟨rfl, hx.addR _ hfr hf9 hl9 hru8 had9 hli9 hn⟩) (Nat.le_of_ble_eq_true rfl) (Nat.le_of_ble_eq_true rfl) dX6_rule_105

abbrev rm_X6_hush : Room := { frames := 5, cells := 2, slots := 13, locals := 101 }
set_option maxHeartbeats 4000000 in
set_option maxRecDepth 100000 in
theorem c_X6_hush (l : Launch) (g : GV) (ad : AD) (M : CT) (x : XD) (hx : hasX g ad M x) (hn : xH x < 5) (ru pl : Int32) (tk : Nat) (hru : ru = -1 ∨ ∃ k, k < xR x ∧ ru = nI k) (h1 : ¬ pl < -1) (h2 : ¬ 5 < pl) (h3 : 1 ≤ tk) (h4 : tk ≤ 60) : hm_Met l yX6_hush cX6_hush 5 (some .int) rm_X6_hush g ad M [.ref (ad (0, 0, 0)), .int ru, .int pl, .int (nI tk)] (fun v ad1 M1 => v = some (.int (nI (xH x))) ∧ hasX g ad1 M1 (addH x (ru, pl, nI (xC x + tk))) ∧ ad1 (0, 0, 0) = ad (0, 0, 0) ∧ ∀ u : TG, 80 ≤ u.1 → ad1 u = ad u ∧ M1 u = M u) := by
  refine hm_start (own := RX6) (by decide) rfl (Nat.le_of_ble_eq_true rfl) ?_
  intro p e s m args below meth c S hr hlk hnm hE hG ls hl
  have hl : lv_has ls 5 [(0, .ref (ad (0, 0, 0))), (1, .int ru), (2, .int pl), (3, .int (nI tk))] := hl
  have hfr : hm_fr ad M ad M (fun u => u = (30, xH x, 0)) := hm_fr.rf
  obtain ⟨hX, hLs, hLr, hLh, h7, hLg, h70, hSe, hRu, hHu, hGr, hS6, hR6, hH5⟩ := id hx
  obtain ⟨fs1, hb1⟩ := hLs.ob
  obtain ⟨fs2, hb2⟩ := hLr.ob
  obtain ⟨fs3, hb3⟩ := hLh.ob
  rcases hru with hru | ⟨k, hk9, hru⟩
  · skip
    subst hru
    refine lv_iload_n S.1 S.2.1 dX6_hush_0 rfl (lv_at hl 1 rfl) ?_
    refine lv_iconst (v := (-1)) S.1 S.2.1 dX6_hush_1 (by decide) ?_
    refine lv_icmp_eq (tgt := 11) S.1 S.2.1 dX6_hush_2 (by decide) (fun _ => ?_) (fun h9 => absurd (by decide) h9)
    refine lv_iload_n S.1 S.2.1 dX6_hush_11 rfl (lv_at hl 2 rfl) ?_
    refine lv_iconst (v := (-1)) S.1 S.2.1 dX6_hush_12 (by decide) ?_
    refine lv_iconst (v := 5) S.1 S.2.1 dX6_hush_13 (by decide) ?_
    refine hm_uS (As := [.int pl, .int (-1), .int 5]) (rest := []) (st1 := [.int (bI (decide (pl < (-1)) || decide (5 < pl)))]) S hE hG (c_X6_isOutside l g ad M pl (-1) 5) (hm_gS hb_91 hb_92 hb_2 hb_93) hd_X6_isOutside ⟨Nat.le_of_ble_eq_true rfl, Nat.le_of_ble_eq_true rfl⟩ rfl hl.1 rfl (Nat.le_of_ble_eq_true rfl) dX6_hush_14 ⟨Nat.le_of_ble_eq_true rfl, Nat.le_of_ble_eq_true rfl⟩ rfl (fun H locs hG => ?_)
    refine lv_if_eq (tgt := 30) S.1 S.2.1 dX6_hush_17 (by decide) (fun _ => ?_) (fun h9 => absurd (hm_in0' h1 h2) h9)
    refine lv_iload_n S.1 S.2.1 dX6_hush_30 rfl (lv_at hl 3 rfl) ?_
    refine lv_iconst (v := 1) S.1 S.2.1 dX6_hush_31 (by decide) ?_
    refine lv_bipush (v := 60) S.1 S.2.1 dX6_hush_32 (by decide) ?_
    refine hm_uS (As := [.int (nI tk), .int 1, .int 60]) (rest := []) (st1 := [.int (bI (decide ((nI tk) < 1) || decide (60 < (nI tk))))]) S hE hG (c_X6_isOutside l g ad M (nI tk) 1 60) (hm_gS hb_91 hb_92 hb_2 hb_93) hd_X6_isOutside ⟨Nat.le_of_ble_eq_true rfl, Nat.le_of_ble_eq_true rfl⟩ rfl hl.1 rfl (Nat.le_of_ble_eq_true rfl) dX6_hush_34 ⟨Nat.le_of_ble_eq_true rfl, Nat.le_of_ble_eq_true rfl⟩ rfl (fun H locs hG => ?_)
    refine lv_if_eq (tgt := 50) S.1 S.2.1 dX6_hush_37 (by decide) (fun _ => ?_) (fun h9 => absurd (hm_in0' (nI_nlt (b := 1) h3 (by omega)) (nI_nlt (a := 60) h4 (by decide))) h9)
    refine lv_aload_n S.1 S.2.1 dX6_hush_50 rfl (lv_at hl 0 rfl) ?_
    refine hm_get (k := 2) S hE hG hX rfl rfl hi_X60 (by decide) hb_18 rfl rfl dX6_hush_51 ?_
    refine hm_uV (As := []) (rest := []) (st1 := [.int (nI (xH x))]) S hE hG (c_size l hLh) (hm_gV hb_97 hb_98 hb_99 hb_15 hb_100) hd_Jx4a65c_size_8abf5 rfl hb3 rfl rfl ⟨Nat.le_of_ble_eq_true rfl, Nat.le_of_ble_eq_true rfl⟩ rfl hl.1 rfl (Nat.le_of_ble_eq_true rfl) dX6_hush_54 ⟨Nat.le_of_ble_eq_true rfl, Nat.le_of_ble_eq_true rfl⟩ rfl (fun H locs hG => ?_)
    refine lv_istore (lv' := [(4, .int (nI (xH x))), (0, .ref (ad (0, 0, 0))), (1, .int (-1)), (2, .int pl), (3, .int (nI tk))]) S.1 S.2.1 dX6_hush_57 hl (by decide) rfl (fun ls hl => ?_)
    refine lv_iload S.1 S.2.1 dX6_hush_59 (lv_at hl 0 rfl) ?_
    refine lv_iconst (v := 5) S.1 S.2.1 dX6_hush_61 (by decide) ?_
    refine lv_icmp_lt (tgt := 75) S.1 S.2.1 dX6_hush_62 (by decide) (fun _ => ?_) (fun h9 => absurd (nI_lt (b := 5) (by omega) (by decide)) h9)
    refine lv_aload_n S.1 S.2.1 dX6_hush_75 rfl (lv_at hl 1 rfl) ?_
    refine hm_get (k := 2) S hE hG hX rfl rfl hi_X60 (by decide) hb_18 rfl rfl dX6_hush_76 ?_
    refine hm_new (ci := 3) (fs := [.int 0, .int 0, .int 0]) S hE hG (30, xH x, 0) rfl hi_X20 tyX2_ok hb_320 hb_321 hb_307 (by decide) (Nat.le_of_ble_eq_true rfl) (Nat.le_of_ble_eq_true rfl) dX6_hush_79 (fun q_1 H hG => ?_)
    obtain ⟨ad_2, ead_2⟩ : ∃ q9, q9 = hm_au ad (30, xH x, 0) q_1 := ⟨_, rfl⟩
    obtain ⟨M_3, eM_3⟩ : ∃ q9, q9 = hm_up M (30, xH x, 0) (.inr (3, [.int 0, .int 0, .int 0])) := ⟨_, rfl⟩
    rw [← ead_2, ← eM_3] at hG
    have h_4 : M_3 (0, 0, 0) = some (.inr (7, [.ref (ad (1, 0, 0)), .ref (ad (2, 0, 0)), .ref (ad (3, 0, 0)), .ref (ad (7, 0, 0)), .ref (ad (8, 0, 0)), .ref (ad (70, 0, 0)), .int (nI (xC x)), .int (nI (xG x)), .int (nI (xP x))])) := by rw [eM_3]; exact (hm_up_n (by simp)).trans hX
    have a_5 : ad_2 (0, 0, 0) = (ad (0, 0, 0)) := by rw [ead_2]; exact (hm_au_n (by simp)).trans rfl
    have h_6 : M_3 (1, 0, 0) = some (.inr (0, fs1)) := by rw [eM_3]; exact (hm_up_n (by simp)).trans hb1
    have a_7 : ad_2 (1, 0, 0) = (ad (1, 0, 0)) := by rw [ead_2]; exact (hm_au_n (by simp)).trans rfl
    have h_8 : M_3 (2, 0, 0) = some (.inr (0, fs2)) := by rw [eM_3]; exact (hm_up_n (by simp)).trans hb2
    have a_9 : ad_2 (2, 0, 0) = (ad (2, 0, 0)) := by rw [ead_2]; exact (hm_au_n (by simp)).trans rfl
    have h_10 : M_3 (3, 0, 0) = some (.inr (0, fs3)) := by rw [eM_3]; exact (hm_up_n (by simp)).trans hb3
    have a_11 : ad_2 (3, 0, 0) = (ad (3, 0, 0)) := by rw [ead_2]; exact (hm_au_n (by simp)).trans rfl
    have h_12 : M_3 (7, 0, 0) = some (hm_ra g 1 7 (grpA ad)) := by rw [eM_3]; exact (hm_up_n (by simp)).trans h7
    have a_13 : ad_2 (7, 0, 0) = (ad (7, 0, 0)) := by rw [ead_2]; exact (hm_au_n (by simp)).trans rfl
    have h_14 : M_3 (8, 0, 0) = some (.inr (4, [.ref (ad (9, 0, 0)), .int (nI (lLa (xL x))), .int (nI (lHe (xL x))), .int (nI (lEv (xL x)))])) := by rw [eM_3]; exact (hm_up_n (by simp)).trans hLg.1
    have a_15 : ad_2 (8, 0, 0) = (ad (8, 0, 0)) := by rw [ead_2]; exact (hm_au_n (by simp)).trans rfl
    have h_16 : M_3 (30, xH x, 0) = some (.inr (3, [.int 0, .int 0, .int 0])) := by rw [eM_3]; exact hm_up_s
    have a_17 : ad_2 (30, xH x, 0) = q_1 := by rw [ead_2]; exact hm_au_s
    have hfr : hm_fr ad M ad_2 M_3 (fun u => u = (30, xH x, 0)) := by rw [ead_2, eM_3]; exact hfr.au (by simp)
    refine lv_dup S.1 S.2.1 dX6_hush_82 rfl ?_
    refine lv_iload_n S.1 S.2.1 dX6_hush_83 rfl (lv_at hl 2 rfl) ?_
    refine lv_iload_n S.1 S.2.1 dX6_hush_84 rfl (lv_at hl 3 rfl) ?_
    refine lv_aload_n S.1 S.2.1 dX6_hush_85 rfl (lv_at hl 1 rfl) ?_
    refine hm_get (k := 6) S hE hG h_4 a_5 rfl hi_X60 (by decide) hb_31 rfl rfl dX6_hush_86 ?_
    refine lv_iload_n S.1 S.2.1 dX6_hush_89 rfl (lv_at hl 4 rfl) ?_
    refine lv_iadd S.1 S.2.1 dX6_hush_90 ?_
    refine hm_top (z := nI (xC x + tk)) (nI_add _ _) ?_
    refine hm_uI (As := [.int (-1), .int pl, .int (nI (xC x + tk))]) (rest := [.ref q_1, .ref (ad (3, 0, 0))]) (st1 := [.ref q_1, .ref (ad (3, 0, 0))]) S hE hG (c_X2_init l g ad_2 M_3 (30, xH x, 0) q_1 (-1) pl (nI (xC x + tk)) a_17 h_16) hb_324 hb_307 hb_322 hb_323 rfl hd_X2_init ⟨Nat.le_of_ble_eq_true rfl, Nat.le_of_ble_eq_true rfl⟩ rfl hl.1 rfl (Nat.le_of_ble_eq_true rfl) dX6_hush_91 ⟨Nat.le_of_ble_eq_true rfl, Nat.le_of_ble_eq_true rfl⟩ rfl (fun H locs hG => ?_)
    obtain ⟨M_19, eM_19⟩ : ∃ q9, q9 = hm_up M_3 (30, xH x, 0) (huE ((-1), pl, (nI (xC x + tk)))) := ⟨_, rfl⟩
    rw [← eM_19] at hG
    have h_20 : M_19 (0, 0, 0) = some (.inr (7, [.ref (ad (1, 0, 0)), .ref (ad (2, 0, 0)), .ref (ad (3, 0, 0)), .ref (ad (7, 0, 0)), .ref (ad (8, 0, 0)), .ref (ad (70, 0, 0)), .int (nI (xC x)), .int (nI (xG x)), .int (nI (xP x))])) := by rw [eM_19]; exact (hm_up_n (by simp)).trans h_4
    have h_21 : M_19 (1, 0, 0) = some (.inr (0, fs1)) := by rw [eM_19]; exact (hm_up_n (by simp)).trans h_6
    have h_22 : M_19 (2, 0, 0) = some (.inr (0, fs2)) := by rw [eM_19]; exact (hm_up_n (by simp)).trans h_8
    have h_23 : M_19 (3, 0, 0) = some (.inr (0, fs3)) := by rw [eM_19]; exact (hm_up_n (by simp)).trans h_10
    have h_24 : M_19 (7, 0, 0) = some (hm_ra g 1 7 (grpA ad)) := by rw [eM_19]; exact (hm_up_n (by simp)).trans h_12
    have h_25 : M_19 (8, 0, 0) = some (.inr (4, [.ref (ad (9, 0, 0)), .int (nI (lLa (xL x))), .int (nI (lHe (xL x))), .int (nI (lEv (xL x)))])) := by rw [eM_19]; exact (hm_up_n (by simp)).trans h_14
    have h_26 : M_19 (30, xH x, 0) = some (huE ((-1), pl, (nI (xC x + tk)))) := by rw [eM_19]; exact hm_up_s
    have hfr : hm_fr ad M ad_2 M_19 (fun u => u = (30, xH x, 0)) := by rw [eM_19]; exact hfr.up (by simp)
    have hls9 : hasLi g ad_2 M_19 (3, 0, 0) (6, 0, 0) (xH x) (fun k => ad (30, k, 0)) := hLh.fr hfr (by simp) (by simp) (fun _ _ => rfl)
    refine hm_callV (As := [.ref q_1]) (rest := []) S hE hG (c_addA l a_11 hls9 (by simp) (by omega) (30, xH x, 0) q_1 3 _ _ _ _ (by simp) (by simp) h_26 a_17 rfl (List.mem_of_getElem? (i := 10) rfl)) (hm_gV hb_115 hb_116 hb_117 hb_15 hb_118) ⟨rfl, hd_Jx4a65c_add_9ea2d⟩ h_23 a_11 rfl ⟨Nat.le_of_ble_eq_true rfl, Nat.le_of_ble_eq_true rfl⟩ rfl hl.1 rfl (Nat.le_of_ble_eq_true rfl) dX6_hush_94 ⟨Nat.le_of_ble_eq_true rfl, Nat.le_of_ble_eq_true rfl⟩ (fun v9 ad_28 M_27 H locs hp9 hG => ?_)
    obtain ⟨rfl, hli9, hl9, hf9⟩ := hp9
    refine hm_st (st' := [.int 1]) rfl ?_
    refine lv_pop S.1 S.2.1 dX6_hush_97 rfl ?_
    refine lv_iload S.1 S.2.1 dX6_hush_98 (lv_at hl 0 rfl) ?_
    exact hm_iret S hG hr hlk (⟨rfl, hx.addH _ hfr hf9 hl9 h_26 a_17 hli9 hn⟩) (Nat.le_of_ble_eq_true rfl) (Nat.le_of_ble_eq_true rfl) dX6_hush_100
  · skip
    subst hru
    refine lv_iload_n S.1 S.2.1 dX6_hush_0 rfl (lv_at hl 1 rfl) ?_
    refine lv_iconst (v := (-1)) S.1 S.2.1 dX6_hush_1 (by decide) ?_
    refine lv_icmp_eq (tgt := 11) S.1 S.2.1 dX6_hush_2 (by decide) (fun h9 => absurd h9 (fun h => absurd (congrArg Int32.toInt h) (by rw [nI_toInt (by omega), show ((-1 : Int32)).toInt = -1 by decide]; omega))) (fun _ => ?_)
    refine lv_aload_n S.1 S.2.1 dX6_hush_5 rfl (lv_at hl 0 rfl) ?_
    refine lv_iload_n S.1 S.2.1 dX6_hush_6 rfl (lv_at hl 1 rfl) ?_
    refine hm_uV (As := [.int (nI k)]) (rest := []) (st1 := [.ref (ad (20, k, 0))]) S hE hG (c_X6_requireRule l g ad M x hx k hk9) (hm_gV hb_201 hb_202 hb_203 hb_2 hb_204) hd_X6_requireRule rfl hX rfl rfl ⟨Nat.le_of_ble_eq_true rfl, Nat.le_of_ble_eq_true rfl⟩ rfl hl.1 rfl (Nat.le_of_ble_eq_true rfl) dX6_hush_7 ⟨Nat.le_of_ble_eq_true rfl, Nat.le_of_ble_eq_true rfl⟩ rfl (fun H locs hG => ?_)
    refine lv_pop S.1 S.2.1 dX6_hush_10 rfl ?_
    refine lv_iload_n S.1 S.2.1 dX6_hush_11 rfl (lv_at hl 2 rfl) ?_
    refine lv_iconst (v := (-1)) S.1 S.2.1 dX6_hush_12 (by decide) ?_
    refine lv_iconst (v := 5) S.1 S.2.1 dX6_hush_13 (by decide) ?_
    refine hm_uS (As := [.int pl, .int (-1), .int 5]) (rest := []) (st1 := [.int (bI (decide (pl < (-1)) || decide (5 < pl)))]) S hE hG (c_X6_isOutside l g ad M pl (-1) 5) (hm_gS hb_91 hb_92 hb_2 hb_93) hd_X6_isOutside ⟨Nat.le_of_ble_eq_true rfl, Nat.le_of_ble_eq_true rfl⟩ rfl hl.1 rfl (Nat.le_of_ble_eq_true rfl) dX6_hush_14 ⟨Nat.le_of_ble_eq_true rfl, Nat.le_of_ble_eq_true rfl⟩ rfl (fun H locs hG => ?_)
    refine lv_if_eq (tgt := 30) S.1 S.2.1 dX6_hush_17 (by decide) (fun _ => ?_) (fun h9 => absurd (hm_in0' h1 h2) h9)
    refine lv_iload_n S.1 S.2.1 dX6_hush_30 rfl (lv_at hl 3 rfl) ?_
    refine lv_iconst (v := 1) S.1 S.2.1 dX6_hush_31 (by decide) ?_
    refine lv_bipush (v := 60) S.1 S.2.1 dX6_hush_32 (by decide) ?_
    refine hm_uS (As := [.int (nI tk), .int 1, .int 60]) (rest := []) (st1 := [.int (bI (decide ((nI tk) < 1) || decide (60 < (nI tk))))]) S hE hG (c_X6_isOutside l g ad M (nI tk) 1 60) (hm_gS hb_91 hb_92 hb_2 hb_93) hd_X6_isOutside ⟨Nat.le_of_ble_eq_true rfl, Nat.le_of_ble_eq_true rfl⟩ rfl hl.1 rfl (Nat.le_of_ble_eq_true rfl) dX6_hush_34 ⟨Nat.le_of_ble_eq_true rfl, Nat.le_of_ble_eq_true rfl⟩ rfl (fun H locs hG => ?_)
    refine lv_if_eq (tgt := 50) S.1 S.2.1 dX6_hush_37 (by decide) (fun _ => ?_) (fun h9 => absurd (hm_in0' (nI_nlt (b := 1) h3 (by omega)) (nI_nlt (a := 60) h4 (by decide))) h9)
    refine lv_aload_n S.1 S.2.1 dX6_hush_50 rfl (lv_at hl 0 rfl) ?_
    refine hm_get (k := 2) S hE hG hX rfl rfl hi_X60 (by decide) hb_18 rfl rfl dX6_hush_51 ?_
    refine hm_uV (As := []) (rest := []) (st1 := [.int (nI (xH x))]) S hE hG (c_size l hLh) (hm_gV hb_97 hb_98 hb_99 hb_15 hb_100) hd_Jx4a65c_size_8abf5 rfl hb3 rfl rfl ⟨Nat.le_of_ble_eq_true rfl, Nat.le_of_ble_eq_true rfl⟩ rfl hl.1 rfl (Nat.le_of_ble_eq_true rfl) dX6_hush_54 ⟨Nat.le_of_ble_eq_true rfl, Nat.le_of_ble_eq_true rfl⟩ rfl (fun H locs hG => ?_)
    refine lv_istore (lv' := [(4, .int (nI (xH x))), (0, .ref (ad (0, 0, 0))), (1, .int (nI k)), (2, .int pl), (3, .int (nI tk))]) S.1 S.2.1 dX6_hush_57 hl (by decide) rfl (fun ls hl => ?_)
    refine lv_iload S.1 S.2.1 dX6_hush_59 (lv_at hl 0 rfl) ?_
    refine lv_iconst (v := 5) S.1 S.2.1 dX6_hush_61 (by decide) ?_
    refine lv_icmp_lt (tgt := 75) S.1 S.2.1 dX6_hush_62 (by decide) (fun _ => ?_) (fun h9 => absurd (nI_lt (b := 5) (by omega) (by decide)) h9)
    refine lv_aload_n S.1 S.2.1 dX6_hush_75 rfl (lv_at hl 1 rfl) ?_
    refine hm_get (k := 2) S hE hG hX rfl rfl hi_X60 (by decide) hb_18 rfl rfl dX6_hush_76 ?_
    refine hm_new (ci := 3) (fs := [.int 0, .int 0, .int 0]) S hE hG (30, xH x, 0) rfl hi_X20 tyX2_ok hb_320 hb_321 hb_307 (by decide) (Nat.le_of_ble_eq_true rfl) (Nat.le_of_ble_eq_true rfl) dX6_hush_79 (fun q_29 H hG => ?_)
    obtain ⟨ad_30, ead_30⟩ : ∃ q9, q9 = hm_au ad (30, xH x, 0) q_29 := ⟨_, rfl⟩
    obtain ⟨M_31, eM_31⟩ : ∃ q9, q9 = hm_up M (30, xH x, 0) (.inr (3, [.int 0, .int 0, .int 0])) := ⟨_, rfl⟩
    rw [← ead_30, ← eM_31] at hG
    have h_32 : M_31 (0, 0, 0) = some (.inr (7, [.ref (ad (1, 0, 0)), .ref (ad (2, 0, 0)), .ref (ad (3, 0, 0)), .ref (ad (7, 0, 0)), .ref (ad (8, 0, 0)), .ref (ad (70, 0, 0)), .int (nI (xC x)), .int (nI (xG x)), .int (nI (xP x))])) := by rw [eM_31]; exact (hm_up_n (by simp)).trans hX
    have a_33 : ad_30 (0, 0, 0) = (ad (0, 0, 0)) := by rw [ead_30]; exact (hm_au_n (by simp)).trans rfl
    have h_34 : M_31 (1, 0, 0) = some (.inr (0, fs1)) := by rw [eM_31]; exact (hm_up_n (by simp)).trans hb1
    have a_35 : ad_30 (1, 0, 0) = (ad (1, 0, 0)) := by rw [ead_30]; exact (hm_au_n (by simp)).trans rfl
    have h_36 : M_31 (2, 0, 0) = some (.inr (0, fs2)) := by rw [eM_31]; exact (hm_up_n (by simp)).trans hb2
    have a_37 : ad_30 (2, 0, 0) = (ad (2, 0, 0)) := by rw [ead_30]; exact (hm_au_n (by simp)).trans rfl
    have h_38 : M_31 (3, 0, 0) = some (.inr (0, fs3)) := by rw [eM_31]; exact (hm_up_n (by simp)).trans hb3
    have a_39 : ad_30 (3, 0, 0) = (ad (3, 0, 0)) := by rw [ead_30]; exact (hm_au_n (by simp)).trans rfl
    have h_40 : M_31 (7, 0, 0) = some (hm_ra g 1 7 (grpA ad)) := by rw [eM_31]; exact (hm_up_n (by simp)).trans h7
    have a_41 : ad_30 (7, 0, 0) = (ad (7, 0, 0)) := by rw [ead_30]; exact (hm_au_n (by simp)).trans rfl
    have h_42 : M_31 (8, 0, 0) = some (.inr (4, [.ref (ad (9, 0, 0)), .int (nI (lLa (xL x))), .int (nI (lHe (xL x))), .int (nI (lEv (xL x)))])) := by rw [eM_31]; exact (hm_up_n (by simp)).trans hLg.1
    have a_43 : ad_30 (8, 0, 0) = (ad (8, 0, 0)) := by rw [ead_30]; exact (hm_au_n (by simp)).trans rfl
    have h_44 : M_31 (20, k, 0) = some (.inr (5, [.int (nI k), .int (rMe (xRu x k)), .int (nI (rLo (xRu x k))), .int (nI (rW (xRu x k))), .int (nI (rWa (xRu x k))), .int (bI (rAb (xRu x k))), .int (rLi (xRu x k)), .int (rWt (xRu x k)), .int (rRk (xRu x k)), .ref (ad (21, k, 0))])) := by rw [eM_31]; exact (hm_up_n (by simp)).trans (hRu k hk9).1
    have a_45 : ad_30 (20, k, 0) = (ad (20, k, 0)) := by rw [ead_30]; exact (hm_au_n (by simp)).trans rfl
    have h_46 : M_31 (30, xH x, 0) = some (.inr (3, [.int 0, .int 0, .int 0])) := by rw [eM_31]; exact hm_up_s
    have a_47 : ad_30 (30, xH x, 0) = q_29 := by rw [ead_30]; exact hm_au_s
    have hfr : hm_fr ad M ad_30 M_31 (fun u => u = (30, xH x, 0)) := by rw [ead_30, eM_31]; exact hfr.au (by simp)
    refine lv_dup S.1 S.2.1 dX6_hush_82 rfl ?_
    refine lv_iload_n S.1 S.2.1 dX6_hush_83 rfl (lv_at hl 2 rfl) ?_
    refine lv_iload_n S.1 S.2.1 dX6_hush_84 rfl (lv_at hl 3 rfl) ?_
    refine lv_aload_n S.1 S.2.1 dX6_hush_85 rfl (lv_at hl 1 rfl) ?_
    refine hm_get (k := 6) S hE hG h_32 a_33 rfl hi_X60 (by decide) hb_31 rfl rfl dX6_hush_86 ?_
    refine lv_iload_n S.1 S.2.1 dX6_hush_89 rfl (lv_at hl 4 rfl) ?_
    refine lv_iadd S.1 S.2.1 dX6_hush_90 ?_
    refine hm_top (z := nI (xC x + tk)) (nI_add _ _) ?_
    refine hm_uI (As := [.int (nI k), .int pl, .int (nI (xC x + tk))]) (rest := [.ref q_29, .ref (ad (3, 0, 0))]) (st1 := [.ref q_29, .ref (ad (3, 0, 0))]) S hE hG (c_X2_init l g ad_30 M_31 (30, xH x, 0) q_29 (nI k) pl (nI (xC x + tk)) a_47 h_46) hb_324 hb_307 hb_322 hb_323 rfl hd_X2_init ⟨Nat.le_of_ble_eq_true rfl, Nat.le_of_ble_eq_true rfl⟩ rfl hl.1 rfl (Nat.le_of_ble_eq_true rfl) dX6_hush_91 ⟨Nat.le_of_ble_eq_true rfl, Nat.le_of_ble_eq_true rfl⟩ rfl (fun H locs hG => ?_)
    obtain ⟨M_49, eM_49⟩ : ∃ q9, q9 = hm_up M_31 (30, xH x, 0) (huE ((nI k), pl, (nI (xC x + tk)))) := ⟨_, rfl⟩
    rw [← eM_49] at hG
    have h_50 : M_49 (0, 0, 0) = some (.inr (7, [.ref (ad (1, 0, 0)), .ref (ad (2, 0, 0)), .ref (ad (3, 0, 0)), .ref (ad (7, 0, 0)), .ref (ad (8, 0, 0)), .ref (ad (70, 0, 0)), .int (nI (xC x)), .int (nI (xG x)), .int (nI (xP x))])) := by rw [eM_49]; exact (hm_up_n (by simp)).trans h_32
    have h_51 : M_49 (1, 0, 0) = some (.inr (0, fs1)) := by rw [eM_49]; exact (hm_up_n (by simp)).trans h_34
    have h_52 : M_49 (2, 0, 0) = some (.inr (0, fs2)) := by rw [eM_49]; exact (hm_up_n (by simp)).trans h_36
    have h_53 : M_49 (3, 0, 0) = some (.inr (0, fs3)) := by rw [eM_49]; exact (hm_up_n (by simp)).trans h_38
    have h_54 : M_49 (7, 0, 0) = some (hm_ra g 1 7 (grpA ad)) := by rw [eM_49]; exact (hm_up_n (by simp)).trans h_40
    have h_55 : M_49 (8, 0, 0) = some (.inr (4, [.ref (ad (9, 0, 0)), .int (nI (lLa (xL x))), .int (nI (lHe (xL x))), .int (nI (lEv (xL x)))])) := by rw [eM_49]; exact (hm_up_n (by simp)).trans h_42
    have h_56 : M_49 (20, k, 0) = some (.inr (5, [.int (nI k), .int (rMe (xRu x k)), .int (nI (rLo (xRu x k))), .int (nI (rW (xRu x k))), .int (nI (rWa (xRu x k))), .int (bI (rAb (xRu x k))), .int (rLi (xRu x k)), .int (rWt (xRu x k)), .int (rRk (xRu x k)), .ref (ad (21, k, 0))])) := by rw [eM_49]; exact (hm_up_n (by simp)).trans h_44
    have h_57 : M_49 (30, xH x, 0) = some (huE ((nI k), pl, (nI (xC x + tk)))) := by rw [eM_49]; exact hm_up_s
    have hfr : hm_fr ad M ad_30 M_49 (fun u => u = (30, xH x, 0)) := by rw [eM_49]; exact hfr.up (by simp)
    have hls9 : hasLi g ad_30 M_49 (3, 0, 0) (6, 0, 0) (xH x) (fun k => ad (30, k, 0)) := hLh.fr hfr (by simp) (by simp) (fun _ _ => rfl)
    refine hm_callV (As := [.ref q_29]) (rest := []) S hE hG (c_addA l a_39 hls9 (by simp) (by omega) (30, xH x, 0) q_29 3 _ _ _ _ (by simp) (by simp) h_57 a_47 rfl (List.mem_of_getElem? (i := 10) rfl)) (hm_gV hb_115 hb_116 hb_117 hb_15 hb_118) ⟨rfl, hd_Jx4a65c_add_9ea2d⟩ h_53 a_39 rfl ⟨Nat.le_of_ble_eq_true rfl, Nat.le_of_ble_eq_true rfl⟩ rfl hl.1 rfl (Nat.le_of_ble_eq_true rfl) dX6_hush_94 ⟨Nat.le_of_ble_eq_true rfl, Nat.le_of_ble_eq_true rfl⟩ (fun v9 ad_59 M_58 H locs hp9 hG => ?_)
    obtain ⟨rfl, hli9, hl9, hf9⟩ := hp9
    refine hm_st (st' := [.int 1]) rfl ?_
    refine lv_pop S.1 S.2.1 dX6_hush_97 rfl ?_
    refine lv_iload S.1 S.2.1 dX6_hush_98 (lv_at hl 0 rfl) ?_
    exact hm_iret S hG hr hlk (⟨rfl, hx.addH _ hfr hf9 hl9 h_57 a_47 hli9 hn⟩) (Nat.le_of_ble_eq_true rfl) (Nat.le_of_ble_eq_true rfl) dX6_hush_100

def x00 : XD := (0, fun _ => (0, 0, 0, fun _ => 0, fun _ _ => 0, 0, 0), 0, fun _ => (0, 0, 0, 0, false, 0, 0, 0), fun _ _ => (0, -1, 0), 0, fun _ => (0, 0, 0), fun _ => (fun _ => 0, fun _ => 0, 0, false), (fun _ _ => 0, 0, 0, 0), (0, 0, 0), 0, 0, 10)

abbrev rm_X6_init : Room := { frames := 4, cells := 58, slots := 285, locals := 72 }
set_option maxHeartbeats 4000000 in
set_option maxRecDepth 100000 in
theorem c_X6_init (l : Launch) (g : GV) (ad : AD) (M : CT) (a : Nat) (ha : ad (0, 0, 0) = a) (h1 : M (0, 0, 0) = some (.inr (7, [.null, .null, .null, .null, .null, .null, .int 0, .int 0, .int 0]))) : hm_Met l yX6_init cX6_init 2 none rm_X6_init g ad M [.ref a] (fun v ad1 M1 => v = none ∧ hasX g ad1 M1 x00 ∧ ad1 (0, 0, 0) = a ∧ hm_fr ad M ad1 M1 (fun u => u.1 < 80)) := by
  refine hm_start (own := RX6) (by decide) rfl (Nat.le_of_ble_eq_true rfl) ?_
  intro p e s m args below meth c S hr hlk hnm hE hG ls hl
  have hl : lv_has ls 2 [(0, .ref a)] := hl
  have hfr : hm_fr ad M ad M (fun u => u.1 < 80) := hm_fr.rf
  refine lv_aload_n S.1 S.2.1 dX6_init_0 rfl (lv_at hl 0 rfl) ?_
  refine hm_obj S hb_10 hb_11 hb_12 hl.1 dX6_init_1 (Nat.le_of_ble_eq_true rfl) (Nat.le_of_ble_eq_true rfl) ?_
  refine lv_aload_n S.1 S.2.1 dX6_init_4 rfl (lv_at hl 0 rfl) ?_
  refine hm_new (ci := 0) (fs := [.int 0, .null, .int 0]) S hE hG (1, 0, 0) rfl hi_Jx4a65c0 tyJx4a65c_ok hb_13 hb_14 hb_15 (by decide) (Nat.le_of_ble_eq_true rfl) (Nat.le_of_ble_eq_true rfl) dX6_init_5 (fun q_1 H hG => ?_)
  obtain ⟨ad_2, ead_2⟩ : ∃ q9, q9 = hm_au ad (1, 0, 0) q_1 := ⟨_, rfl⟩
  obtain ⟨M_3, eM_3⟩ : ∃ q9, q9 = hm_up M (1, 0, 0) (.inr (0, [.int 0, .null, .int 0])) := ⟨_, rfl⟩
  rw [← ead_2, ← eM_3] at hG
  have h_4 : M_3 (0, 0, 0) = some (.inr (7, [.null, .null, .null, .null, .null, .null, .int 0, .int 0, .int 0])) := by rw [eM_3]; exact (hm_up_n (by simp)).trans h1
  have a_5 : ad_2 (0, 0, 0) = a := by rw [ead_2]; exact (hm_au_n (by simp)).trans ha
  have h_6 : M_3 (1, 0, 0) = some (.inr (0, [.int 0, .null, .int 0])) := by rw [eM_3]; exact hm_up_s
  have a_7 : ad_2 (1, 0, 0) = q_1 := by rw [ead_2]; exact hm_au_s
  have hfr : hm_fr ad M ad_2 M_3 (fun u => u.1 < 80) := by rw [ead_2, eM_3]; exact hfr.au (by simp)
  refine lv_dup S.1 S.2.1 dX6_init_8 rfl ?_
  refine hm_uI (As := []) (rest := [.ref q_1, .ref a]) (st1 := [.ref q_1, .ref a]) S hE hG (c_Jx4a65c_init_da8c8 l g ad_2 M_3 (1, 0, 0) q_1 a_7 h_6) hb_36 hb_15 hb_34 hb_35 rfl hd_Jx4a65c_init_da8c8 ⟨Nat.le_of_ble_eq_true rfl, Nat.le_of_ble_eq_true rfl⟩ rfl hl.1 rfl (Nat.le_of_ble_eq_true rfl) dX6_init_9 ⟨Nat.le_of_ble_eq_true rfl, Nat.le_of_ble_eq_true rfl⟩ rfl (fun H locs hG => ?_)
  obtain ⟨M_9, eM_9⟩ : ∃ q9, q9 = hm_up M_3 (1, 0, 0) (liE 0 (hm_b g 1) 0) := ⟨_, rfl⟩
  rw [← eM_9] at hG
  have h_10 : M_9 (0, 0, 0) = some (.inr (7, [.null, .null, .null, .null, .null, .null, .int 0, .int 0, .int 0])) := by rw [eM_9]; exact (hm_up_n (by simp)).trans h_4
  have h_11 : M_9 (1, 0, 0) = some (liE 0 (hm_b g 1) 0) := by rw [eM_9]; exact hm_up_s
  have hfr : hm_fr ad M ad_2 M_9 (fun u => u.1 < 80) := by rw [eM_9]; exact hfr.up (by simp)
  refine hm_putF (k := 0) (fs' := [.ref q_1, .null, .null, .null, .null, .null, .int 0, .int 0, .int 0]) S hE hG (hnm) h_10 a_5 rfl hi_X60 tyX6_ok nmX6 (by decide) hb_16 rfl rfl rfl (by rfl) (by rfl) (Nat.le_of_ble_eq_true rfl) rfl dX6_init_12 (fun H locs hG => ?_)
  obtain ⟨M_12, eM_12⟩ : ∃ q9, q9 = hm_up M_9 (0, 0, 0) (.inr (7, [.ref q_1, .null, .null, .null, .null, .null, .int 0, .int 0, .int 0])) := ⟨_, rfl⟩
  rw [← eM_12] at hG
  have h_13 : M_12 (0, 0, 0) = some (.inr (7, [.ref q_1, .null, .null, .null, .null, .null, .int 0, .int 0, .int 0])) := by rw [eM_12]; exact hm_up_s
  have h_14 : M_12 (1, 0, 0) = some (liE 0 (hm_b g 1) 0) := by rw [eM_12]; exact (hm_up_n (by simp)).trans h_11
  have hfr : hm_fr ad M ad_2 M_12 (fun u => u.1 < 80) := by rw [eM_12]; exact hfr.up (by simp)
  refine lv_aload_n S.1 S.2.1 dX6_init_15 rfl (lv_at hl 0 rfl) ?_
  refine hm_new (ci := 0) (fs := [.int 0, .null, .int 0]) S hE hG (2, 0, 0) rfl hi_Jx4a65c0 tyJx4a65c_ok hb_13 hb_14 hb_15 (by decide) (Nat.le_of_ble_eq_true rfl) (Nat.le_of_ble_eq_true rfl) dX6_init_16 (fun q_15 H hG => ?_)
  obtain ⟨ad_16, ead_16⟩ : ∃ q9, q9 = hm_au ad_2 (2, 0, 0) q_15 := ⟨_, rfl⟩
  obtain ⟨M_17, eM_17⟩ : ∃ q9, q9 = hm_up M_12 (2, 0, 0) (.inr (0, [.int 0, .null, .int 0])) := ⟨_, rfl⟩
  rw [← ead_16, ← eM_17] at hG
  have h_18 : M_17 (0, 0, 0) = some (.inr (7, [.ref q_1, .null, .null, .null, .null, .null, .int 0, .int 0, .int 0])) := by rw [eM_17]; exact (hm_up_n (by simp)).trans h_13
  have a_19 : ad_16 (0, 0, 0) = a := by rw [ead_16]; exact (hm_au_n (by simp)).trans a_5
  have h_20 : M_17 (1, 0, 0) = some (liE 0 (hm_b g 1) 0) := by rw [eM_17]; exact (hm_up_n (by simp)).trans h_14
  have a_21 : ad_16 (1, 0, 0) = q_1 := by rw [ead_16]; exact (hm_au_n (by simp)).trans a_7
  have h_22 : M_17 (2, 0, 0) = some (.inr (0, [.int 0, .null, .int 0])) := by rw [eM_17]; exact hm_up_s
  have a_23 : ad_16 (2, 0, 0) = q_15 := by rw [ead_16]; exact hm_au_s
  have hfr : hm_fr ad M ad_16 M_17 (fun u => u.1 < 80) := by rw [ead_16, eM_17]; exact hfr.au (by simp)
  refine lv_dup S.1 S.2.1 dX6_init_19 rfl ?_
  refine hm_uI (As := []) (rest := [.ref q_15, .ref a]) (st1 := [.ref q_15, .ref a]) S hE hG (c_Jx4a65c_init_da8c8 l g ad_16 M_17 (2, 0, 0) q_15 a_23 h_22) hb_36 hb_15 hb_34 hb_35 rfl hd_Jx4a65c_init_da8c8 ⟨Nat.le_of_ble_eq_true rfl, Nat.le_of_ble_eq_true rfl⟩ rfl hl.1 rfl (Nat.le_of_ble_eq_true rfl) dX6_init_20 ⟨Nat.le_of_ble_eq_true rfl, Nat.le_of_ble_eq_true rfl⟩ rfl (fun H locs hG => ?_)
  obtain ⟨M_25, eM_25⟩ : ∃ q9, q9 = hm_up M_17 (2, 0, 0) (liE 0 (hm_b g 1) 0) := ⟨_, rfl⟩
  rw [← eM_25] at hG
  have h_26 : M_25 (0, 0, 0) = some (.inr (7, [.ref q_1, .null, .null, .null, .null, .null, .int 0, .int 0, .int 0])) := by rw [eM_25]; exact (hm_up_n (by simp)).trans h_18
  have h_27 : M_25 (1, 0, 0) = some (liE 0 (hm_b g 1) 0) := by rw [eM_25]; exact (hm_up_n (by simp)).trans h_20
  have h_28 : M_25 (2, 0, 0) = some (liE 0 (hm_b g 1) 0) := by rw [eM_25]; exact hm_up_s
  have hfr : hm_fr ad M ad_16 M_25 (fun u => u.1 < 80) := by rw [eM_25]; exact hfr.up (by simp)
  refine hm_putF (k := 1) (fs' := [.ref q_1, .ref q_15, .null, .null, .null, .null, .int 0, .int 0, .int 0]) S hE hG (hnm) h_26 a_19 rfl hi_X60 tyX6_ok nmX6 (by decide) hb_17 rfl rfl rfl (by rfl) (by rfl) (Nat.le_of_ble_eq_true rfl) rfl dX6_init_23 (fun H locs hG => ?_)
  obtain ⟨M_29, eM_29⟩ : ∃ q9, q9 = hm_up M_25 (0, 0, 0) (.inr (7, [.ref q_1, .ref q_15, .null, .null, .null, .null, .int 0, .int 0, .int 0])) := ⟨_, rfl⟩
  rw [← eM_29] at hG
  have h_30 : M_29 (0, 0, 0) = some (.inr (7, [.ref q_1, .ref q_15, .null, .null, .null, .null, .int 0, .int 0, .int 0])) := by rw [eM_29]; exact hm_up_s
  have h_31 : M_29 (1, 0, 0) = some (liE 0 (hm_b g 1) 0) := by rw [eM_29]; exact (hm_up_n (by simp)).trans h_27
  have h_32 : M_29 (2, 0, 0) = some (liE 0 (hm_b g 1) 0) := by rw [eM_29]; exact (hm_up_n (by simp)).trans h_28
  have hfr : hm_fr ad M ad_16 M_29 (fun u => u.1 < 80) := by rw [eM_29]; exact hfr.up (by simp)
  refine lv_aload_n S.1 S.2.1 dX6_init_26 rfl (lv_at hl 0 rfl) ?_
  refine hm_new (ci := 0) (fs := [.int 0, .null, .int 0]) S hE hG (3, 0, 0) rfl hi_Jx4a65c0 tyJx4a65c_ok hb_13 hb_14 hb_15 (by decide) (Nat.le_of_ble_eq_true rfl) (Nat.le_of_ble_eq_true rfl) dX6_init_27 (fun q_33 H hG => ?_)
  obtain ⟨ad_34, ead_34⟩ : ∃ q9, q9 = hm_au ad_16 (3, 0, 0) q_33 := ⟨_, rfl⟩
  obtain ⟨M_35, eM_35⟩ : ∃ q9, q9 = hm_up M_29 (3, 0, 0) (.inr (0, [.int 0, .null, .int 0])) := ⟨_, rfl⟩
  rw [← ead_34, ← eM_35] at hG
  have h_36 : M_35 (0, 0, 0) = some (.inr (7, [.ref q_1, .ref q_15, .null, .null, .null, .null, .int 0, .int 0, .int 0])) := by rw [eM_35]; exact (hm_up_n (by simp)).trans h_30
  have a_37 : ad_34 (0, 0, 0) = a := by rw [ead_34]; exact (hm_au_n (by simp)).trans a_19
  have h_38 : M_35 (1, 0, 0) = some (liE 0 (hm_b g 1) 0) := by rw [eM_35]; exact (hm_up_n (by simp)).trans h_31
  have a_39 : ad_34 (1, 0, 0) = q_1 := by rw [ead_34]; exact (hm_au_n (by simp)).trans a_21
  have h_40 : M_35 (2, 0, 0) = some (liE 0 (hm_b g 1) 0) := by rw [eM_35]; exact (hm_up_n (by simp)).trans h_32
  have a_41 : ad_34 (2, 0, 0) = q_15 := by rw [ead_34]; exact (hm_au_n (by simp)).trans a_23
  have h_42 : M_35 (3, 0, 0) = some (.inr (0, [.int 0, .null, .int 0])) := by rw [eM_35]; exact hm_up_s
  have a_43 : ad_34 (3, 0, 0) = q_33 := by rw [ead_34]; exact hm_au_s
  have hfr : hm_fr ad M ad_34 M_35 (fun u => u.1 < 80) := by rw [ead_34, eM_35]; exact hfr.au (by simp)
  refine lv_dup S.1 S.2.1 dX6_init_30 rfl ?_
  refine hm_uI (As := []) (rest := [.ref q_33, .ref a]) (st1 := [.ref q_33, .ref a]) S hE hG (c_Jx4a65c_init_da8c8 l g ad_34 M_35 (3, 0, 0) q_33 a_43 h_42) hb_36 hb_15 hb_34 hb_35 rfl hd_Jx4a65c_init_da8c8 ⟨Nat.le_of_ble_eq_true rfl, Nat.le_of_ble_eq_true rfl⟩ rfl hl.1 rfl (Nat.le_of_ble_eq_true rfl) dX6_init_31 ⟨Nat.le_of_ble_eq_true rfl, Nat.le_of_ble_eq_true rfl⟩ rfl (fun H locs hG => ?_)
  obtain ⟨M_45, eM_45⟩ : ∃ q9, q9 = hm_up M_35 (3, 0, 0) (liE 0 (hm_b g 1) 0) := ⟨_, rfl⟩
  rw [← eM_45] at hG
  have h_46 : M_45 (0, 0, 0) = some (.inr (7, [.ref q_1, .ref q_15, .null, .null, .null, .null, .int 0, .int 0, .int 0])) := by rw [eM_45]; exact (hm_up_n (by simp)).trans h_36
  have h_47 : M_45 (1, 0, 0) = some (liE 0 (hm_b g 1) 0) := by rw [eM_45]; exact (hm_up_n (by simp)).trans h_38
  have h_48 : M_45 (2, 0, 0) = some (liE 0 (hm_b g 1) 0) := by rw [eM_45]; exact (hm_up_n (by simp)).trans h_40
  have h_49 : M_45 (3, 0, 0) = some (liE 0 (hm_b g 1) 0) := by rw [eM_45]; exact hm_up_s
  have hfr : hm_fr ad M ad_34 M_45 (fun u => u.1 < 80) := by rw [eM_45]; exact hfr.up (by simp)
  refine hm_putF (k := 2) (fs' := [.ref q_1, .ref q_15, .ref q_33, .null, .null, .null, .int 0, .int 0, .int 0]) S hE hG (hnm) h_46 a_37 rfl hi_X60 tyX6_ok nmX6 (by decide) hb_18 rfl rfl rfl (by rfl) (by rfl) (Nat.le_of_ble_eq_true rfl) rfl dX6_init_34 (fun H locs hG => ?_)
  obtain ⟨M_50, eM_50⟩ : ∃ q9, q9 = hm_up M_45 (0, 0, 0) (.inr (7, [.ref q_1, .ref q_15, .ref q_33, .null, .null, .null, .int 0, .int 0, .int 0])) := ⟨_, rfl⟩
  rw [← eM_50] at hG
  have h_51 : M_50 (0, 0, 0) = some (.inr (7, [.ref q_1, .ref q_15, .ref q_33, .null, .null, .null, .int 0, .int 0, .int 0])) := by rw [eM_50]; exact hm_up_s
  have h_52 : M_50 (1, 0, 0) = some (liE 0 (hm_b g 1) 0) := by rw [eM_50]; exact (hm_up_n (by simp)).trans h_47
  have h_53 : M_50 (2, 0, 0) = some (liE 0 (hm_b g 1) 0) := by rw [eM_50]; exact (hm_up_n (by simp)).trans h_48
  have h_54 : M_50 (3, 0, 0) = some (liE 0 (hm_b g 1) 0) := by rw [eM_50]; exact (hm_up_n (by simp)).trans h_49
  have hfr : hm_fr ad M ad_34 M_50 (fun u => u.1 < 80) := by rw [eM_50]; exact hfr.up (by simp)
  refine lv_aload_n S.1 S.2.1 dX6_init_37 rfl (lv_at hl 0 rfl) ?_
  refine lv_bipush (v := 7) S.1 S.2.1 dX6_init_38 (by decide) ?_
  refine hm_newQ (k := 1) (N := 7) S hE hG (7, 0, 0) rfl hb_19 hE.2.2.2.2.1 (by decide) (by decide) (by decide) (Nat.le_of_ble_eq_true rfl) (Nat.le_of_ble_eq_true rfl) dX6_init_40 (fun q_55 H hG => ?_)
  obtain ⟨ad_56, ead_56⟩ : ∃ q9, q9 = hm_au ad_34 (7, 0, 0) q_55 := ⟨_, rfl⟩
  obtain ⟨M_57, eM_57⟩ : ∃ q9, q9 = hm_up M_50 (7, 0, 0) (hm_ra g 1 7 (fun _ => none)) := ⟨_, rfl⟩
  rw [← ead_56, ← eM_57] at hG
  have h_58 : M_57 (0, 0, 0) = some (.inr (7, [.ref q_1, .ref q_15, .ref q_33, .null, .null, .null, .int 0, .int 0, .int 0])) := by rw [eM_57]; exact (hm_up_n (by simp)).trans h_51
  have a_59 : ad_56 (0, 0, 0) = a := by rw [ead_56]; exact (hm_au_n (by simp)).trans a_37
  have h_60 : M_57 (1, 0, 0) = some (liE 0 (hm_b g 1) 0) := by rw [eM_57]; exact (hm_up_n (by simp)).trans h_52
  have a_61 : ad_56 (1, 0, 0) = q_1 := by rw [ead_56]; exact (hm_au_n (by simp)).trans a_39
  have h_62 : M_57 (2, 0, 0) = some (liE 0 (hm_b g 1) 0) := by rw [eM_57]; exact (hm_up_n (by simp)).trans h_53
  have a_63 : ad_56 (2, 0, 0) = q_15 := by rw [ead_56]; exact (hm_au_n (by simp)).trans a_41
  have h_64 : M_57 (3, 0, 0) = some (liE 0 (hm_b g 1) 0) := by rw [eM_57]; exact (hm_up_n (by simp)).trans h_54
  have a_65 : ad_56 (3, 0, 0) = q_33 := by rw [ead_56]; exact (hm_au_n (by simp)).trans a_43
  have h_66 : M_57 (7, 0, 0) = some (hm_ra g 1 7 (fun _ => none)) := by rw [eM_57]; exact hm_up_s
  have a_67 : ad_56 (7, 0, 0) = q_55 := by rw [ead_56]; exact hm_au_s
  have hfr : hm_fr ad M ad_56 M_57 (fun u => u.1 < 80) := by rw [ead_56, eM_57]; exact hfr.au (by simp)
  refine hm_putF (k := 3) (fs' := [.ref q_1, .ref q_15, .ref q_33, .ref q_55, .null, .null, .int 0, .int 0, .int 0]) S hE hG (hnm) h_58 a_59 rfl hi_X60 tyX6_ok nmX6 (by decide) hb_20 rfl rfl rfl (by rfl) (by rfl) (Nat.le_of_ble_eq_true rfl) rfl dX6_init_43 (fun H locs hG => ?_)
  obtain ⟨M_69, eM_69⟩ : ∃ q9, q9 = hm_up M_57 (0, 0, 0) (.inr (7, [.ref q_1, .ref q_15, .ref q_33, .ref q_55, .null, .null, .int 0, .int 0, .int 0])) := ⟨_, rfl⟩
  rw [← eM_69] at hG
  have h_70 : M_69 (0, 0, 0) = some (.inr (7, [.ref q_1, .ref q_15, .ref q_33, .ref q_55, .null, .null, .int 0, .int 0, .int 0])) := by rw [eM_69]; exact hm_up_s
  have h_71 : M_69 (1, 0, 0) = some (liE 0 (hm_b g 1) 0) := by rw [eM_69]; exact (hm_up_n (by simp)).trans h_60
  have h_72 : M_69 (2, 0, 0) = some (liE 0 (hm_b g 1) 0) := by rw [eM_69]; exact (hm_up_n (by simp)).trans h_62
  have h_73 : M_69 (3, 0, 0) = some (liE 0 (hm_b g 1) 0) := by rw [eM_69]; exact (hm_up_n (by simp)).trans h_64
  have h_74 : M_69 (7, 0, 0) = some (hm_ra g 1 7 (fun _ => none)) := by rw [eM_69]; exact (hm_up_n (by simp)).trans h_66
  have hfr : hm_fr ad M ad_56 M_69 (fun u => u.1 < 80) := by rw [eM_69]; exact hfr.up (by simp)
  refine lv_iconst (v := 0) S.1 S.2.1 dX6_init_46 (by decide) ?_
  refine lv_istore_n (lv' := [(1, .int 0), (0, .ref a)]) S.1 S.2.1 dX6_init_47 rfl hl (by decide) rfl (fun ls hl => ?_)
  refine lv_iload_n S.1 S.2.1 dX6_init_48 rfl (lv_at hl 0 rfl) ?_
  refine lv_bipush (v := 7) S.1 S.2.1 dX6_init_49 (by decide) ?_
  refine lv_icmp_ge (tgt := 73) S.1 S.2.1 dX6_init_51 (by decide) (fun h9 => absurd h9 (by decide)) (fun _ => ?_)
  refine lv_aload_n S.1 S.2.1 dX6_init_54 rfl (lv_at hl 1 rfl) ?_
  refine hm_get (k := 3) S hE hG h_70 a_59 rfl hi_X60 (by decide) hb_20 rfl rfl dX6_init_55 ?_
  refine lv_iload_n S.1 S.2.1 dX6_init_58 rfl (lv_at hl 0 rfl) ?_
  refine hm_new (ci := 2) (fs := [.null, .null, .int 0, .int 0]) S hE hG (60, 0, 0) rfl hi_X10 tyX1_ok hb_19 hb_21 hb_22 (by decide) (Nat.le_of_ble_eq_true rfl) (Nat.le_of_ble_eq_true rfl) dX6_init_59 (fun q_75 H hG => ?_)
  obtain ⟨ad_76, ead_76⟩ : ∃ q9, q9 = hm_au ad_56 (60, 0, 0) q_75 := ⟨_, rfl⟩
  obtain ⟨M_77, eM_77⟩ : ∃ q9, q9 = hm_up M_69 (60, 0, 0) (.inr (2, [.null, .null, .int 0, .int 0])) := ⟨_, rfl⟩
  rw [← ead_76, ← eM_77] at hG
  have h_78 : M_77 (0, 0, 0) = some (.inr (7, [.ref q_1, .ref q_15, .ref q_33, .ref q_55, .null, .null, .int 0, .int 0, .int 0])) := by rw [eM_77]; exact (hm_up_n (by simp)).trans h_70
  have a_79 : ad_76 (0, 0, 0) = a := by rw [ead_76]; exact (hm_au_n (by simp)).trans a_59
  have h_80 : M_77 (1, 0, 0) = some (liE 0 (hm_b g 1) 0) := by rw [eM_77]; exact (hm_up_n (by simp)).trans h_71
  have a_81 : ad_76 (1, 0, 0) = q_1 := by rw [ead_76]; exact (hm_au_n (by simp)).trans a_61
  have h_82 : M_77 (2, 0, 0) = some (liE 0 (hm_b g 1) 0) := by rw [eM_77]; exact (hm_up_n (by simp)).trans h_72
  have a_83 : ad_76 (2, 0, 0) = q_15 := by rw [ead_76]; exact (hm_au_n (by simp)).trans a_63
  have h_84 : M_77 (3, 0, 0) = some (liE 0 (hm_b g 1) 0) := by rw [eM_77]; exact (hm_up_n (by simp)).trans h_73
  have a_85 : ad_76 (3, 0, 0) = q_33 := by rw [ead_76]; exact (hm_au_n (by simp)).trans a_65
  have h_86 : M_77 (7, 0, 0) = some (hm_ra g 1 7 (fun _ => none)) := by rw [eM_77]; exact (hm_up_n (by simp)).trans h_74
  have a_87 : ad_76 (7, 0, 0) = q_55 := by rw [ead_76]; exact (hm_au_n (by simp)).trans a_67
  have h_88 : M_77 (60, 0, 0) = some (.inr (2, [.null, .null, .int 0, .int 0])) := by rw [eM_77]; exact hm_up_s
  have a_89 : ad_76 (60, 0, 0) = q_75 := by rw [ead_76]; exact hm_au_s
  have hfr : hm_fr ad M ad_76 M_77 (fun u => u.1 < 80) := by rw [ead_76, eM_77]; exact hfr.au (by simp)
  refine lv_dup S.1 S.2.1 dX6_init_62 rfl ?_
  refine hm_callIN (As := []) (rest := [.ref q_75, .int 0, .ref q_55]) S hE hG (c_X1_init l g ad_76 M_77 0 q_75 a_89 h_88) hb_50 hb_22 (List.mem_of_getElem? (i := 0) rfl) hb_49 rfl hd_X1_init ⟨Nat.le_of_ble_eq_true rfl, Nat.le_of_ble_eq_true rfl⟩ rfl hl.1 rfl (Nat.le_of_ble_eq_true rfl) dX6_init_63 ⟨Nat.le_of_ble_eq_true rfl, Nat.le_of_ble_eq_true rfl⟩ (fun v9 ad_92 M_91 H locs hp9 hG => ?_)
  obtain ⟨rfl, hgr9, had9, hf9⟩ := hp9
  refine hm_st (st' := [.ref q_75, .int 0, .ref q_55]) rfl ?_
  have h_93 : M_91 (0, 0, 0) = some (.inr (7, [.ref q_1, .ref q_15, .ref q_33, .ref q_55, .null, .null, .int 0, .int 0, .int 0])) := ((hf9 (0, 0, 0) (by simp)).2).trans h_78
  have a_94 : ad_92 (0, 0, 0) = a := ((hf9 (0, 0, 0) (by simp)).1).trans a_79
  have h_95 : M_91 (1, 0, 0) = some (liE 0 (hm_b g 1) 0) := ((hf9 (1, 0, 0) (by simp)).2).trans h_80
  have a_96 : ad_92 (1, 0, 0) = q_1 := ((hf9 (1, 0, 0) (by simp)).1).trans a_81
  have h_97 : M_91 (2, 0, 0) = some (liE 0 (hm_b g 1) 0) := ((hf9 (2, 0, 0) (by simp)).2).trans h_82
  have a_98 : ad_92 (2, 0, 0) = q_15 := ((hf9 (2, 0, 0) (by simp)).1).trans a_83
  have h_99 : M_91 (3, 0, 0) = some (liE 0 (hm_b g 1) 0) := ((hf9 (3, 0, 0) (by simp)).2).trans h_84
  have a_100 : ad_92 (3, 0, 0) = q_33 := ((hf9 (3, 0, 0) (by simp)).1).trans a_85
  have h_101 : M_91 (7, 0, 0) = some (hm_ra g 1 7 (fun _ => none)) := ((hf9 (7, 0, 0) (by simp)).2).trans h_86
  have a_102 : ad_92 (7, 0, 0) = q_55 := ((hf9 (7, 0, 0) (by simp)).1).trans a_87
  have hfr : hm_fr ad M ad_92 M_91 (fun u => u.1 < 80) := hfr.tr hf9 (by simp)
  have hg0 := hgr9
  refine hm_astq2 (j := 0) S hE hG h_101 a_102 rfl hgr9.1 had9 rfl (by unfold vp_in; decide) (by decide) dX6_init_66 (fun H locs hG => ?_)
  obtain ⟨M_103, eM_103⟩ : ∃ q9, q9 = hm_up M_91 (7, 0, 0) (hm_ra g 1 7 (va_up (fun _ => none) 0 (some q_75))) := ⟨_, rfl⟩
  rw [← eM_103] at hG
  have h_104 : M_103 (0, 0, 0) = some (.inr (7, [.ref q_1, .ref q_15, .ref q_33, .ref q_55, .null, .null, .int 0, .int 0, .int 0])) := by rw [eM_103]; exact (hm_up_n (by simp)).trans h_93
  have h_105 : M_103 (1, 0, 0) = some (liE 0 (hm_b g 1) 0) := by rw [eM_103]; exact (hm_up_n (by simp)).trans h_95
  have h_106 : M_103 (2, 0, 0) = some (liE 0 (hm_b g 1) 0) := by rw [eM_103]; exact (hm_up_n (by simp)).trans h_97
  have h_107 : M_103 (3, 0, 0) = some (liE 0 (hm_b g 1) 0) := by rw [eM_103]; exact (hm_up_n (by simp)).trans h_99
  have h_108 : M_103 (7, 0, 0) = some (hm_ra g 1 7 (va_up (fun _ => none) 0 (some q_75))) := by rw [eM_103]; exact hm_up_s
  have h_109 : M_103 (60, 0, 0) = some (.inr (2, [.ref (ad_92 (61, 0, 0)), .ref (ad_92 (62, 0, 0)), .int 0, .int (bI false)])) := by rw [eM_103]; exact (hm_up_n (by simp)).trans hgr9.1
  have hfr : hm_fr ad M ad_92 M_103 (fun u => u.1 < 80) := by rw [eM_103]; exact hfr.up (by simp)
  have hev : hm_fr ad_92 M_91 ad_92 M_103 (fun u => u = (7, 0, 0)) := by rw [eM_103]; exact hm_fr.rf.up rfl
  have hg0 : hasGr g ad_92 M_103 0 (fun _ => 0, fun _ => 0, 0, false) := hg0.fr hev (by rintro ⟨u1, u2, u3⟩ hu hs; simp only [Prod.mk.injEq] at hu hs; omega)
  refine lv_iinc (v := 1) (lv' := [(1, .int 1), (0, .ref a)]) S.1 S.2.1 dX6_init_67 hl (k := 0) rfl (by decide) (by decide) rfl (fun ls hl => ?_)
  refine lv_goto (tgt := 48) S.1 S.2.1 dX6_init_70 (by decide) ?_
  refine lv_iload_n S.1 S.2.1 dX6_init_48 rfl (lv_at hl 0 rfl) ?_
  refine lv_bipush (v := 7) S.1 S.2.1 dX6_init_49 (by decide) ?_
  refine lv_icmp_ge (tgt := 73) S.1 S.2.1 dX6_init_51 (by decide) (fun h9 => absurd h9 (by decide)) (fun _ => ?_)
  refine lv_aload_n S.1 S.2.1 dX6_init_54 rfl (lv_at hl 1 rfl) ?_
  refine hm_get (k := 3) S hE hG h_104 a_94 rfl hi_X60 (by decide) hb_20 rfl rfl dX6_init_55 ?_
  refine lv_iload_n S.1 S.2.1 dX6_init_58 rfl (lv_at hl 0 rfl) ?_
  refine hm_new (ci := 2) (fs := [.null, .null, .int 0, .int 0]) S hE hG (60, 1, 0) rfl hi_X10 tyX1_ok hb_19 hb_21 hb_22 (by decide) (Nat.le_of_ble_eq_true rfl) (Nat.le_of_ble_eq_true rfl) dX6_init_59 (fun q_110 H hG => ?_)
  obtain ⟨ad_111, ead_111⟩ : ∃ q9, q9 = hm_au ad_92 (60, 1, 0) q_110 := ⟨_, rfl⟩
  obtain ⟨M_112, eM_112⟩ : ∃ q9, q9 = hm_up M_103 (60, 1, 0) (.inr (2, [.null, .null, .int 0, .int 0])) := ⟨_, rfl⟩
  rw [← ead_111, ← eM_112] at hG
  have h_113 : M_112 (0, 0, 0) = some (.inr (7, [.ref q_1, .ref q_15, .ref q_33, .ref q_55, .null, .null, .int 0, .int 0, .int 0])) := by rw [eM_112]; exact (hm_up_n (by simp)).trans h_104
  have a_114 : ad_111 (0, 0, 0) = a := by rw [ead_111]; exact (hm_au_n (by simp)).trans a_94
  have h_115 : M_112 (1, 0, 0) = some (liE 0 (hm_b g 1) 0) := by rw [eM_112]; exact (hm_up_n (by simp)).trans h_105
  have a_116 : ad_111 (1, 0, 0) = q_1 := by rw [ead_111]; exact (hm_au_n (by simp)).trans a_96
  have h_117 : M_112 (2, 0, 0) = some (liE 0 (hm_b g 1) 0) := by rw [eM_112]; exact (hm_up_n (by simp)).trans h_106
  have a_118 : ad_111 (2, 0, 0) = q_15 := by rw [ead_111]; exact (hm_au_n (by simp)).trans a_98
  have h_119 : M_112 (3, 0, 0) = some (liE 0 (hm_b g 1) 0) := by rw [eM_112]; exact (hm_up_n (by simp)).trans h_107
  have a_120 : ad_111 (3, 0, 0) = q_33 := by rw [ead_111]; exact (hm_au_n (by simp)).trans a_100
  have h_121 : M_112 (7, 0, 0) = some (hm_ra g 1 7 (va_up (fun _ => none) 0 (some q_75))) := by rw [eM_112]; exact (hm_up_n (by simp)).trans h_108
  have a_122 : ad_111 (7, 0, 0) = q_55 := by rw [ead_111]; exact (hm_au_n (by simp)).trans a_102
  have h_123 : M_112 (60, 0, 0) = some (.inr (2, [.ref (ad_92 (61, 0, 0)), .ref (ad_92 (62, 0, 0)), .int 0, .int (bI false)])) := by rw [eM_112]; exact (hm_up_n (by simp)).trans h_109
  have a_124 : ad_111 (60, 0, 0) = q_75 := by rw [ead_111]; exact (hm_au_n (by simp)).trans had9
  have h_125 : M_112 (60, 1, 0) = some (.inr (2, [.null, .null, .int 0, .int 0])) := by rw [eM_112]; exact hm_up_s
  have a_126 : ad_111 (60, 1, 0) = q_110 := by rw [ead_111]; exact hm_au_s
  have hfr : hm_fr ad M ad_111 M_112 (fun u => u.1 < 80) := by rw [ead_111, eM_112]; exact hfr.au (by simp)
  have hev : hm_fr ad_92 M_103 ad_111 M_112 (fun u => u = (60, 1, 0)) := by rw [ead_111, eM_112]; exact hm_fr.rf.au rfl
  have hg0 : hasGr g ad_111 M_112 0 (fun _ => 0, fun _ => 0, 0, false) := hg0.fr hev (by rintro ⟨u1, u2, u3⟩ hu hs; simp only [Prod.mk.injEq] at hu hs; omega)
  refine lv_dup S.1 S.2.1 dX6_init_62 rfl ?_
  refine hm_callIN (As := []) (rest := [.ref q_110, .int 1, .ref q_55]) S hE hG (c_X1_init l g ad_111 M_112 1 q_110 a_126 h_125) hb_50 hb_22 (List.mem_of_getElem? (i := 0) rfl) hb_49 rfl hd_X1_init ⟨Nat.le_of_ble_eq_true rfl, Nat.le_of_ble_eq_true rfl⟩ rfl hl.1 rfl (Nat.le_of_ble_eq_true rfl) dX6_init_63 ⟨Nat.le_of_ble_eq_true rfl, Nat.le_of_ble_eq_true rfl⟩ (fun v9 ad_129 M_128 H locs hp9 hG => ?_)
  obtain ⟨rfl, hgr9, had9, hf9⟩ := hp9
  refine hm_st (st' := [.ref q_110, .int 1, .ref q_55]) rfl ?_
  have hev : hm_fr ad_111 M_112 ad_129 M_128 (fun u => (u.1 = 60 ∨ u.1 = 61 ∨ u.1 = 62) ∧ u.2.1 = 1) := hf9
  have hg0 : hasGr g ad_129 M_128 0 (fun _ => 0, fun _ => 0, 0, false) := hg0.fr hev (by rintro ⟨u1, u2, u3⟩ hu hs; simp only [Prod.mk.injEq] at hu hs; omega)
  have h_130 : M_128 (0, 0, 0) = some (.inr (7, [.ref q_1, .ref q_15, .ref q_33, .ref q_55, .null, .null, .int 0, .int 0, .int 0])) := ((hf9 (0, 0, 0) (by simp)).2).trans h_113
  have a_131 : ad_129 (0, 0, 0) = a := ((hf9 (0, 0, 0) (by simp)).1).trans a_114
  have h_132 : M_128 (1, 0, 0) = some (liE 0 (hm_b g 1) 0) := ((hf9 (1, 0, 0) (by simp)).2).trans h_115
  have a_133 : ad_129 (1, 0, 0) = q_1 := ((hf9 (1, 0, 0) (by simp)).1).trans a_116
  have h_134 : M_128 (2, 0, 0) = some (liE 0 (hm_b g 1) 0) := ((hf9 (2, 0, 0) (by simp)).2).trans h_117
  have a_135 : ad_129 (2, 0, 0) = q_15 := ((hf9 (2, 0, 0) (by simp)).1).trans a_118
  have h_136 : M_128 (3, 0, 0) = some (liE 0 (hm_b g 1) 0) := ((hf9 (3, 0, 0) (by simp)).2).trans h_119
  have a_137 : ad_129 (3, 0, 0) = q_33 := ((hf9 (3, 0, 0) (by simp)).1).trans a_120
  have h_138 : M_128 (7, 0, 0) = some (hm_ra g 1 7 (va_up (fun _ => none) 0 (some q_75))) := ((hf9 (7, 0, 0) (by simp)).2).trans h_121
  have a_139 : ad_129 (7, 0, 0) = q_55 := ((hf9 (7, 0, 0) (by simp)).1).trans a_122
  have h_140 : M_128 (60, 0, 0) = some (.inr (2, [.ref (ad_92 (61, 0, 0)), .ref (ad_92 (62, 0, 0)), .int 0, .int (bI false)])) := ((hf9 (60, 0, 0) (by simp)).2).trans h_123
  have a_141 : ad_129 (60, 0, 0) = q_75 := ((hf9 (60, 0, 0) (by simp)).1).trans a_124
  have hfr : hm_fr ad M ad_129 M_128 (fun u => u.1 < 80) := hfr.tr hf9 (by simp)
  have hg1 := hgr9
  refine hm_astq2 (j := 1) S hE hG h_138 a_139 rfl hgr9.1 had9 rfl (by unfold vp_in; decide) (by decide) dX6_init_66 (fun H locs hG => ?_)
  obtain ⟨M_142, eM_142⟩ : ∃ q9, q9 = hm_up M_128 (7, 0, 0) (hm_ra g 1 7 (va_up (va_up (fun _ => none) 0 (some q_75)) 1 (some q_110))) := ⟨_, rfl⟩
  rw [← eM_142] at hG
  have h_143 : M_142 (0, 0, 0) = some (.inr (7, [.ref q_1, .ref q_15, .ref q_33, .ref q_55, .null, .null, .int 0, .int 0, .int 0])) := by rw [eM_142]; exact (hm_up_n (by simp)).trans h_130
  have h_144 : M_142 (1, 0, 0) = some (liE 0 (hm_b g 1) 0) := by rw [eM_142]; exact (hm_up_n (by simp)).trans h_132
  have h_145 : M_142 (2, 0, 0) = some (liE 0 (hm_b g 1) 0) := by rw [eM_142]; exact (hm_up_n (by simp)).trans h_134
  have h_146 : M_142 (3, 0, 0) = some (liE 0 (hm_b g 1) 0) := by rw [eM_142]; exact (hm_up_n (by simp)).trans h_136
  have h_147 : M_142 (7, 0, 0) = some (hm_ra g 1 7 (va_up (va_up (fun _ => none) 0 (some q_75)) 1 (some q_110))) := by rw [eM_142]; exact hm_up_s
  have h_148 : M_142 (60, 0, 0) = some (.inr (2, [.ref (ad_92 (61, 0, 0)), .ref (ad_92 (62, 0, 0)), .int 0, .int (bI false)])) := by rw [eM_142]; exact (hm_up_n (by simp)).trans h_140
  have h_149 : M_142 (60, 1, 0) = some (.inr (2, [.ref (ad_129 (61, 1, 0)), .ref (ad_129 (62, 1, 0)), .int 0, .int (bI false)])) := by rw [eM_142]; exact (hm_up_n (by simp)).trans hgr9.1
  have hfr : hm_fr ad M ad_129 M_142 (fun u => u.1 < 80) := by rw [eM_142]; exact hfr.up (by simp)
  have hev : hm_fr ad_129 M_128 ad_129 M_142 (fun u => u = (7, 0, 0)) := by rw [eM_142]; exact hm_fr.rf.up rfl
  have hg0 : hasGr g ad_129 M_142 0 (fun _ => 0, fun _ => 0, 0, false) := hg0.fr hev (by rintro ⟨u1, u2, u3⟩ hu hs; simp only [Prod.mk.injEq] at hu hs; omega)
  have hg1 : hasGr g ad_129 M_142 1 (fun _ => 0, fun _ => 0, 0, false) := hg1.fr hev (by rintro ⟨u1, u2, u3⟩ hu hs; simp only [Prod.mk.injEq] at hu hs; omega)
  refine lv_iinc (v := 2) (lv' := [(1, .int 2), (0, .ref a)]) S.1 S.2.1 dX6_init_67 hl (k := 0) rfl (by decide) (by decide) rfl (fun ls hl => ?_)
  refine lv_goto (tgt := 48) S.1 S.2.1 dX6_init_70 (by decide) ?_
  refine lv_iload_n S.1 S.2.1 dX6_init_48 rfl (lv_at hl 0 rfl) ?_
  refine lv_bipush (v := 7) S.1 S.2.1 dX6_init_49 (by decide) ?_
  refine lv_icmp_ge (tgt := 73) S.1 S.2.1 dX6_init_51 (by decide) (fun h9 => absurd h9 (by decide)) (fun _ => ?_)
  refine lv_aload_n S.1 S.2.1 dX6_init_54 rfl (lv_at hl 1 rfl) ?_
  refine hm_get (k := 3) S hE hG h_143 a_131 rfl hi_X60 (by decide) hb_20 rfl rfl dX6_init_55 ?_
  refine lv_iload_n S.1 S.2.1 dX6_init_58 rfl (lv_at hl 0 rfl) ?_
  refine hm_new (ci := 2) (fs := [.null, .null, .int 0, .int 0]) S hE hG (60, 2, 0) rfl hi_X10 tyX1_ok hb_19 hb_21 hb_22 (by decide) (Nat.le_of_ble_eq_true rfl) (Nat.le_of_ble_eq_true rfl) dX6_init_59 (fun q_150 H hG => ?_)
  obtain ⟨ad_151, ead_151⟩ : ∃ q9, q9 = hm_au ad_129 (60, 2, 0) q_150 := ⟨_, rfl⟩
  obtain ⟨M_152, eM_152⟩ : ∃ q9, q9 = hm_up M_142 (60, 2, 0) (.inr (2, [.null, .null, .int 0, .int 0])) := ⟨_, rfl⟩
  rw [← ead_151, ← eM_152] at hG
  have h_153 : M_152 (0, 0, 0) = some (.inr (7, [.ref q_1, .ref q_15, .ref q_33, .ref q_55, .null, .null, .int 0, .int 0, .int 0])) := by rw [eM_152]; exact (hm_up_n (by simp)).trans h_143
  have a_154 : ad_151 (0, 0, 0) = a := by rw [ead_151]; exact (hm_au_n (by simp)).trans a_131
  have h_155 : M_152 (1, 0, 0) = some (liE 0 (hm_b g 1) 0) := by rw [eM_152]; exact (hm_up_n (by simp)).trans h_144
  have a_156 : ad_151 (1, 0, 0) = q_1 := by rw [ead_151]; exact (hm_au_n (by simp)).trans a_133
  have h_157 : M_152 (2, 0, 0) = some (liE 0 (hm_b g 1) 0) := by rw [eM_152]; exact (hm_up_n (by simp)).trans h_145
  have a_158 : ad_151 (2, 0, 0) = q_15 := by rw [ead_151]; exact (hm_au_n (by simp)).trans a_135
  have h_159 : M_152 (3, 0, 0) = some (liE 0 (hm_b g 1) 0) := by rw [eM_152]; exact (hm_up_n (by simp)).trans h_146
  have a_160 : ad_151 (3, 0, 0) = q_33 := by rw [ead_151]; exact (hm_au_n (by simp)).trans a_137
  have h_161 : M_152 (7, 0, 0) = some (hm_ra g 1 7 (va_up (va_up (fun _ => none) 0 (some q_75)) 1 (some q_110))) := by rw [eM_152]; exact (hm_up_n (by simp)).trans h_147
  have a_162 : ad_151 (7, 0, 0) = q_55 := by rw [ead_151]; exact (hm_au_n (by simp)).trans a_139
  have h_163 : M_152 (60, 0, 0) = some (.inr (2, [.ref (ad_92 (61, 0, 0)), .ref (ad_92 (62, 0, 0)), .int 0, .int (bI false)])) := by rw [eM_152]; exact (hm_up_n (by simp)).trans h_148
  have a_164 : ad_151 (60, 0, 0) = q_75 := by rw [ead_151]; exact (hm_au_n (by simp)).trans a_141
  have h_165 : M_152 (60, 1, 0) = some (.inr (2, [.ref (ad_129 (61, 1, 0)), .ref (ad_129 (62, 1, 0)), .int 0, .int (bI false)])) := by rw [eM_152]; exact (hm_up_n (by simp)).trans h_149
  have a_166 : ad_151 (60, 1, 0) = q_110 := by rw [ead_151]; exact (hm_au_n (by simp)).trans had9
  have h_167 : M_152 (60, 2, 0) = some (.inr (2, [.null, .null, .int 0, .int 0])) := by rw [eM_152]; exact hm_up_s
  have a_168 : ad_151 (60, 2, 0) = q_150 := by rw [ead_151]; exact hm_au_s
  have hfr : hm_fr ad M ad_151 M_152 (fun u => u.1 < 80) := by rw [ead_151, eM_152]; exact hfr.au (by simp)
  have hev : hm_fr ad_129 M_142 ad_151 M_152 (fun u => u = (60, 2, 0)) := by rw [ead_151, eM_152]; exact hm_fr.rf.au rfl
  have hg0 : hasGr g ad_151 M_152 0 (fun _ => 0, fun _ => 0, 0, false) := hg0.fr hev (by rintro ⟨u1, u2, u3⟩ hu hs; simp only [Prod.mk.injEq] at hu hs; omega)
  have hg1 : hasGr g ad_151 M_152 1 (fun _ => 0, fun _ => 0, 0, false) := hg1.fr hev (by rintro ⟨u1, u2, u3⟩ hu hs; simp only [Prod.mk.injEq] at hu hs; omega)
  refine lv_dup S.1 S.2.1 dX6_init_62 rfl ?_
  refine hm_callIN (As := []) (rest := [.ref q_150, .int 2, .ref q_55]) S hE hG (c_X1_init l g ad_151 M_152 2 q_150 a_168 h_167) hb_50 hb_22 (List.mem_of_getElem? (i := 0) rfl) hb_49 rfl hd_X1_init ⟨Nat.le_of_ble_eq_true rfl, Nat.le_of_ble_eq_true rfl⟩ rfl hl.1 rfl (Nat.le_of_ble_eq_true rfl) dX6_init_63 ⟨Nat.le_of_ble_eq_true rfl, Nat.le_of_ble_eq_true rfl⟩ (fun v9 ad_171 M_170 H locs hp9 hG => ?_)
  obtain ⟨rfl, hgr9, had9, hf9⟩ := hp9
  refine hm_st (st' := [.ref q_150, .int 2, .ref q_55]) rfl ?_
  have hev : hm_fr ad_151 M_152 ad_171 M_170 (fun u => (u.1 = 60 ∨ u.1 = 61 ∨ u.1 = 62) ∧ u.2.1 = 2) := hf9
  have hg0 : hasGr g ad_171 M_170 0 (fun _ => 0, fun _ => 0, 0, false) := hg0.fr hev (by rintro ⟨u1, u2, u3⟩ hu hs; simp only [Prod.mk.injEq] at hu hs; omega)
  have hg1 : hasGr g ad_171 M_170 1 (fun _ => 0, fun _ => 0, 0, false) := hg1.fr hev (by rintro ⟨u1, u2, u3⟩ hu hs; simp only [Prod.mk.injEq] at hu hs; omega)
  have h_172 : M_170 (0, 0, 0) = some (.inr (7, [.ref q_1, .ref q_15, .ref q_33, .ref q_55, .null, .null, .int 0, .int 0, .int 0])) := ((hf9 (0, 0, 0) (by simp)).2).trans h_153
  have a_173 : ad_171 (0, 0, 0) = a := ((hf9 (0, 0, 0) (by simp)).1).trans a_154
  have h_174 : M_170 (1, 0, 0) = some (liE 0 (hm_b g 1) 0) := ((hf9 (1, 0, 0) (by simp)).2).trans h_155
  have a_175 : ad_171 (1, 0, 0) = q_1 := ((hf9 (1, 0, 0) (by simp)).1).trans a_156
  have h_176 : M_170 (2, 0, 0) = some (liE 0 (hm_b g 1) 0) := ((hf9 (2, 0, 0) (by simp)).2).trans h_157
  have a_177 : ad_171 (2, 0, 0) = q_15 := ((hf9 (2, 0, 0) (by simp)).1).trans a_158
  have h_178 : M_170 (3, 0, 0) = some (liE 0 (hm_b g 1) 0) := ((hf9 (3, 0, 0) (by simp)).2).trans h_159
  have a_179 : ad_171 (3, 0, 0) = q_33 := ((hf9 (3, 0, 0) (by simp)).1).trans a_160
  have h_180 : M_170 (7, 0, 0) = some (hm_ra g 1 7 (va_up (va_up (fun _ => none) 0 (some q_75)) 1 (some q_110))) := ((hf9 (7, 0, 0) (by simp)).2).trans h_161
  have a_181 : ad_171 (7, 0, 0) = q_55 := ((hf9 (7, 0, 0) (by simp)).1).trans a_162
  have h_182 : M_170 (60, 0, 0) = some (.inr (2, [.ref (ad_92 (61, 0, 0)), .ref (ad_92 (62, 0, 0)), .int 0, .int (bI false)])) := ((hf9 (60, 0, 0) (by simp)).2).trans h_163
  have a_183 : ad_171 (60, 0, 0) = q_75 := ((hf9 (60, 0, 0) (by simp)).1).trans a_164
  have h_184 : M_170 (60, 1, 0) = some (.inr (2, [.ref (ad_129 (61, 1, 0)), .ref (ad_129 (62, 1, 0)), .int 0, .int (bI false)])) := ((hf9 (60, 1, 0) (by simp)).2).trans h_165
  have a_185 : ad_171 (60, 1, 0) = q_110 := ((hf9 (60, 1, 0) (by simp)).1).trans a_166
  have hfr : hm_fr ad M ad_171 M_170 (fun u => u.1 < 80) := hfr.tr hf9 (by simp)
  have hg2 := hgr9
  refine hm_astq2 (j := 2) S hE hG h_180 a_181 rfl hgr9.1 had9 rfl (by unfold vp_in; decide) (by decide) dX6_init_66 (fun H locs hG => ?_)
  obtain ⟨M_186, eM_186⟩ : ∃ q9, q9 = hm_up M_170 (7, 0, 0) (hm_ra g 1 7 (va_up (va_up (va_up (fun _ => none) 0 (some q_75)) 1 (some q_110)) 2 (some q_150))) := ⟨_, rfl⟩
  rw [← eM_186] at hG
  have h_187 : M_186 (0, 0, 0) = some (.inr (7, [.ref q_1, .ref q_15, .ref q_33, .ref q_55, .null, .null, .int 0, .int 0, .int 0])) := by rw [eM_186]; exact (hm_up_n (by simp)).trans h_172
  have h_188 : M_186 (1, 0, 0) = some (liE 0 (hm_b g 1) 0) := by rw [eM_186]; exact (hm_up_n (by simp)).trans h_174
  have h_189 : M_186 (2, 0, 0) = some (liE 0 (hm_b g 1) 0) := by rw [eM_186]; exact (hm_up_n (by simp)).trans h_176
  have h_190 : M_186 (3, 0, 0) = some (liE 0 (hm_b g 1) 0) := by rw [eM_186]; exact (hm_up_n (by simp)).trans h_178
  have h_191 : M_186 (7, 0, 0) = some (hm_ra g 1 7 (va_up (va_up (va_up (fun _ => none) 0 (some q_75)) 1 (some q_110)) 2 (some q_150))) := by rw [eM_186]; exact hm_up_s
  have h_192 : M_186 (60, 0, 0) = some (.inr (2, [.ref (ad_92 (61, 0, 0)), .ref (ad_92 (62, 0, 0)), .int 0, .int (bI false)])) := by rw [eM_186]; exact (hm_up_n (by simp)).trans h_182
  have h_193 : M_186 (60, 1, 0) = some (.inr (2, [.ref (ad_129 (61, 1, 0)), .ref (ad_129 (62, 1, 0)), .int 0, .int (bI false)])) := by rw [eM_186]; exact (hm_up_n (by simp)).trans h_184
  have h_194 : M_186 (60, 2, 0) = some (.inr (2, [.ref (ad_171 (61, 2, 0)), .ref (ad_171 (62, 2, 0)), .int 0, .int (bI false)])) := by rw [eM_186]; exact (hm_up_n (by simp)).trans hgr9.1
  have hfr : hm_fr ad M ad_171 M_186 (fun u => u.1 < 80) := by rw [eM_186]; exact hfr.up (by simp)
  have hev : hm_fr ad_171 M_170 ad_171 M_186 (fun u => u = (7, 0, 0)) := by rw [eM_186]; exact hm_fr.rf.up rfl
  have hg0 : hasGr g ad_171 M_186 0 (fun _ => 0, fun _ => 0, 0, false) := hg0.fr hev (by rintro ⟨u1, u2, u3⟩ hu hs; simp only [Prod.mk.injEq] at hu hs; omega)
  have hg1 : hasGr g ad_171 M_186 1 (fun _ => 0, fun _ => 0, 0, false) := hg1.fr hev (by rintro ⟨u1, u2, u3⟩ hu hs; simp only [Prod.mk.injEq] at hu hs; omega)
  have hg2 : hasGr g ad_171 M_186 2 (fun _ => 0, fun _ => 0, 0, false) := hg2.fr hev (by rintro ⟨u1, u2, u3⟩ hu hs; simp only [Prod.mk.injEq] at hu hs; omega)
  refine lv_iinc (v := 3) (lv' := [(1, .int 3), (0, .ref a)]) S.1 S.2.1 dX6_init_67 hl (k := 0) rfl (by decide) (by decide) rfl (fun ls hl => ?_)
  refine lv_goto (tgt := 48) S.1 S.2.1 dX6_init_70 (by decide) ?_
  refine lv_iload_n S.1 S.2.1 dX6_init_48 rfl (lv_at hl 0 rfl) ?_
  refine lv_bipush (v := 7) S.1 S.2.1 dX6_init_49 (by decide) ?_
  refine lv_icmp_ge (tgt := 73) S.1 S.2.1 dX6_init_51 (by decide) (fun h9 => absurd h9 (by decide)) (fun _ => ?_)
  refine lv_aload_n S.1 S.2.1 dX6_init_54 rfl (lv_at hl 1 rfl) ?_
  refine hm_get (k := 3) S hE hG h_187 a_173 rfl hi_X60 (by decide) hb_20 rfl rfl dX6_init_55 ?_
  refine lv_iload_n S.1 S.2.1 dX6_init_58 rfl (lv_at hl 0 rfl) ?_
  refine hm_new (ci := 2) (fs := [.null, .null, .int 0, .int 0]) S hE hG (60, 3, 0) rfl hi_X10 tyX1_ok hb_19 hb_21 hb_22 (by decide) (Nat.le_of_ble_eq_true rfl) (Nat.le_of_ble_eq_true rfl) dX6_init_59 (fun q_195 H hG => ?_)
  obtain ⟨ad_196, ead_196⟩ : ∃ q9, q9 = hm_au ad_171 (60, 3, 0) q_195 := ⟨_, rfl⟩
  obtain ⟨M_197, eM_197⟩ : ∃ q9, q9 = hm_up M_186 (60, 3, 0) (.inr (2, [.null, .null, .int 0, .int 0])) := ⟨_, rfl⟩
  rw [← ead_196, ← eM_197] at hG
  have h_198 : M_197 (0, 0, 0) = some (.inr (7, [.ref q_1, .ref q_15, .ref q_33, .ref q_55, .null, .null, .int 0, .int 0, .int 0])) := by rw [eM_197]; exact (hm_up_n (by simp)).trans h_187
  have a_199 : ad_196 (0, 0, 0) = a := by rw [ead_196]; exact (hm_au_n (by simp)).trans a_173
  have h_200 : M_197 (1, 0, 0) = some (liE 0 (hm_b g 1) 0) := by rw [eM_197]; exact (hm_up_n (by simp)).trans h_188
  have a_201 : ad_196 (1, 0, 0) = q_1 := by rw [ead_196]; exact (hm_au_n (by simp)).trans a_175
  have h_202 : M_197 (2, 0, 0) = some (liE 0 (hm_b g 1) 0) := by rw [eM_197]; exact (hm_up_n (by simp)).trans h_189
  have a_203 : ad_196 (2, 0, 0) = q_15 := by rw [ead_196]; exact (hm_au_n (by simp)).trans a_177
  have h_204 : M_197 (3, 0, 0) = some (liE 0 (hm_b g 1) 0) := by rw [eM_197]; exact (hm_up_n (by simp)).trans h_190
  have a_205 : ad_196 (3, 0, 0) = q_33 := by rw [ead_196]; exact (hm_au_n (by simp)).trans a_179
  have h_206 : M_197 (7, 0, 0) = some (hm_ra g 1 7 (va_up (va_up (va_up (fun _ => none) 0 (some q_75)) 1 (some q_110)) 2 (some q_150))) := by rw [eM_197]; exact (hm_up_n (by simp)).trans h_191
  have a_207 : ad_196 (7, 0, 0) = q_55 := by rw [ead_196]; exact (hm_au_n (by simp)).trans a_181
  have h_208 : M_197 (60, 0, 0) = some (.inr (2, [.ref (ad_92 (61, 0, 0)), .ref (ad_92 (62, 0, 0)), .int 0, .int (bI false)])) := by rw [eM_197]; exact (hm_up_n (by simp)).trans h_192
  have a_209 : ad_196 (60, 0, 0) = q_75 := by rw [ead_196]; exact (hm_au_n (by simp)).trans a_183
  have h_210 : M_197 (60, 1, 0) = some (.inr (2, [.ref (ad_129 (61, 1, 0)), .ref (ad_129 (62, 1, 0)), .int 0, .int (bI false)])) := by rw [eM_197]; exact (hm_up_n (by simp)).trans h_193
  have a_211 : ad_196 (60, 1, 0) = q_110 := by rw [ead_196]; exact (hm_au_n (by simp)).trans a_185
  have h_212 : M_197 (60, 2, 0) = some (.inr (2, [.ref (ad_171 (61, 2, 0)), .ref (ad_171 (62, 2, 0)), .int 0, .int (bI false)])) := by rw [eM_197]; exact (hm_up_n (by simp)).trans h_194
  have a_213 : ad_196 (60, 2, 0) = q_150 := by rw [ead_196]; exact (hm_au_n (by simp)).trans had9
  have h_214 : M_197 (60, 3, 0) = some (.inr (2, [.null, .null, .int 0, .int 0])) := by rw [eM_197]; exact hm_up_s
  have a_215 : ad_196 (60, 3, 0) = q_195 := by rw [ead_196]; exact hm_au_s
  have hfr : hm_fr ad M ad_196 M_197 (fun u => u.1 < 80) := by rw [ead_196, eM_197]; exact hfr.au (by simp)
  have hev : hm_fr ad_171 M_186 ad_196 M_197 (fun u => u = (60, 3, 0)) := by rw [ead_196, eM_197]; exact hm_fr.rf.au rfl
  have hg0 : hasGr g ad_196 M_197 0 (fun _ => 0, fun _ => 0, 0, false) := hg0.fr hev (by rintro ⟨u1, u2, u3⟩ hu hs; simp only [Prod.mk.injEq] at hu hs; omega)
  have hg1 : hasGr g ad_196 M_197 1 (fun _ => 0, fun _ => 0, 0, false) := hg1.fr hev (by rintro ⟨u1, u2, u3⟩ hu hs; simp only [Prod.mk.injEq] at hu hs; omega)
  have hg2 : hasGr g ad_196 M_197 2 (fun _ => 0, fun _ => 0, 0, false) := hg2.fr hev (by rintro ⟨u1, u2, u3⟩ hu hs; simp only [Prod.mk.injEq] at hu hs; omega)
  refine lv_dup S.1 S.2.1 dX6_init_62 rfl ?_
  refine hm_callIN (As := []) (rest := [.ref q_195, .int 3, .ref q_55]) S hE hG (c_X1_init l g ad_196 M_197 3 q_195 a_215 h_214) hb_50 hb_22 (List.mem_of_getElem? (i := 0) rfl) hb_49 rfl hd_X1_init ⟨Nat.le_of_ble_eq_true rfl, Nat.le_of_ble_eq_true rfl⟩ rfl hl.1 rfl (Nat.le_of_ble_eq_true rfl) dX6_init_63 ⟨Nat.le_of_ble_eq_true rfl, Nat.le_of_ble_eq_true rfl⟩ (fun v9 ad_218 M_217 H locs hp9 hG => ?_)
  obtain ⟨rfl, hgr9, had9, hf9⟩ := hp9
  refine hm_st (st' := [.ref q_195, .int 3, .ref q_55]) rfl ?_
  have hev : hm_fr ad_196 M_197 ad_218 M_217 (fun u => (u.1 = 60 ∨ u.1 = 61 ∨ u.1 = 62) ∧ u.2.1 = 3) := hf9
  have hg0 : hasGr g ad_218 M_217 0 (fun _ => 0, fun _ => 0, 0, false) := hg0.fr hev (by rintro ⟨u1, u2, u3⟩ hu hs; simp only [Prod.mk.injEq] at hu hs; omega)
  have hg1 : hasGr g ad_218 M_217 1 (fun _ => 0, fun _ => 0, 0, false) := hg1.fr hev (by rintro ⟨u1, u2, u3⟩ hu hs; simp only [Prod.mk.injEq] at hu hs; omega)
  have hg2 : hasGr g ad_218 M_217 2 (fun _ => 0, fun _ => 0, 0, false) := hg2.fr hev (by rintro ⟨u1, u2, u3⟩ hu hs; simp only [Prod.mk.injEq] at hu hs; omega)
  have h_219 : M_217 (0, 0, 0) = some (.inr (7, [.ref q_1, .ref q_15, .ref q_33, .ref q_55, .null, .null, .int 0, .int 0, .int 0])) := ((hf9 (0, 0, 0) (by simp)).2).trans h_198
  have a_220 : ad_218 (0, 0, 0) = a := ((hf9 (0, 0, 0) (by simp)).1).trans a_199
  have h_221 : M_217 (1, 0, 0) = some (liE 0 (hm_b g 1) 0) := ((hf9 (1, 0, 0) (by simp)).2).trans h_200
  have a_222 : ad_218 (1, 0, 0) = q_1 := ((hf9 (1, 0, 0) (by simp)).1).trans a_201
  have h_223 : M_217 (2, 0, 0) = some (liE 0 (hm_b g 1) 0) := ((hf9 (2, 0, 0) (by simp)).2).trans h_202
  have a_224 : ad_218 (2, 0, 0) = q_15 := ((hf9 (2, 0, 0) (by simp)).1).trans a_203
  have h_225 : M_217 (3, 0, 0) = some (liE 0 (hm_b g 1) 0) := ((hf9 (3, 0, 0) (by simp)).2).trans h_204
  have a_226 : ad_218 (3, 0, 0) = q_33 := ((hf9 (3, 0, 0) (by simp)).1).trans a_205
  have h_227 : M_217 (7, 0, 0) = some (hm_ra g 1 7 (va_up (va_up (va_up (fun _ => none) 0 (some q_75)) 1 (some q_110)) 2 (some q_150))) := ((hf9 (7, 0, 0) (by simp)).2).trans h_206
  have a_228 : ad_218 (7, 0, 0) = q_55 := ((hf9 (7, 0, 0) (by simp)).1).trans a_207
  have h_229 : M_217 (60, 0, 0) = some (.inr (2, [.ref (ad_92 (61, 0, 0)), .ref (ad_92 (62, 0, 0)), .int 0, .int (bI false)])) := ((hf9 (60, 0, 0) (by simp)).2).trans h_208
  have a_230 : ad_218 (60, 0, 0) = q_75 := ((hf9 (60, 0, 0) (by simp)).1).trans a_209
  have h_231 : M_217 (60, 1, 0) = some (.inr (2, [.ref (ad_129 (61, 1, 0)), .ref (ad_129 (62, 1, 0)), .int 0, .int (bI false)])) := ((hf9 (60, 1, 0) (by simp)).2).trans h_210
  have a_232 : ad_218 (60, 1, 0) = q_110 := ((hf9 (60, 1, 0) (by simp)).1).trans a_211
  have h_233 : M_217 (60, 2, 0) = some (.inr (2, [.ref (ad_171 (61, 2, 0)), .ref (ad_171 (62, 2, 0)), .int 0, .int (bI false)])) := ((hf9 (60, 2, 0) (by simp)).2).trans h_212
  have a_234 : ad_218 (60, 2, 0) = q_150 := ((hf9 (60, 2, 0) (by simp)).1).trans a_213
  have hfr : hm_fr ad M ad_218 M_217 (fun u => u.1 < 80) := hfr.tr hf9 (by simp)
  have hg3 := hgr9
  refine hm_astq2 (j := 3) S hE hG h_227 a_228 rfl hgr9.1 had9 rfl (by unfold vp_in; decide) (by decide) dX6_init_66 (fun H locs hG => ?_)
  obtain ⟨M_235, eM_235⟩ : ∃ q9, q9 = hm_up M_217 (7, 0, 0) (hm_ra g 1 7 (va_up (va_up (va_up (va_up (fun _ => none) 0 (some q_75)) 1 (some q_110)) 2 (some q_150)) 3 (some q_195))) := ⟨_, rfl⟩
  rw [← eM_235] at hG
  have h_236 : M_235 (0, 0, 0) = some (.inr (7, [.ref q_1, .ref q_15, .ref q_33, .ref q_55, .null, .null, .int 0, .int 0, .int 0])) := by rw [eM_235]; exact (hm_up_n (by simp)).trans h_219
  have h_237 : M_235 (1, 0, 0) = some (liE 0 (hm_b g 1) 0) := by rw [eM_235]; exact (hm_up_n (by simp)).trans h_221
  have h_238 : M_235 (2, 0, 0) = some (liE 0 (hm_b g 1) 0) := by rw [eM_235]; exact (hm_up_n (by simp)).trans h_223
  have h_239 : M_235 (3, 0, 0) = some (liE 0 (hm_b g 1) 0) := by rw [eM_235]; exact (hm_up_n (by simp)).trans h_225
  have h_240 : M_235 (7, 0, 0) = some (hm_ra g 1 7 (va_up (va_up (va_up (va_up (fun _ => none) 0 (some q_75)) 1 (some q_110)) 2 (some q_150)) 3 (some q_195))) := by rw [eM_235]; exact hm_up_s
  have h_241 : M_235 (60, 0, 0) = some (.inr (2, [.ref (ad_92 (61, 0, 0)), .ref (ad_92 (62, 0, 0)), .int 0, .int (bI false)])) := by rw [eM_235]; exact (hm_up_n (by simp)).trans h_229
  have h_242 : M_235 (60, 1, 0) = some (.inr (2, [.ref (ad_129 (61, 1, 0)), .ref (ad_129 (62, 1, 0)), .int 0, .int (bI false)])) := by rw [eM_235]; exact (hm_up_n (by simp)).trans h_231
  have h_243 : M_235 (60, 2, 0) = some (.inr (2, [.ref (ad_171 (61, 2, 0)), .ref (ad_171 (62, 2, 0)), .int 0, .int (bI false)])) := by rw [eM_235]; exact (hm_up_n (by simp)).trans h_233
  have h_244 : M_235 (60, 3, 0) = some (.inr (2, [.ref (ad_218 (61, 3, 0)), .ref (ad_218 (62, 3, 0)), .int 0, .int (bI false)])) := by rw [eM_235]; exact (hm_up_n (by simp)).trans hgr9.1
  have hfr : hm_fr ad M ad_218 M_235 (fun u => u.1 < 80) := by rw [eM_235]; exact hfr.up (by simp)
  have hev : hm_fr ad_218 M_217 ad_218 M_235 (fun u => u = (7, 0, 0)) := by rw [eM_235]; exact hm_fr.rf.up rfl
  have hg0 : hasGr g ad_218 M_235 0 (fun _ => 0, fun _ => 0, 0, false) := hg0.fr hev (by rintro ⟨u1, u2, u3⟩ hu hs; simp only [Prod.mk.injEq] at hu hs; omega)
  have hg1 : hasGr g ad_218 M_235 1 (fun _ => 0, fun _ => 0, 0, false) := hg1.fr hev (by rintro ⟨u1, u2, u3⟩ hu hs; simp only [Prod.mk.injEq] at hu hs; omega)
  have hg2 : hasGr g ad_218 M_235 2 (fun _ => 0, fun _ => 0, 0, false) := hg2.fr hev (by rintro ⟨u1, u2, u3⟩ hu hs; simp only [Prod.mk.injEq] at hu hs; omega)
  have hg3 : hasGr g ad_218 M_235 3 (fun _ => 0, fun _ => 0, 0, false) := hg3.fr hev (by rintro ⟨u1, u2, u3⟩ hu hs; simp only [Prod.mk.injEq] at hu hs; omega)
  refine lv_iinc (v := 4) (lv' := [(1, .int 4), (0, .ref a)]) S.1 S.2.1 dX6_init_67 hl (k := 0) rfl (by decide) (by decide) rfl (fun ls hl => ?_)
  refine lv_goto (tgt := 48) S.1 S.2.1 dX6_init_70 (by decide) ?_
  refine lv_iload_n S.1 S.2.1 dX6_init_48 rfl (lv_at hl 0 rfl) ?_
  refine lv_bipush (v := 7) S.1 S.2.1 dX6_init_49 (by decide) ?_
  refine lv_icmp_ge (tgt := 73) S.1 S.2.1 dX6_init_51 (by decide) (fun h9 => absurd h9 (by decide)) (fun _ => ?_)
  refine lv_aload_n S.1 S.2.1 dX6_init_54 rfl (lv_at hl 1 rfl) ?_
  refine hm_get (k := 3) S hE hG h_236 a_220 rfl hi_X60 (by decide) hb_20 rfl rfl dX6_init_55 ?_
  refine lv_iload_n S.1 S.2.1 dX6_init_58 rfl (lv_at hl 0 rfl) ?_
  refine hm_new (ci := 2) (fs := [.null, .null, .int 0, .int 0]) S hE hG (60, 4, 0) rfl hi_X10 tyX1_ok hb_19 hb_21 hb_22 (by decide) (Nat.le_of_ble_eq_true rfl) (Nat.le_of_ble_eq_true rfl) dX6_init_59 (fun q_245 H hG => ?_)
  obtain ⟨ad_246, ead_246⟩ : ∃ q9, q9 = hm_au ad_218 (60, 4, 0) q_245 := ⟨_, rfl⟩
  obtain ⟨M_247, eM_247⟩ : ∃ q9, q9 = hm_up M_235 (60, 4, 0) (.inr (2, [.null, .null, .int 0, .int 0])) := ⟨_, rfl⟩
  rw [← ead_246, ← eM_247] at hG
  have h_248 : M_247 (0, 0, 0) = some (.inr (7, [.ref q_1, .ref q_15, .ref q_33, .ref q_55, .null, .null, .int 0, .int 0, .int 0])) := by rw [eM_247]; exact (hm_up_n (by simp)).trans h_236
  have a_249 : ad_246 (0, 0, 0) = a := by rw [ead_246]; exact (hm_au_n (by simp)).trans a_220
  have h_250 : M_247 (1, 0, 0) = some (liE 0 (hm_b g 1) 0) := by rw [eM_247]; exact (hm_up_n (by simp)).trans h_237
  have a_251 : ad_246 (1, 0, 0) = q_1 := by rw [ead_246]; exact (hm_au_n (by simp)).trans a_222
  have h_252 : M_247 (2, 0, 0) = some (liE 0 (hm_b g 1) 0) := by rw [eM_247]; exact (hm_up_n (by simp)).trans h_238
  have a_253 : ad_246 (2, 0, 0) = q_15 := by rw [ead_246]; exact (hm_au_n (by simp)).trans a_224
  have h_254 : M_247 (3, 0, 0) = some (liE 0 (hm_b g 1) 0) := by rw [eM_247]; exact (hm_up_n (by simp)).trans h_239
  have a_255 : ad_246 (3, 0, 0) = q_33 := by rw [ead_246]; exact (hm_au_n (by simp)).trans a_226
  have h_256 : M_247 (7, 0, 0) = some (hm_ra g 1 7 (va_up (va_up (va_up (va_up (fun _ => none) 0 (some q_75)) 1 (some q_110)) 2 (some q_150)) 3 (some q_195))) := by rw [eM_247]; exact (hm_up_n (by simp)).trans h_240
  have a_257 : ad_246 (7, 0, 0) = q_55 := by rw [ead_246]; exact (hm_au_n (by simp)).trans a_228
  have h_258 : M_247 (60, 0, 0) = some (.inr (2, [.ref (ad_92 (61, 0, 0)), .ref (ad_92 (62, 0, 0)), .int 0, .int (bI false)])) := by rw [eM_247]; exact (hm_up_n (by simp)).trans h_241
  have a_259 : ad_246 (60, 0, 0) = q_75 := by rw [ead_246]; exact (hm_au_n (by simp)).trans a_230
  have h_260 : M_247 (60, 1, 0) = some (.inr (2, [.ref (ad_129 (61, 1, 0)), .ref (ad_129 (62, 1, 0)), .int 0, .int (bI false)])) := by rw [eM_247]; exact (hm_up_n (by simp)).trans h_242
  have a_261 : ad_246 (60, 1, 0) = q_110 := by rw [ead_246]; exact (hm_au_n (by simp)).trans a_232
  have h_262 : M_247 (60, 2, 0) = some (.inr (2, [.ref (ad_171 (61, 2, 0)), .ref (ad_171 (62, 2, 0)), .int 0, .int (bI false)])) := by rw [eM_247]; exact (hm_up_n (by simp)).trans h_243
  have a_263 : ad_246 (60, 2, 0) = q_150 := by rw [ead_246]; exact (hm_au_n (by simp)).trans a_234
  have h_264 : M_247 (60, 3, 0) = some (.inr (2, [.ref (ad_218 (61, 3, 0)), .ref (ad_218 (62, 3, 0)), .int 0, .int (bI false)])) := by rw [eM_247]; exact (hm_up_n (by simp)).trans h_244
  have a_265 : ad_246 (60, 3, 0) = q_195 := by rw [ead_246]; exact (hm_au_n (by simp)).trans had9
  have h_266 : M_247 (60, 4, 0) = some (.inr (2, [.null, .null, .int 0, .int 0])) := by rw [eM_247]; exact hm_up_s
  have a_267 : ad_246 (60, 4, 0) = q_245 := by rw [ead_246]; exact hm_au_s
  have hfr : hm_fr ad M ad_246 M_247 (fun u => u.1 < 80) := by rw [ead_246, eM_247]; exact hfr.au (by simp)
  have hev : hm_fr ad_218 M_235 ad_246 M_247 (fun u => u = (60, 4, 0)) := by rw [ead_246, eM_247]; exact hm_fr.rf.au rfl
  have hg0 : hasGr g ad_246 M_247 0 (fun _ => 0, fun _ => 0, 0, false) := hg0.fr hev (by rintro ⟨u1, u2, u3⟩ hu hs; simp only [Prod.mk.injEq] at hu hs; omega)
  have hg1 : hasGr g ad_246 M_247 1 (fun _ => 0, fun _ => 0, 0, false) := hg1.fr hev (by rintro ⟨u1, u2, u3⟩ hu hs; simp only [Prod.mk.injEq] at hu hs; omega)
  have hg2 : hasGr g ad_246 M_247 2 (fun _ => 0, fun _ => 0, 0, false) := hg2.fr hev (by rintro ⟨u1, u2, u3⟩ hu hs; simp only [Prod.mk.injEq] at hu hs; omega)
  have hg3 : hasGr g ad_246 M_247 3 (fun _ => 0, fun _ => 0, 0, false) := hg3.fr hev (by rintro ⟨u1, u2, u3⟩ hu hs; simp only [Prod.mk.injEq] at hu hs; omega)
  refine lv_dup S.1 S.2.1 dX6_init_62 rfl ?_
  refine hm_callIN (As := []) (rest := [.ref q_245, .int 4, .ref q_55]) S hE hG (c_X1_init l g ad_246 M_247 4 q_245 a_267 h_266) hb_50 hb_22 (List.mem_of_getElem? (i := 0) rfl) hb_49 rfl hd_X1_init ⟨Nat.le_of_ble_eq_true rfl, Nat.le_of_ble_eq_true rfl⟩ rfl hl.1 rfl (Nat.le_of_ble_eq_true rfl) dX6_init_63 ⟨Nat.le_of_ble_eq_true rfl, Nat.le_of_ble_eq_true rfl⟩ (fun v9 ad_270 M_269 H locs hp9 hG => ?_)
  obtain ⟨rfl, hgr9, had9, hf9⟩ := hp9
  refine hm_st (st' := [.ref q_245, .int 4, .ref q_55]) rfl ?_
  have hev : hm_fr ad_246 M_247 ad_270 M_269 (fun u => (u.1 = 60 ∨ u.1 = 61 ∨ u.1 = 62) ∧ u.2.1 = 4) := hf9
  have hg0 : hasGr g ad_270 M_269 0 (fun _ => 0, fun _ => 0, 0, false) := hg0.fr hev (by rintro ⟨u1, u2, u3⟩ hu hs; simp only [Prod.mk.injEq] at hu hs; omega)
  have hg1 : hasGr g ad_270 M_269 1 (fun _ => 0, fun _ => 0, 0, false) := hg1.fr hev (by rintro ⟨u1, u2, u3⟩ hu hs; simp only [Prod.mk.injEq] at hu hs; omega)
  have hg2 : hasGr g ad_270 M_269 2 (fun _ => 0, fun _ => 0, 0, false) := hg2.fr hev (by rintro ⟨u1, u2, u3⟩ hu hs; simp only [Prod.mk.injEq] at hu hs; omega)
  have hg3 : hasGr g ad_270 M_269 3 (fun _ => 0, fun _ => 0, 0, false) := hg3.fr hev (by rintro ⟨u1, u2, u3⟩ hu hs; simp only [Prod.mk.injEq] at hu hs; omega)
  have h_271 : M_269 (0, 0, 0) = some (.inr (7, [.ref q_1, .ref q_15, .ref q_33, .ref q_55, .null, .null, .int 0, .int 0, .int 0])) := ((hf9 (0, 0, 0) (by simp)).2).trans h_248
  have a_272 : ad_270 (0, 0, 0) = a := ((hf9 (0, 0, 0) (by simp)).1).trans a_249
  have h_273 : M_269 (1, 0, 0) = some (liE 0 (hm_b g 1) 0) := ((hf9 (1, 0, 0) (by simp)).2).trans h_250
  have a_274 : ad_270 (1, 0, 0) = q_1 := ((hf9 (1, 0, 0) (by simp)).1).trans a_251
  have h_275 : M_269 (2, 0, 0) = some (liE 0 (hm_b g 1) 0) := ((hf9 (2, 0, 0) (by simp)).2).trans h_252
  have a_276 : ad_270 (2, 0, 0) = q_15 := ((hf9 (2, 0, 0) (by simp)).1).trans a_253
  have h_277 : M_269 (3, 0, 0) = some (liE 0 (hm_b g 1) 0) := ((hf9 (3, 0, 0) (by simp)).2).trans h_254
  have a_278 : ad_270 (3, 0, 0) = q_33 := ((hf9 (3, 0, 0) (by simp)).1).trans a_255
  have h_279 : M_269 (7, 0, 0) = some (hm_ra g 1 7 (va_up (va_up (va_up (va_up (fun _ => none) 0 (some q_75)) 1 (some q_110)) 2 (some q_150)) 3 (some q_195))) := ((hf9 (7, 0, 0) (by simp)).2).trans h_256
  have a_280 : ad_270 (7, 0, 0) = q_55 := ((hf9 (7, 0, 0) (by simp)).1).trans a_257
  have h_281 : M_269 (60, 0, 0) = some (.inr (2, [.ref (ad_92 (61, 0, 0)), .ref (ad_92 (62, 0, 0)), .int 0, .int (bI false)])) := ((hf9 (60, 0, 0) (by simp)).2).trans h_258
  have a_282 : ad_270 (60, 0, 0) = q_75 := ((hf9 (60, 0, 0) (by simp)).1).trans a_259
  have h_283 : M_269 (60, 1, 0) = some (.inr (2, [.ref (ad_129 (61, 1, 0)), .ref (ad_129 (62, 1, 0)), .int 0, .int (bI false)])) := ((hf9 (60, 1, 0) (by simp)).2).trans h_260
  have a_284 : ad_270 (60, 1, 0) = q_110 := ((hf9 (60, 1, 0) (by simp)).1).trans a_261
  have h_285 : M_269 (60, 2, 0) = some (.inr (2, [.ref (ad_171 (61, 2, 0)), .ref (ad_171 (62, 2, 0)), .int 0, .int (bI false)])) := ((hf9 (60, 2, 0) (by simp)).2).trans h_262
  have a_286 : ad_270 (60, 2, 0) = q_150 := ((hf9 (60, 2, 0) (by simp)).1).trans a_263
  have h_287 : M_269 (60, 3, 0) = some (.inr (2, [.ref (ad_218 (61, 3, 0)), .ref (ad_218 (62, 3, 0)), .int 0, .int (bI false)])) := ((hf9 (60, 3, 0) (by simp)).2).trans h_264
  have a_288 : ad_270 (60, 3, 0) = q_195 := ((hf9 (60, 3, 0) (by simp)).1).trans a_265
  have hfr : hm_fr ad M ad_270 M_269 (fun u => u.1 < 80) := hfr.tr hf9 (by simp)
  have hg4 := hgr9
  refine hm_astq2 (j := 4) S hE hG h_279 a_280 rfl hgr9.1 had9 rfl (by unfold vp_in; decide) (by decide) dX6_init_66 (fun H locs hG => ?_)
  obtain ⟨M_289, eM_289⟩ : ∃ q9, q9 = hm_up M_269 (7, 0, 0) (hm_ra g 1 7 (va_up (va_up (va_up (va_up (va_up (fun _ => none) 0 (some q_75)) 1 (some q_110)) 2 (some q_150)) 3 (some q_195)) 4 (some q_245))) := ⟨_, rfl⟩
  rw [← eM_289] at hG
  have h_290 : M_289 (0, 0, 0) = some (.inr (7, [.ref q_1, .ref q_15, .ref q_33, .ref q_55, .null, .null, .int 0, .int 0, .int 0])) := by rw [eM_289]; exact (hm_up_n (by simp)).trans h_271
  have h_291 : M_289 (1, 0, 0) = some (liE 0 (hm_b g 1) 0) := by rw [eM_289]; exact (hm_up_n (by simp)).trans h_273
  have h_292 : M_289 (2, 0, 0) = some (liE 0 (hm_b g 1) 0) := by rw [eM_289]; exact (hm_up_n (by simp)).trans h_275
  have h_293 : M_289 (3, 0, 0) = some (liE 0 (hm_b g 1) 0) := by rw [eM_289]; exact (hm_up_n (by simp)).trans h_277
  have h_294 : M_289 (7, 0, 0) = some (hm_ra g 1 7 (va_up (va_up (va_up (va_up (va_up (fun _ => none) 0 (some q_75)) 1 (some q_110)) 2 (some q_150)) 3 (some q_195)) 4 (some q_245))) := by rw [eM_289]; exact hm_up_s
  have h_295 : M_289 (60, 0, 0) = some (.inr (2, [.ref (ad_92 (61, 0, 0)), .ref (ad_92 (62, 0, 0)), .int 0, .int (bI false)])) := by rw [eM_289]; exact (hm_up_n (by simp)).trans h_281
  have h_296 : M_289 (60, 1, 0) = some (.inr (2, [.ref (ad_129 (61, 1, 0)), .ref (ad_129 (62, 1, 0)), .int 0, .int (bI false)])) := by rw [eM_289]; exact (hm_up_n (by simp)).trans h_283
  have h_297 : M_289 (60, 2, 0) = some (.inr (2, [.ref (ad_171 (61, 2, 0)), .ref (ad_171 (62, 2, 0)), .int 0, .int (bI false)])) := by rw [eM_289]; exact (hm_up_n (by simp)).trans h_285
  have h_298 : M_289 (60, 3, 0) = some (.inr (2, [.ref (ad_218 (61, 3, 0)), .ref (ad_218 (62, 3, 0)), .int 0, .int (bI false)])) := by rw [eM_289]; exact (hm_up_n (by simp)).trans h_287
  have h_299 : M_289 (60, 4, 0) = some (.inr (2, [.ref (ad_270 (61, 4, 0)), .ref (ad_270 (62, 4, 0)), .int 0, .int (bI false)])) := by rw [eM_289]; exact (hm_up_n (by simp)).trans hgr9.1
  have hfr : hm_fr ad M ad_270 M_289 (fun u => u.1 < 80) := by rw [eM_289]; exact hfr.up (by simp)
  have hev : hm_fr ad_270 M_269 ad_270 M_289 (fun u => u = (7, 0, 0)) := by rw [eM_289]; exact hm_fr.rf.up rfl
  have hg0 : hasGr g ad_270 M_289 0 (fun _ => 0, fun _ => 0, 0, false) := hg0.fr hev (by rintro ⟨u1, u2, u3⟩ hu hs; simp only [Prod.mk.injEq] at hu hs; omega)
  have hg1 : hasGr g ad_270 M_289 1 (fun _ => 0, fun _ => 0, 0, false) := hg1.fr hev (by rintro ⟨u1, u2, u3⟩ hu hs; simp only [Prod.mk.injEq] at hu hs; omega)
  have hg2 : hasGr g ad_270 M_289 2 (fun _ => 0, fun _ => 0, 0, false) := hg2.fr hev (by rintro ⟨u1, u2, u3⟩ hu hs; simp only [Prod.mk.injEq] at hu hs; omega)
  have hg3 : hasGr g ad_270 M_289 3 (fun _ => 0, fun _ => 0, 0, false) := hg3.fr hev (by rintro ⟨u1, u2, u3⟩ hu hs; simp only [Prod.mk.injEq] at hu hs; omega)
  have hg4 : hasGr g ad_270 M_289 4 (fun _ => 0, fun _ => 0, 0, false) := hg4.fr hev (by rintro ⟨u1, u2, u3⟩ hu hs; simp only [Prod.mk.injEq] at hu hs; omega)
  refine lv_iinc (v := 5) (lv' := [(1, .int 5), (0, .ref a)]) S.1 S.2.1 dX6_init_67 hl (k := 0) rfl (by decide) (by decide) rfl (fun ls hl => ?_)
  refine lv_goto (tgt := 48) S.1 S.2.1 dX6_init_70 (by decide) ?_
  refine lv_iload_n S.1 S.2.1 dX6_init_48 rfl (lv_at hl 0 rfl) ?_
  refine lv_bipush (v := 7) S.1 S.2.1 dX6_init_49 (by decide) ?_
  refine lv_icmp_ge (tgt := 73) S.1 S.2.1 dX6_init_51 (by decide) (fun h9 => absurd h9 (by decide)) (fun _ => ?_)
  refine lv_aload_n S.1 S.2.1 dX6_init_54 rfl (lv_at hl 1 rfl) ?_
  refine hm_get (k := 3) S hE hG h_290 a_272 rfl hi_X60 (by decide) hb_20 rfl rfl dX6_init_55 ?_
  refine lv_iload_n S.1 S.2.1 dX6_init_58 rfl (lv_at hl 0 rfl) ?_
  refine hm_new (ci := 2) (fs := [.null, .null, .int 0, .int 0]) S hE hG (60, 5, 0) rfl hi_X10 tyX1_ok hb_19 hb_21 hb_22 (by decide) (Nat.le_of_ble_eq_true rfl) (Nat.le_of_ble_eq_true rfl) dX6_init_59 (fun q_300 H hG => ?_)
  obtain ⟨ad_301, ead_301⟩ : ∃ q9, q9 = hm_au ad_270 (60, 5, 0) q_300 := ⟨_, rfl⟩
  obtain ⟨M_302, eM_302⟩ : ∃ q9, q9 = hm_up M_289 (60, 5, 0) (.inr (2, [.null, .null, .int 0, .int 0])) := ⟨_, rfl⟩
  rw [← ead_301, ← eM_302] at hG
  have h_303 : M_302 (0, 0, 0) = some (.inr (7, [.ref q_1, .ref q_15, .ref q_33, .ref q_55, .null, .null, .int 0, .int 0, .int 0])) := by rw [eM_302]; exact (hm_up_n (by simp)).trans h_290
  have a_304 : ad_301 (0, 0, 0) = a := by rw [ead_301]; exact (hm_au_n (by simp)).trans a_272
  have h_305 : M_302 (1, 0, 0) = some (liE 0 (hm_b g 1) 0) := by rw [eM_302]; exact (hm_up_n (by simp)).trans h_291
  have a_306 : ad_301 (1, 0, 0) = q_1 := by rw [ead_301]; exact (hm_au_n (by simp)).trans a_274
  have h_307 : M_302 (2, 0, 0) = some (liE 0 (hm_b g 1) 0) := by rw [eM_302]; exact (hm_up_n (by simp)).trans h_292
  have a_308 : ad_301 (2, 0, 0) = q_15 := by rw [ead_301]; exact (hm_au_n (by simp)).trans a_276
  have h_309 : M_302 (3, 0, 0) = some (liE 0 (hm_b g 1) 0) := by rw [eM_302]; exact (hm_up_n (by simp)).trans h_293
  have a_310 : ad_301 (3, 0, 0) = q_33 := by rw [ead_301]; exact (hm_au_n (by simp)).trans a_278
  have h_311 : M_302 (7, 0, 0) = some (hm_ra g 1 7 (va_up (va_up (va_up (va_up (va_up (fun _ => none) 0 (some q_75)) 1 (some q_110)) 2 (some q_150)) 3 (some q_195)) 4 (some q_245))) := by rw [eM_302]; exact (hm_up_n (by simp)).trans h_294
  have a_312 : ad_301 (7, 0, 0) = q_55 := by rw [ead_301]; exact (hm_au_n (by simp)).trans a_280
  have h_313 : M_302 (60, 0, 0) = some (.inr (2, [.ref (ad_92 (61, 0, 0)), .ref (ad_92 (62, 0, 0)), .int 0, .int (bI false)])) := by rw [eM_302]; exact (hm_up_n (by simp)).trans h_295
  have a_314 : ad_301 (60, 0, 0) = q_75 := by rw [ead_301]; exact (hm_au_n (by simp)).trans a_282
  have h_315 : M_302 (60, 1, 0) = some (.inr (2, [.ref (ad_129 (61, 1, 0)), .ref (ad_129 (62, 1, 0)), .int 0, .int (bI false)])) := by rw [eM_302]; exact (hm_up_n (by simp)).trans h_296
  have a_316 : ad_301 (60, 1, 0) = q_110 := by rw [ead_301]; exact (hm_au_n (by simp)).trans a_284
  have h_317 : M_302 (60, 2, 0) = some (.inr (2, [.ref (ad_171 (61, 2, 0)), .ref (ad_171 (62, 2, 0)), .int 0, .int (bI false)])) := by rw [eM_302]; exact (hm_up_n (by simp)).trans h_297
  have a_318 : ad_301 (60, 2, 0) = q_150 := by rw [ead_301]; exact (hm_au_n (by simp)).trans a_286
  have h_319 : M_302 (60, 3, 0) = some (.inr (2, [.ref (ad_218 (61, 3, 0)), .ref (ad_218 (62, 3, 0)), .int 0, .int (bI false)])) := by rw [eM_302]; exact (hm_up_n (by simp)).trans h_298
  have a_320 : ad_301 (60, 3, 0) = q_195 := by rw [ead_301]; exact (hm_au_n (by simp)).trans a_288
  have h_321 : M_302 (60, 4, 0) = some (.inr (2, [.ref (ad_270 (61, 4, 0)), .ref (ad_270 (62, 4, 0)), .int 0, .int (bI false)])) := by rw [eM_302]; exact (hm_up_n (by simp)).trans h_299
  have a_322 : ad_301 (60, 4, 0) = q_245 := by rw [ead_301]; exact (hm_au_n (by simp)).trans had9
  have h_323 : M_302 (60, 5, 0) = some (.inr (2, [.null, .null, .int 0, .int 0])) := by rw [eM_302]; exact hm_up_s
  have a_324 : ad_301 (60, 5, 0) = q_300 := by rw [ead_301]; exact hm_au_s
  have hfr : hm_fr ad M ad_301 M_302 (fun u => u.1 < 80) := by rw [ead_301, eM_302]; exact hfr.au (by simp)
  have hev : hm_fr ad_270 M_289 ad_301 M_302 (fun u => u = (60, 5, 0)) := by rw [ead_301, eM_302]; exact hm_fr.rf.au rfl
  have hg0 : hasGr g ad_301 M_302 0 (fun _ => 0, fun _ => 0, 0, false) := hg0.fr hev (by rintro ⟨u1, u2, u3⟩ hu hs; simp only [Prod.mk.injEq] at hu hs; omega)
  have hg1 : hasGr g ad_301 M_302 1 (fun _ => 0, fun _ => 0, 0, false) := hg1.fr hev (by rintro ⟨u1, u2, u3⟩ hu hs; simp only [Prod.mk.injEq] at hu hs; omega)
  have hg2 : hasGr g ad_301 M_302 2 (fun _ => 0, fun _ => 0, 0, false) := hg2.fr hev (by rintro ⟨u1, u2, u3⟩ hu hs; simp only [Prod.mk.injEq] at hu hs; omega)
  have hg3 : hasGr g ad_301 M_302 3 (fun _ => 0, fun _ => 0, 0, false) := hg3.fr hev (by rintro ⟨u1, u2, u3⟩ hu hs; simp only [Prod.mk.injEq] at hu hs; omega)
  have hg4 : hasGr g ad_301 M_302 4 (fun _ => 0, fun _ => 0, 0, false) := hg4.fr hev (by rintro ⟨u1, u2, u3⟩ hu hs; simp only [Prod.mk.injEq] at hu hs; omega)
  refine lv_dup S.1 S.2.1 dX6_init_62 rfl ?_
  refine hm_callIN (As := []) (rest := [.ref q_300, .int 5, .ref q_55]) S hE hG (c_X1_init l g ad_301 M_302 5 q_300 a_324 h_323) hb_50 hb_22 (List.mem_of_getElem? (i := 0) rfl) hb_49 rfl hd_X1_init ⟨Nat.le_of_ble_eq_true rfl, Nat.le_of_ble_eq_true rfl⟩ rfl hl.1 rfl (Nat.le_of_ble_eq_true rfl) dX6_init_63 ⟨Nat.le_of_ble_eq_true rfl, Nat.le_of_ble_eq_true rfl⟩ (fun v9 ad_327 M_326 H locs hp9 hG => ?_)
  obtain ⟨rfl, hgr9, had9, hf9⟩ := hp9
  refine hm_st (st' := [.ref q_300, .int 5, .ref q_55]) rfl ?_
  have hev : hm_fr ad_301 M_302 ad_327 M_326 (fun u => (u.1 = 60 ∨ u.1 = 61 ∨ u.1 = 62) ∧ u.2.1 = 5) := hf9
  have hg0 : hasGr g ad_327 M_326 0 (fun _ => 0, fun _ => 0, 0, false) := hg0.fr hev (by rintro ⟨u1, u2, u3⟩ hu hs; simp only [Prod.mk.injEq] at hu hs; omega)
  have hg1 : hasGr g ad_327 M_326 1 (fun _ => 0, fun _ => 0, 0, false) := hg1.fr hev (by rintro ⟨u1, u2, u3⟩ hu hs; simp only [Prod.mk.injEq] at hu hs; omega)
  have hg2 : hasGr g ad_327 M_326 2 (fun _ => 0, fun _ => 0, 0, false) := hg2.fr hev (by rintro ⟨u1, u2, u3⟩ hu hs; simp only [Prod.mk.injEq] at hu hs; omega)
  have hg3 : hasGr g ad_327 M_326 3 (fun _ => 0, fun _ => 0, 0, false) := hg3.fr hev (by rintro ⟨u1, u2, u3⟩ hu hs; simp only [Prod.mk.injEq] at hu hs; omega)
  have hg4 : hasGr g ad_327 M_326 4 (fun _ => 0, fun _ => 0, 0, false) := hg4.fr hev (by rintro ⟨u1, u2, u3⟩ hu hs; simp only [Prod.mk.injEq] at hu hs; omega)
  have h_328 : M_326 (0, 0, 0) = some (.inr (7, [.ref q_1, .ref q_15, .ref q_33, .ref q_55, .null, .null, .int 0, .int 0, .int 0])) := ((hf9 (0, 0, 0) (by simp)).2).trans h_303
  have a_329 : ad_327 (0, 0, 0) = a := ((hf9 (0, 0, 0) (by simp)).1).trans a_304
  have h_330 : M_326 (1, 0, 0) = some (liE 0 (hm_b g 1) 0) := ((hf9 (1, 0, 0) (by simp)).2).trans h_305
  have a_331 : ad_327 (1, 0, 0) = q_1 := ((hf9 (1, 0, 0) (by simp)).1).trans a_306
  have h_332 : M_326 (2, 0, 0) = some (liE 0 (hm_b g 1) 0) := ((hf9 (2, 0, 0) (by simp)).2).trans h_307
  have a_333 : ad_327 (2, 0, 0) = q_15 := ((hf9 (2, 0, 0) (by simp)).1).trans a_308
  have h_334 : M_326 (3, 0, 0) = some (liE 0 (hm_b g 1) 0) := ((hf9 (3, 0, 0) (by simp)).2).trans h_309
  have a_335 : ad_327 (3, 0, 0) = q_33 := ((hf9 (3, 0, 0) (by simp)).1).trans a_310
  have h_336 : M_326 (7, 0, 0) = some (hm_ra g 1 7 (va_up (va_up (va_up (va_up (va_up (fun _ => none) 0 (some q_75)) 1 (some q_110)) 2 (some q_150)) 3 (some q_195)) 4 (some q_245))) := ((hf9 (7, 0, 0) (by simp)).2).trans h_311
  have a_337 : ad_327 (7, 0, 0) = q_55 := ((hf9 (7, 0, 0) (by simp)).1).trans a_312
  have h_338 : M_326 (60, 0, 0) = some (.inr (2, [.ref (ad_92 (61, 0, 0)), .ref (ad_92 (62, 0, 0)), .int 0, .int (bI false)])) := ((hf9 (60, 0, 0) (by simp)).2).trans h_313
  have a_339 : ad_327 (60, 0, 0) = q_75 := ((hf9 (60, 0, 0) (by simp)).1).trans a_314
  have h_340 : M_326 (60, 1, 0) = some (.inr (2, [.ref (ad_129 (61, 1, 0)), .ref (ad_129 (62, 1, 0)), .int 0, .int (bI false)])) := ((hf9 (60, 1, 0) (by simp)).2).trans h_315
  have a_341 : ad_327 (60, 1, 0) = q_110 := ((hf9 (60, 1, 0) (by simp)).1).trans a_316
  have h_342 : M_326 (60, 2, 0) = some (.inr (2, [.ref (ad_171 (61, 2, 0)), .ref (ad_171 (62, 2, 0)), .int 0, .int (bI false)])) := ((hf9 (60, 2, 0) (by simp)).2).trans h_317
  have a_343 : ad_327 (60, 2, 0) = q_150 := ((hf9 (60, 2, 0) (by simp)).1).trans a_318
  have h_344 : M_326 (60, 3, 0) = some (.inr (2, [.ref (ad_218 (61, 3, 0)), .ref (ad_218 (62, 3, 0)), .int 0, .int (bI false)])) := ((hf9 (60, 3, 0) (by simp)).2).trans h_319
  have a_345 : ad_327 (60, 3, 0) = q_195 := ((hf9 (60, 3, 0) (by simp)).1).trans a_320
  have h_346 : M_326 (60, 4, 0) = some (.inr (2, [.ref (ad_270 (61, 4, 0)), .ref (ad_270 (62, 4, 0)), .int 0, .int (bI false)])) := ((hf9 (60, 4, 0) (by simp)).2).trans h_321
  have a_347 : ad_327 (60, 4, 0) = q_245 := ((hf9 (60, 4, 0) (by simp)).1).trans a_322
  have hfr : hm_fr ad M ad_327 M_326 (fun u => u.1 < 80) := hfr.tr hf9 (by simp)
  have hg5 := hgr9
  refine hm_astq2 (j := 5) S hE hG h_336 a_337 rfl hgr9.1 had9 rfl (by unfold vp_in; decide) (by decide) dX6_init_66 (fun H locs hG => ?_)
  obtain ⟨M_348, eM_348⟩ : ∃ q9, q9 = hm_up M_326 (7, 0, 0) (hm_ra g 1 7 (va_up (va_up (va_up (va_up (va_up (va_up (fun _ => none) 0 (some q_75)) 1 (some q_110)) 2 (some q_150)) 3 (some q_195)) 4 (some q_245)) 5 (some q_300))) := ⟨_, rfl⟩
  rw [← eM_348] at hG
  have h_349 : M_348 (0, 0, 0) = some (.inr (7, [.ref q_1, .ref q_15, .ref q_33, .ref q_55, .null, .null, .int 0, .int 0, .int 0])) := by rw [eM_348]; exact (hm_up_n (by simp)).trans h_328
  have h_350 : M_348 (1, 0, 0) = some (liE 0 (hm_b g 1) 0) := by rw [eM_348]; exact (hm_up_n (by simp)).trans h_330
  have h_351 : M_348 (2, 0, 0) = some (liE 0 (hm_b g 1) 0) := by rw [eM_348]; exact (hm_up_n (by simp)).trans h_332
  have h_352 : M_348 (3, 0, 0) = some (liE 0 (hm_b g 1) 0) := by rw [eM_348]; exact (hm_up_n (by simp)).trans h_334
  have h_353 : M_348 (7, 0, 0) = some (hm_ra g 1 7 (va_up (va_up (va_up (va_up (va_up (va_up (fun _ => none) 0 (some q_75)) 1 (some q_110)) 2 (some q_150)) 3 (some q_195)) 4 (some q_245)) 5 (some q_300))) := by rw [eM_348]; exact hm_up_s
  have h_354 : M_348 (60, 0, 0) = some (.inr (2, [.ref (ad_92 (61, 0, 0)), .ref (ad_92 (62, 0, 0)), .int 0, .int (bI false)])) := by rw [eM_348]; exact (hm_up_n (by simp)).trans h_338
  have h_355 : M_348 (60, 1, 0) = some (.inr (2, [.ref (ad_129 (61, 1, 0)), .ref (ad_129 (62, 1, 0)), .int 0, .int (bI false)])) := by rw [eM_348]; exact (hm_up_n (by simp)).trans h_340
  have h_356 : M_348 (60, 2, 0) = some (.inr (2, [.ref (ad_171 (61, 2, 0)), .ref (ad_171 (62, 2, 0)), .int 0, .int (bI false)])) := by rw [eM_348]; exact (hm_up_n (by simp)).trans h_342
  have h_357 : M_348 (60, 3, 0) = some (.inr (2, [.ref (ad_218 (61, 3, 0)), .ref (ad_218 (62, 3, 0)), .int 0, .int (bI false)])) := by rw [eM_348]; exact (hm_up_n (by simp)).trans h_344
  have h_358 : M_348 (60, 4, 0) = some (.inr (2, [.ref (ad_270 (61, 4, 0)), .ref (ad_270 (62, 4, 0)), .int 0, .int (bI false)])) := by rw [eM_348]; exact (hm_up_n (by simp)).trans h_346
  have h_359 : M_348 (60, 5, 0) = some (.inr (2, [.ref (ad_327 (61, 5, 0)), .ref (ad_327 (62, 5, 0)), .int 0, .int (bI false)])) := by rw [eM_348]; exact (hm_up_n (by simp)).trans hgr9.1
  have hfr : hm_fr ad M ad_327 M_348 (fun u => u.1 < 80) := by rw [eM_348]; exact hfr.up (by simp)
  have hev : hm_fr ad_327 M_326 ad_327 M_348 (fun u => u = (7, 0, 0)) := by rw [eM_348]; exact hm_fr.rf.up rfl
  have hg0 : hasGr g ad_327 M_348 0 (fun _ => 0, fun _ => 0, 0, false) := hg0.fr hev (by rintro ⟨u1, u2, u3⟩ hu hs; simp only [Prod.mk.injEq] at hu hs; omega)
  have hg1 : hasGr g ad_327 M_348 1 (fun _ => 0, fun _ => 0, 0, false) := hg1.fr hev (by rintro ⟨u1, u2, u3⟩ hu hs; simp only [Prod.mk.injEq] at hu hs; omega)
  have hg2 : hasGr g ad_327 M_348 2 (fun _ => 0, fun _ => 0, 0, false) := hg2.fr hev (by rintro ⟨u1, u2, u3⟩ hu hs; simp only [Prod.mk.injEq] at hu hs; omega)
  have hg3 : hasGr g ad_327 M_348 3 (fun _ => 0, fun _ => 0, 0, false) := hg3.fr hev (by rintro ⟨u1, u2, u3⟩ hu hs; simp only [Prod.mk.injEq] at hu hs; omega)
  have hg4 : hasGr g ad_327 M_348 4 (fun _ => 0, fun _ => 0, 0, false) := hg4.fr hev (by rintro ⟨u1, u2, u3⟩ hu hs; simp only [Prod.mk.injEq] at hu hs; omega)
  have hg5 : hasGr g ad_327 M_348 5 (fun _ => 0, fun _ => 0, 0, false) := hg5.fr hev (by rintro ⟨u1, u2, u3⟩ hu hs; simp only [Prod.mk.injEq] at hu hs; omega)
  refine lv_iinc (v := 6) (lv' := [(1, .int 6), (0, .ref a)]) S.1 S.2.1 dX6_init_67 hl (k := 0) rfl (by decide) (by decide) rfl (fun ls hl => ?_)
  refine lv_goto (tgt := 48) S.1 S.2.1 dX6_init_70 (by decide) ?_
  refine lv_iload_n S.1 S.2.1 dX6_init_48 rfl (lv_at hl 0 rfl) ?_
  refine lv_bipush (v := 7) S.1 S.2.1 dX6_init_49 (by decide) ?_
  refine lv_icmp_ge (tgt := 73) S.1 S.2.1 dX6_init_51 (by decide) (fun h9 => absurd h9 (by decide)) (fun _ => ?_)
  refine lv_aload_n S.1 S.2.1 dX6_init_54 rfl (lv_at hl 1 rfl) ?_
  refine hm_get (k := 3) S hE hG h_349 a_329 rfl hi_X60 (by decide) hb_20 rfl rfl dX6_init_55 ?_
  refine lv_iload_n S.1 S.2.1 dX6_init_58 rfl (lv_at hl 0 rfl) ?_
  refine hm_new (ci := 2) (fs := [.null, .null, .int 0, .int 0]) S hE hG (60, 6, 0) rfl hi_X10 tyX1_ok hb_19 hb_21 hb_22 (by decide) (Nat.le_of_ble_eq_true rfl) (Nat.le_of_ble_eq_true rfl) dX6_init_59 (fun q_360 H hG => ?_)
  obtain ⟨ad_361, ead_361⟩ : ∃ q9, q9 = hm_au ad_327 (60, 6, 0) q_360 := ⟨_, rfl⟩
  obtain ⟨M_362, eM_362⟩ : ∃ q9, q9 = hm_up M_348 (60, 6, 0) (.inr (2, [.null, .null, .int 0, .int 0])) := ⟨_, rfl⟩
  rw [← ead_361, ← eM_362] at hG
  have h_363 : M_362 (0, 0, 0) = some (.inr (7, [.ref q_1, .ref q_15, .ref q_33, .ref q_55, .null, .null, .int 0, .int 0, .int 0])) := by rw [eM_362]; exact (hm_up_n (by simp)).trans h_349
  have a_364 : ad_361 (0, 0, 0) = a := by rw [ead_361]; exact (hm_au_n (by simp)).trans a_329
  have h_365 : M_362 (1, 0, 0) = some (liE 0 (hm_b g 1) 0) := by rw [eM_362]; exact (hm_up_n (by simp)).trans h_350
  have a_366 : ad_361 (1, 0, 0) = q_1 := by rw [ead_361]; exact (hm_au_n (by simp)).trans a_331
  have h_367 : M_362 (2, 0, 0) = some (liE 0 (hm_b g 1) 0) := by rw [eM_362]; exact (hm_up_n (by simp)).trans h_351
  have a_368 : ad_361 (2, 0, 0) = q_15 := by rw [ead_361]; exact (hm_au_n (by simp)).trans a_333
  have h_369 : M_362 (3, 0, 0) = some (liE 0 (hm_b g 1) 0) := by rw [eM_362]; exact (hm_up_n (by simp)).trans h_352
  have a_370 : ad_361 (3, 0, 0) = q_33 := by rw [ead_361]; exact (hm_au_n (by simp)).trans a_335
  have h_371 : M_362 (7, 0, 0) = some (hm_ra g 1 7 (va_up (va_up (va_up (va_up (va_up (va_up (fun _ => none) 0 (some q_75)) 1 (some q_110)) 2 (some q_150)) 3 (some q_195)) 4 (some q_245)) 5 (some q_300))) := by rw [eM_362]; exact (hm_up_n (by simp)).trans h_353
  have a_372 : ad_361 (7, 0, 0) = q_55 := by rw [ead_361]; exact (hm_au_n (by simp)).trans a_337
  have h_373 : M_362 (60, 0, 0) = some (.inr (2, [.ref (ad_92 (61, 0, 0)), .ref (ad_92 (62, 0, 0)), .int 0, .int (bI false)])) := by rw [eM_362]; exact (hm_up_n (by simp)).trans h_354
  have a_374 : ad_361 (60, 0, 0) = q_75 := by rw [ead_361]; exact (hm_au_n (by simp)).trans a_339
  have h_375 : M_362 (60, 1, 0) = some (.inr (2, [.ref (ad_129 (61, 1, 0)), .ref (ad_129 (62, 1, 0)), .int 0, .int (bI false)])) := by rw [eM_362]; exact (hm_up_n (by simp)).trans h_355
  have a_376 : ad_361 (60, 1, 0) = q_110 := by rw [ead_361]; exact (hm_au_n (by simp)).trans a_341
  have h_377 : M_362 (60, 2, 0) = some (.inr (2, [.ref (ad_171 (61, 2, 0)), .ref (ad_171 (62, 2, 0)), .int 0, .int (bI false)])) := by rw [eM_362]; exact (hm_up_n (by simp)).trans h_356
  have a_378 : ad_361 (60, 2, 0) = q_150 := by rw [ead_361]; exact (hm_au_n (by simp)).trans a_343
  have h_379 : M_362 (60, 3, 0) = some (.inr (2, [.ref (ad_218 (61, 3, 0)), .ref (ad_218 (62, 3, 0)), .int 0, .int (bI false)])) := by rw [eM_362]; exact (hm_up_n (by simp)).trans h_357
  have a_380 : ad_361 (60, 3, 0) = q_195 := by rw [ead_361]; exact (hm_au_n (by simp)).trans a_345
  have h_381 : M_362 (60, 4, 0) = some (.inr (2, [.ref (ad_270 (61, 4, 0)), .ref (ad_270 (62, 4, 0)), .int 0, .int (bI false)])) := by rw [eM_362]; exact (hm_up_n (by simp)).trans h_358
  have a_382 : ad_361 (60, 4, 0) = q_245 := by rw [ead_361]; exact (hm_au_n (by simp)).trans a_347
  have h_383 : M_362 (60, 5, 0) = some (.inr (2, [.ref (ad_327 (61, 5, 0)), .ref (ad_327 (62, 5, 0)), .int 0, .int (bI false)])) := by rw [eM_362]; exact (hm_up_n (by simp)).trans h_359
  have a_384 : ad_361 (60, 5, 0) = q_300 := by rw [ead_361]; exact (hm_au_n (by simp)).trans had9
  have h_385 : M_362 (60, 6, 0) = some (.inr (2, [.null, .null, .int 0, .int 0])) := by rw [eM_362]; exact hm_up_s
  have a_386 : ad_361 (60, 6, 0) = q_360 := by rw [ead_361]; exact hm_au_s
  have hfr : hm_fr ad M ad_361 M_362 (fun u => u.1 < 80) := by rw [ead_361, eM_362]; exact hfr.au (by simp)
  have hev : hm_fr ad_327 M_348 ad_361 M_362 (fun u => u = (60, 6, 0)) := by rw [ead_361, eM_362]; exact hm_fr.rf.au rfl
  have hg0 : hasGr g ad_361 M_362 0 (fun _ => 0, fun _ => 0, 0, false) := hg0.fr hev (by rintro ⟨u1, u2, u3⟩ hu hs; simp only [Prod.mk.injEq] at hu hs; omega)
  have hg1 : hasGr g ad_361 M_362 1 (fun _ => 0, fun _ => 0, 0, false) := hg1.fr hev (by rintro ⟨u1, u2, u3⟩ hu hs; simp only [Prod.mk.injEq] at hu hs; omega)
  have hg2 : hasGr g ad_361 M_362 2 (fun _ => 0, fun _ => 0, 0, false) := hg2.fr hev (by rintro ⟨u1, u2, u3⟩ hu hs; simp only [Prod.mk.injEq] at hu hs; omega)
  have hg3 : hasGr g ad_361 M_362 3 (fun _ => 0, fun _ => 0, 0, false) := hg3.fr hev (by rintro ⟨u1, u2, u3⟩ hu hs; simp only [Prod.mk.injEq] at hu hs; omega)
  have hg4 : hasGr g ad_361 M_362 4 (fun _ => 0, fun _ => 0, 0, false) := hg4.fr hev (by rintro ⟨u1, u2, u3⟩ hu hs; simp only [Prod.mk.injEq] at hu hs; omega)
  have hg5 : hasGr g ad_361 M_362 5 (fun _ => 0, fun _ => 0, 0, false) := hg5.fr hev (by rintro ⟨u1, u2, u3⟩ hu hs; simp only [Prod.mk.injEq] at hu hs; omega)
  refine lv_dup S.1 S.2.1 dX6_init_62 rfl ?_
  refine hm_callIN (As := []) (rest := [.ref q_360, .int 6, .ref q_55]) S hE hG (c_X1_init l g ad_361 M_362 6 q_360 a_386 h_385) hb_50 hb_22 (List.mem_of_getElem? (i := 0) rfl) hb_49 rfl hd_X1_init ⟨Nat.le_of_ble_eq_true rfl, Nat.le_of_ble_eq_true rfl⟩ rfl hl.1 rfl (Nat.le_of_ble_eq_true rfl) dX6_init_63 ⟨Nat.le_of_ble_eq_true rfl, Nat.le_of_ble_eq_true rfl⟩ (fun v9 ad_389 M_388 H locs hp9 hG => ?_)
  obtain ⟨rfl, hgr9, had9, hf9⟩ := hp9
  refine hm_st (st' := [.ref q_360, .int 6, .ref q_55]) rfl ?_
  have hev : hm_fr ad_361 M_362 ad_389 M_388 (fun u => (u.1 = 60 ∨ u.1 = 61 ∨ u.1 = 62) ∧ u.2.1 = 6) := hf9
  have hg0 : hasGr g ad_389 M_388 0 (fun _ => 0, fun _ => 0, 0, false) := hg0.fr hev (by rintro ⟨u1, u2, u3⟩ hu hs; simp only [Prod.mk.injEq] at hu hs; omega)
  have hg1 : hasGr g ad_389 M_388 1 (fun _ => 0, fun _ => 0, 0, false) := hg1.fr hev (by rintro ⟨u1, u2, u3⟩ hu hs; simp only [Prod.mk.injEq] at hu hs; omega)
  have hg2 : hasGr g ad_389 M_388 2 (fun _ => 0, fun _ => 0, 0, false) := hg2.fr hev (by rintro ⟨u1, u2, u3⟩ hu hs; simp only [Prod.mk.injEq] at hu hs; omega)
  have hg3 : hasGr g ad_389 M_388 3 (fun _ => 0, fun _ => 0, 0, false) := hg3.fr hev (by rintro ⟨u1, u2, u3⟩ hu hs; simp only [Prod.mk.injEq] at hu hs; omega)
  have hg4 : hasGr g ad_389 M_388 4 (fun _ => 0, fun _ => 0, 0, false) := hg4.fr hev (by rintro ⟨u1, u2, u3⟩ hu hs; simp only [Prod.mk.injEq] at hu hs; omega)
  have hg5 : hasGr g ad_389 M_388 5 (fun _ => 0, fun _ => 0, 0, false) := hg5.fr hev (by rintro ⟨u1, u2, u3⟩ hu hs; simp only [Prod.mk.injEq] at hu hs; omega)
  have h_390 : M_388 (0, 0, 0) = some (.inr (7, [.ref q_1, .ref q_15, .ref q_33, .ref q_55, .null, .null, .int 0, .int 0, .int 0])) := ((hf9 (0, 0, 0) (by simp)).2).trans h_363
  have a_391 : ad_389 (0, 0, 0) = a := ((hf9 (0, 0, 0) (by simp)).1).trans a_364
  have h_392 : M_388 (1, 0, 0) = some (liE 0 (hm_b g 1) 0) := ((hf9 (1, 0, 0) (by simp)).2).trans h_365
  have a_393 : ad_389 (1, 0, 0) = q_1 := ((hf9 (1, 0, 0) (by simp)).1).trans a_366
  have h_394 : M_388 (2, 0, 0) = some (liE 0 (hm_b g 1) 0) := ((hf9 (2, 0, 0) (by simp)).2).trans h_367
  have a_395 : ad_389 (2, 0, 0) = q_15 := ((hf9 (2, 0, 0) (by simp)).1).trans a_368
  have h_396 : M_388 (3, 0, 0) = some (liE 0 (hm_b g 1) 0) := ((hf9 (3, 0, 0) (by simp)).2).trans h_369
  have a_397 : ad_389 (3, 0, 0) = q_33 := ((hf9 (3, 0, 0) (by simp)).1).trans a_370
  have h_398 : M_388 (7, 0, 0) = some (hm_ra g 1 7 (va_up (va_up (va_up (va_up (va_up (va_up (fun _ => none) 0 (some q_75)) 1 (some q_110)) 2 (some q_150)) 3 (some q_195)) 4 (some q_245)) 5 (some q_300))) := ((hf9 (7, 0, 0) (by simp)).2).trans h_371
  have a_399 : ad_389 (7, 0, 0) = q_55 := ((hf9 (7, 0, 0) (by simp)).1).trans a_372
  have h_400 : M_388 (60, 0, 0) = some (.inr (2, [.ref (ad_92 (61, 0, 0)), .ref (ad_92 (62, 0, 0)), .int 0, .int (bI false)])) := ((hf9 (60, 0, 0) (by simp)).2).trans h_373
  have a_401 : ad_389 (60, 0, 0) = q_75 := ((hf9 (60, 0, 0) (by simp)).1).trans a_374
  have h_402 : M_388 (60, 1, 0) = some (.inr (2, [.ref (ad_129 (61, 1, 0)), .ref (ad_129 (62, 1, 0)), .int 0, .int (bI false)])) := ((hf9 (60, 1, 0) (by simp)).2).trans h_375
  have a_403 : ad_389 (60, 1, 0) = q_110 := ((hf9 (60, 1, 0) (by simp)).1).trans a_376
  have h_404 : M_388 (60, 2, 0) = some (.inr (2, [.ref (ad_171 (61, 2, 0)), .ref (ad_171 (62, 2, 0)), .int 0, .int (bI false)])) := ((hf9 (60, 2, 0) (by simp)).2).trans h_377
  have a_405 : ad_389 (60, 2, 0) = q_150 := ((hf9 (60, 2, 0) (by simp)).1).trans a_378
  have h_406 : M_388 (60, 3, 0) = some (.inr (2, [.ref (ad_218 (61, 3, 0)), .ref (ad_218 (62, 3, 0)), .int 0, .int (bI false)])) := ((hf9 (60, 3, 0) (by simp)).2).trans h_379
  have a_407 : ad_389 (60, 3, 0) = q_195 := ((hf9 (60, 3, 0) (by simp)).1).trans a_380
  have h_408 : M_388 (60, 4, 0) = some (.inr (2, [.ref (ad_270 (61, 4, 0)), .ref (ad_270 (62, 4, 0)), .int 0, .int (bI false)])) := ((hf9 (60, 4, 0) (by simp)).2).trans h_381
  have a_409 : ad_389 (60, 4, 0) = q_245 := ((hf9 (60, 4, 0) (by simp)).1).trans a_382
  have h_410 : M_388 (60, 5, 0) = some (.inr (2, [.ref (ad_327 (61, 5, 0)), .ref (ad_327 (62, 5, 0)), .int 0, .int (bI false)])) := ((hf9 (60, 5, 0) (by simp)).2).trans h_383
  have a_411 : ad_389 (60, 5, 0) = q_300 := ((hf9 (60, 5, 0) (by simp)).1).trans a_384
  have hfr : hm_fr ad M ad_389 M_388 (fun u => u.1 < 80) := hfr.tr hf9 (by simp)
  have hg6 := hgr9
  refine hm_astq2 (j := 6) S hE hG h_398 a_399 rfl hgr9.1 had9 rfl (by unfold vp_in; decide) (by decide) dX6_init_66 (fun H locs hG => ?_)
  obtain ⟨M_412, eM_412⟩ : ∃ q9, q9 = hm_up M_388 (7, 0, 0) (hm_ra g 1 7 (va_up (va_up (va_up (va_up (va_up (va_up (va_up (fun _ => none) 0 (some q_75)) 1 (some q_110)) 2 (some q_150)) 3 (some q_195)) 4 (some q_245)) 5 (some q_300)) 6 (some q_360))) := ⟨_, rfl⟩
  rw [← eM_412] at hG
  have h_413 : M_412 (0, 0, 0) = some (.inr (7, [.ref q_1, .ref q_15, .ref q_33, .ref q_55, .null, .null, .int 0, .int 0, .int 0])) := by rw [eM_412]; exact (hm_up_n (by simp)).trans h_390
  have h_414 : M_412 (1, 0, 0) = some (liE 0 (hm_b g 1) 0) := by rw [eM_412]; exact (hm_up_n (by simp)).trans h_392
  have h_415 : M_412 (2, 0, 0) = some (liE 0 (hm_b g 1) 0) := by rw [eM_412]; exact (hm_up_n (by simp)).trans h_394
  have h_416 : M_412 (3, 0, 0) = some (liE 0 (hm_b g 1) 0) := by rw [eM_412]; exact (hm_up_n (by simp)).trans h_396
  have h_417 : M_412 (7, 0, 0) = some (hm_ra g 1 7 (va_up (va_up (va_up (va_up (va_up (va_up (va_up (fun _ => none) 0 (some q_75)) 1 (some q_110)) 2 (some q_150)) 3 (some q_195)) 4 (some q_245)) 5 (some q_300)) 6 (some q_360))) := by rw [eM_412]; exact hm_up_s
  have h_418 : M_412 (60, 0, 0) = some (.inr (2, [.ref (ad_92 (61, 0, 0)), .ref (ad_92 (62, 0, 0)), .int 0, .int (bI false)])) := by rw [eM_412]; exact (hm_up_n (by simp)).trans h_400
  have h_419 : M_412 (60, 1, 0) = some (.inr (2, [.ref (ad_129 (61, 1, 0)), .ref (ad_129 (62, 1, 0)), .int 0, .int (bI false)])) := by rw [eM_412]; exact (hm_up_n (by simp)).trans h_402
  have h_420 : M_412 (60, 2, 0) = some (.inr (2, [.ref (ad_171 (61, 2, 0)), .ref (ad_171 (62, 2, 0)), .int 0, .int (bI false)])) := by rw [eM_412]; exact (hm_up_n (by simp)).trans h_404
  have h_421 : M_412 (60, 3, 0) = some (.inr (2, [.ref (ad_218 (61, 3, 0)), .ref (ad_218 (62, 3, 0)), .int 0, .int (bI false)])) := by rw [eM_412]; exact (hm_up_n (by simp)).trans h_406
  have h_422 : M_412 (60, 4, 0) = some (.inr (2, [.ref (ad_270 (61, 4, 0)), .ref (ad_270 (62, 4, 0)), .int 0, .int (bI false)])) := by rw [eM_412]; exact (hm_up_n (by simp)).trans h_408
  have h_423 : M_412 (60, 5, 0) = some (.inr (2, [.ref (ad_327 (61, 5, 0)), .ref (ad_327 (62, 5, 0)), .int 0, .int (bI false)])) := by rw [eM_412]; exact (hm_up_n (by simp)).trans h_410
  have h_424 : M_412 (60, 6, 0) = some (.inr (2, [.ref (ad_389 (61, 6, 0)), .ref (ad_389 (62, 6, 0)), .int 0, .int (bI false)])) := by rw [eM_412]; exact (hm_up_n (by simp)).trans hgr9.1
  have hfr : hm_fr ad M ad_389 M_412 (fun u => u.1 < 80) := by rw [eM_412]; exact hfr.up (by simp)
  have hev : hm_fr ad_389 M_388 ad_389 M_412 (fun u => u = (7, 0, 0)) := by rw [eM_412]; exact hm_fr.rf.up rfl
  have hg0 : hasGr g ad_389 M_412 0 (fun _ => 0, fun _ => 0, 0, false) := hg0.fr hev (by rintro ⟨u1, u2, u3⟩ hu hs; simp only [Prod.mk.injEq] at hu hs; omega)
  have hg1 : hasGr g ad_389 M_412 1 (fun _ => 0, fun _ => 0, 0, false) := hg1.fr hev (by rintro ⟨u1, u2, u3⟩ hu hs; simp only [Prod.mk.injEq] at hu hs; omega)
  have hg2 : hasGr g ad_389 M_412 2 (fun _ => 0, fun _ => 0, 0, false) := hg2.fr hev (by rintro ⟨u1, u2, u3⟩ hu hs; simp only [Prod.mk.injEq] at hu hs; omega)
  have hg3 : hasGr g ad_389 M_412 3 (fun _ => 0, fun _ => 0, 0, false) := hg3.fr hev (by rintro ⟨u1, u2, u3⟩ hu hs; simp only [Prod.mk.injEq] at hu hs; omega)
  have hg4 : hasGr g ad_389 M_412 4 (fun _ => 0, fun _ => 0, 0, false) := hg4.fr hev (by rintro ⟨u1, u2, u3⟩ hu hs; simp only [Prod.mk.injEq] at hu hs; omega)
  have hg5 : hasGr g ad_389 M_412 5 (fun _ => 0, fun _ => 0, 0, false) := hg5.fr hev (by rintro ⟨u1, u2, u3⟩ hu hs; simp only [Prod.mk.injEq] at hu hs; omega)
  have hg6 : hasGr g ad_389 M_412 6 (fun _ => 0, fun _ => 0, 0, false) := hg6.fr hev (by rintro ⟨u1, u2, u3⟩ hu hs; simp only [Prod.mk.injEq] at hu hs; omega)
  refine lv_iinc (v := 7) (lv' := [(1, .int 7), (0, .ref a)]) S.1 S.2.1 dX6_init_67 hl (k := 0) rfl (by decide) (by decide) rfl (fun ls hl => ?_)
  refine lv_goto (tgt := 48) S.1 S.2.1 dX6_init_70 (by decide) ?_
  refine lv_iload_n S.1 S.2.1 dX6_init_48 rfl (lv_at hl 0 rfl) ?_
  refine lv_bipush (v := 7) S.1 S.2.1 dX6_init_49 (by decide) ?_
  refine lv_icmp_ge (tgt := 73) S.1 S.2.1 dX6_init_51 (by decide) (fun _ => ?_) (fun h9 => absurd (by decide) h9)
  refine lv_aload_n S.1 S.2.1 dX6_init_73 rfl (lv_at hl 1 rfl) ?_
  refine hm_new (ci := 4) (fs := [.null, .int 0, .int 0, .int 0]) S hE hG (8, 0, 0) rfl hi_X30 tyX3_ok hb_23 hb_24 hb_25 (by decide) (Nat.le_of_ble_eq_true rfl) (Nat.le_of_ble_eq_true rfl) dX6_init_74 (fun q_425 H hG => ?_)
  obtain ⟨ad_426, ead_426⟩ : ∃ q9, q9 = hm_au ad_389 (8, 0, 0) q_425 := ⟨_, rfl⟩
  obtain ⟨M_427, eM_427⟩ : ∃ q9, q9 = hm_up M_412 (8, 0, 0) (.inr (4, [.null, .int 0, .int 0, .int 0])) := ⟨_, rfl⟩
  rw [← ead_426, ← eM_427] at hG
  have h_428 : M_427 (0, 0, 0) = some (.inr (7, [.ref q_1, .ref q_15, .ref q_33, .ref q_55, .null, .null, .int 0, .int 0, .int 0])) := by rw [eM_427]; exact (hm_up_n (by simp)).trans h_413
  have a_429 : ad_426 (0, 0, 0) = a := by rw [ead_426]; exact (hm_au_n (by simp)).trans a_391
  have h_430 : M_427 (1, 0, 0) = some (liE 0 (hm_b g 1) 0) := by rw [eM_427]; exact (hm_up_n (by simp)).trans h_414
  have a_431 : ad_426 (1, 0, 0) = q_1 := by rw [ead_426]; exact (hm_au_n (by simp)).trans a_393
  have h_432 : M_427 (2, 0, 0) = some (liE 0 (hm_b g 1) 0) := by rw [eM_427]; exact (hm_up_n (by simp)).trans h_415
  have a_433 : ad_426 (2, 0, 0) = q_15 := by rw [ead_426]; exact (hm_au_n (by simp)).trans a_395
  have h_434 : M_427 (3, 0, 0) = some (liE 0 (hm_b g 1) 0) := by rw [eM_427]; exact (hm_up_n (by simp)).trans h_416
  have a_435 : ad_426 (3, 0, 0) = q_33 := by rw [ead_426]; exact (hm_au_n (by simp)).trans a_397
  have h_436 : M_427 (7, 0, 0) = some (hm_ra g 1 7 (va_up (va_up (va_up (va_up (va_up (va_up (va_up (fun _ => none) 0 (some q_75)) 1 (some q_110)) 2 (some q_150)) 3 (some q_195)) 4 (some q_245)) 5 (some q_300)) 6 (some q_360))) := by rw [eM_427]; exact (hm_up_n (by simp)).trans h_417
  have a_437 : ad_426 (7, 0, 0) = q_55 := by rw [ead_426]; exact (hm_au_n (by simp)).trans a_399
  have h_438 : M_427 (60, 0, 0) = some (.inr (2, [.ref (ad_92 (61, 0, 0)), .ref (ad_92 (62, 0, 0)), .int 0, .int (bI false)])) := by rw [eM_427]; exact (hm_up_n (by simp)).trans h_418
  have a_439 : ad_426 (60, 0, 0) = q_75 := by rw [ead_426]; exact (hm_au_n (by simp)).trans a_401
  have h_440 : M_427 (60, 1, 0) = some (.inr (2, [.ref (ad_129 (61, 1, 0)), .ref (ad_129 (62, 1, 0)), .int 0, .int (bI false)])) := by rw [eM_427]; exact (hm_up_n (by simp)).trans h_419
  have a_441 : ad_426 (60, 1, 0) = q_110 := by rw [ead_426]; exact (hm_au_n (by simp)).trans a_403
  have h_442 : M_427 (60, 2, 0) = some (.inr (2, [.ref (ad_171 (61, 2, 0)), .ref (ad_171 (62, 2, 0)), .int 0, .int (bI false)])) := by rw [eM_427]; exact (hm_up_n (by simp)).trans h_420
  have a_443 : ad_426 (60, 2, 0) = q_150 := by rw [ead_426]; exact (hm_au_n (by simp)).trans a_405
  have h_444 : M_427 (60, 3, 0) = some (.inr (2, [.ref (ad_218 (61, 3, 0)), .ref (ad_218 (62, 3, 0)), .int 0, .int (bI false)])) := by rw [eM_427]; exact (hm_up_n (by simp)).trans h_421
  have a_445 : ad_426 (60, 3, 0) = q_195 := by rw [ead_426]; exact (hm_au_n (by simp)).trans a_407
  have h_446 : M_427 (60, 4, 0) = some (.inr (2, [.ref (ad_270 (61, 4, 0)), .ref (ad_270 (62, 4, 0)), .int 0, .int (bI false)])) := by rw [eM_427]; exact (hm_up_n (by simp)).trans h_422
  have a_447 : ad_426 (60, 4, 0) = q_245 := by rw [ead_426]; exact (hm_au_n (by simp)).trans a_409
  have h_448 : M_427 (60, 5, 0) = some (.inr (2, [.ref (ad_327 (61, 5, 0)), .ref (ad_327 (62, 5, 0)), .int 0, .int (bI false)])) := by rw [eM_427]; exact (hm_up_n (by simp)).trans h_423
  have a_449 : ad_426 (60, 5, 0) = q_300 := by rw [ead_426]; exact (hm_au_n (by simp)).trans a_411
  have h_450 : M_427 (60, 6, 0) = some (.inr (2, [.ref (ad_389 (61, 6, 0)), .ref (ad_389 (62, 6, 0)), .int 0, .int (bI false)])) := by rw [eM_427]; exact (hm_up_n (by simp)).trans h_424
  have a_451 : ad_426 (60, 6, 0) = q_360 := by rw [ead_426]; exact (hm_au_n (by simp)).trans had9
  have h_452 : M_427 (8, 0, 0) = some (.inr (4, [.null, .int 0, .int 0, .int 0])) := by rw [eM_427]; exact hm_up_s
  have a_453 : ad_426 (8, 0, 0) = q_425 := by rw [ead_426]; exact hm_au_s
  have hfr : hm_fr ad M ad_426 M_427 (fun u => u.1 < 80) := by rw [ead_426, eM_427]; exact hfr.au (by simp)
  have hev : hm_fr ad_389 M_412 ad_426 M_427 (fun u => u = (8, 0, 0)) := by rw [ead_426, eM_427]; exact hm_fr.rf.au rfl
  have hg0 : hasGr g ad_426 M_427 0 (fun _ => 0, fun _ => 0, 0, false) := hg0.fr hev (by rintro ⟨u1, u2, u3⟩ hu hs; simp only [Prod.mk.injEq] at hu hs; omega)
  have hg1 : hasGr g ad_426 M_427 1 (fun _ => 0, fun _ => 0, 0, false) := hg1.fr hev (by rintro ⟨u1, u2, u3⟩ hu hs; simp only [Prod.mk.injEq] at hu hs; omega)
  have hg2 : hasGr g ad_426 M_427 2 (fun _ => 0, fun _ => 0, 0, false) := hg2.fr hev (by rintro ⟨u1, u2, u3⟩ hu hs; simp only [Prod.mk.injEq] at hu hs; omega)
  have hg3 : hasGr g ad_426 M_427 3 (fun _ => 0, fun _ => 0, 0, false) := hg3.fr hev (by rintro ⟨u1, u2, u3⟩ hu hs; simp only [Prod.mk.injEq] at hu hs; omega)
  have hg4 : hasGr g ad_426 M_427 4 (fun _ => 0, fun _ => 0, 0, false) := hg4.fr hev (by rintro ⟨u1, u2, u3⟩ hu hs; simp only [Prod.mk.injEq] at hu hs; omega)
  have hg5 : hasGr g ad_426 M_427 5 (fun _ => 0, fun _ => 0, 0, false) := hg5.fr hev (by rintro ⟨u1, u2, u3⟩ hu hs; simp only [Prod.mk.injEq] at hu hs; omega)
  have hg6 : hasGr g ad_426 M_427 6 (fun _ => 0, fun _ => 0, 0, false) := hg6.fr hev (by rintro ⟨u1, u2, u3⟩ hu hs; simp only [Prod.mk.injEq] at hu hs; omega)
  refine lv_dup S.1 S.2.1 dX6_init_77 rfl ?_
  refine hm_callIN (As := []) (rest := [.ref q_425, .ref a]) S hE hG (c_X3_init l g ad_426 M_427 q_425 a_453 h_452) hb_58 hb_25 (List.mem_of_getElem? (i := 1) rfl) hb_57 rfl hd_X3_init ⟨Nat.le_of_ble_eq_true rfl, Nat.le_of_ble_eq_true rfl⟩ rfl hl.1 rfl (Nat.le_of_ble_eq_true rfl) dX6_init_78 ⟨Nat.le_of_ble_eq_true rfl, Nat.le_of_ble_eq_true rfl⟩ (fun v9 ad_456 M_455 H locs hp9 hG => ?_)
  obtain ⟨rfl, hlg9, had9, hf9⟩ := hp9
  refine hm_st (st' := [.ref q_425, .ref a]) rfl ?_
  have hev : hm_fr ad_426 M_427 ad_456 M_455 (fun u => u.1 = 8 ∨ u.1 = 9 ∨ u.1 = 51) := hf9
  have hg0 : hasGr g ad_456 M_455 0 (fun _ => 0, fun _ => 0, 0, false) := hg0.fr hev (by rintro ⟨u1, u2, u3⟩ hu hs; simp only [Prod.mk.injEq] at hu hs; omega)
  have hg1 : hasGr g ad_456 M_455 1 (fun _ => 0, fun _ => 0, 0, false) := hg1.fr hev (by rintro ⟨u1, u2, u3⟩ hu hs; simp only [Prod.mk.injEq] at hu hs; omega)
  have hg2 : hasGr g ad_456 M_455 2 (fun _ => 0, fun _ => 0, 0, false) := hg2.fr hev (by rintro ⟨u1, u2, u3⟩ hu hs; simp only [Prod.mk.injEq] at hu hs; omega)
  have hg3 : hasGr g ad_456 M_455 3 (fun _ => 0, fun _ => 0, 0, false) := hg3.fr hev (by rintro ⟨u1, u2, u3⟩ hu hs; simp only [Prod.mk.injEq] at hu hs; omega)
  have hg4 : hasGr g ad_456 M_455 4 (fun _ => 0, fun _ => 0, 0, false) := hg4.fr hev (by rintro ⟨u1, u2, u3⟩ hu hs; simp only [Prod.mk.injEq] at hu hs; omega)
  have hg5 : hasGr g ad_456 M_455 5 (fun _ => 0, fun _ => 0, 0, false) := hg5.fr hev (by rintro ⟨u1, u2, u3⟩ hu hs; simp only [Prod.mk.injEq] at hu hs; omega)
  have hg6 : hasGr g ad_456 M_455 6 (fun _ => 0, fun _ => 0, 0, false) := hg6.fr hev (by rintro ⟨u1, u2, u3⟩ hu hs; simp only [Prod.mk.injEq] at hu hs; omega)
  have h_457 : M_455 (0, 0, 0) = some (.inr (7, [.ref q_1, .ref q_15, .ref q_33, .ref q_55, .null, .null, .int 0, .int 0, .int 0])) := ((hf9 (0, 0, 0) (by simp)).2).trans h_428
  have a_458 : ad_456 (0, 0, 0) = a := ((hf9 (0, 0, 0) (by simp)).1).trans a_429
  have h_459 : M_455 (1, 0, 0) = some (liE 0 (hm_b g 1) 0) := ((hf9 (1, 0, 0) (by simp)).2).trans h_430
  have a_460 : ad_456 (1, 0, 0) = q_1 := ((hf9 (1, 0, 0) (by simp)).1).trans a_431
  have h_461 : M_455 (2, 0, 0) = some (liE 0 (hm_b g 1) 0) := ((hf9 (2, 0, 0) (by simp)).2).trans h_432
  have a_462 : ad_456 (2, 0, 0) = q_15 := ((hf9 (2, 0, 0) (by simp)).1).trans a_433
  have h_463 : M_455 (3, 0, 0) = some (liE 0 (hm_b g 1) 0) := ((hf9 (3, 0, 0) (by simp)).2).trans h_434
  have a_464 : ad_456 (3, 0, 0) = q_33 := ((hf9 (3, 0, 0) (by simp)).1).trans a_435
  have h_465 : M_455 (7, 0, 0) = some (hm_ra g 1 7 (va_up (va_up (va_up (va_up (va_up (va_up (va_up (fun _ => none) 0 (some q_75)) 1 (some q_110)) 2 (some q_150)) 3 (some q_195)) 4 (some q_245)) 5 (some q_300)) 6 (some q_360))) := ((hf9 (7, 0, 0) (by simp)).2).trans h_436
  have a_466 : ad_456 (7, 0, 0) = q_55 := ((hf9 (7, 0, 0) (by simp)).1).trans a_437
  have h_467 : M_455 (60, 0, 0) = some (.inr (2, [.ref (ad_92 (61, 0, 0)), .ref (ad_92 (62, 0, 0)), .int 0, .int (bI false)])) := ((hf9 (60, 0, 0) (by simp)).2).trans h_438
  have a_468 : ad_456 (60, 0, 0) = q_75 := ((hf9 (60, 0, 0) (by simp)).1).trans a_439
  have h_469 : M_455 (60, 1, 0) = some (.inr (2, [.ref (ad_129 (61, 1, 0)), .ref (ad_129 (62, 1, 0)), .int 0, .int (bI false)])) := ((hf9 (60, 1, 0) (by simp)).2).trans h_440
  have a_470 : ad_456 (60, 1, 0) = q_110 := ((hf9 (60, 1, 0) (by simp)).1).trans a_441
  have h_471 : M_455 (60, 2, 0) = some (.inr (2, [.ref (ad_171 (61, 2, 0)), .ref (ad_171 (62, 2, 0)), .int 0, .int (bI false)])) := ((hf9 (60, 2, 0) (by simp)).2).trans h_442
  have a_472 : ad_456 (60, 2, 0) = q_150 := ((hf9 (60, 2, 0) (by simp)).1).trans a_443
  have h_473 : M_455 (60, 3, 0) = some (.inr (2, [.ref (ad_218 (61, 3, 0)), .ref (ad_218 (62, 3, 0)), .int 0, .int (bI false)])) := ((hf9 (60, 3, 0) (by simp)).2).trans h_444
  have a_474 : ad_456 (60, 3, 0) = q_195 := ((hf9 (60, 3, 0) (by simp)).1).trans a_445
  have h_475 : M_455 (60, 4, 0) = some (.inr (2, [.ref (ad_270 (61, 4, 0)), .ref (ad_270 (62, 4, 0)), .int 0, .int (bI false)])) := ((hf9 (60, 4, 0) (by simp)).2).trans h_446
  have a_476 : ad_456 (60, 4, 0) = q_245 := ((hf9 (60, 4, 0) (by simp)).1).trans a_447
  have h_477 : M_455 (60, 5, 0) = some (.inr (2, [.ref (ad_327 (61, 5, 0)), .ref (ad_327 (62, 5, 0)), .int 0, .int (bI false)])) := ((hf9 (60, 5, 0) (by simp)).2).trans h_448
  have a_478 : ad_456 (60, 5, 0) = q_300 := ((hf9 (60, 5, 0) (by simp)).1).trans a_449
  have h_479 : M_455 (60, 6, 0) = some (.inr (2, [.ref (ad_389 (61, 6, 0)), .ref (ad_389 (62, 6, 0)), .int 0, .int (bI false)])) := ((hf9 (60, 6, 0) (by simp)).2).trans h_450
  have a_480 : ad_456 (60, 6, 0) = q_360 := ((hf9 (60, 6, 0) (by simp)).1).trans a_451
  have hfr : hm_fr ad M ad_456 M_455 (fun u => u.1 < 80) := hfr.tr hf9 (by simp)
  have hlg := hlg9
  refine hm_putF (k := 4) (fs' := [.ref q_1, .ref q_15, .ref q_33, .ref q_55, .ref q_425, .null, .int 0, .int 0, .int 0]) S hE hG (hnm) h_457 a_458 rfl hi_X60 tyX6_ok nmX6 (by decide) hb_26 rfl rfl rfl (by rfl) (by rfl) (Nat.le_of_ble_eq_true rfl) rfl dX6_init_81 (fun H locs hG => ?_)
  obtain ⟨M_481, eM_481⟩ : ∃ q9, q9 = hm_up M_455 (0, 0, 0) (.inr (7, [.ref q_1, .ref q_15, .ref q_33, .ref q_55, .ref q_425, .null, .int 0, .int 0, .int 0])) := ⟨_, rfl⟩
  rw [← eM_481] at hG
  have h_482 : M_481 (0, 0, 0) = some (.inr (7, [.ref q_1, .ref q_15, .ref q_33, .ref q_55, .ref q_425, .null, .int 0, .int 0, .int 0])) := by rw [eM_481]; exact hm_up_s
  have h_483 : M_481 (1, 0, 0) = some (liE 0 (hm_b g 1) 0) := by rw [eM_481]; exact (hm_up_n (by simp)).trans h_459
  have h_484 : M_481 (2, 0, 0) = some (liE 0 (hm_b g 1) 0) := by rw [eM_481]; exact (hm_up_n (by simp)).trans h_461
  have h_485 : M_481 (3, 0, 0) = some (liE 0 (hm_b g 1) 0) := by rw [eM_481]; exact (hm_up_n (by simp)).trans h_463
  have h_486 : M_481 (7, 0, 0) = some (hm_ra g 1 7 (va_up (va_up (va_up (va_up (va_up (va_up (va_up (fun _ => none) 0 (some q_75)) 1 (some q_110)) 2 (some q_150)) 3 (some q_195)) 4 (some q_245)) 5 (some q_300)) 6 (some q_360))) := by rw [eM_481]; exact (hm_up_n (by simp)).trans h_465
  have h_487 : M_481 (60, 0, 0) = some (.inr (2, [.ref (ad_92 (61, 0, 0)), .ref (ad_92 (62, 0, 0)), .int 0, .int (bI false)])) := by rw [eM_481]; exact (hm_up_n (by simp)).trans h_467
  have h_488 : M_481 (60, 1, 0) = some (.inr (2, [.ref (ad_129 (61, 1, 0)), .ref (ad_129 (62, 1, 0)), .int 0, .int (bI false)])) := by rw [eM_481]; exact (hm_up_n (by simp)).trans h_469
  have h_489 : M_481 (60, 2, 0) = some (.inr (2, [.ref (ad_171 (61, 2, 0)), .ref (ad_171 (62, 2, 0)), .int 0, .int (bI false)])) := by rw [eM_481]; exact (hm_up_n (by simp)).trans h_471
  have h_490 : M_481 (60, 3, 0) = some (.inr (2, [.ref (ad_218 (61, 3, 0)), .ref (ad_218 (62, 3, 0)), .int 0, .int (bI false)])) := by rw [eM_481]; exact (hm_up_n (by simp)).trans h_473
  have h_491 : M_481 (60, 4, 0) = some (.inr (2, [.ref (ad_270 (61, 4, 0)), .ref (ad_270 (62, 4, 0)), .int 0, .int (bI false)])) := by rw [eM_481]; exact (hm_up_n (by simp)).trans h_475
  have h_492 : M_481 (60, 5, 0) = some (.inr (2, [.ref (ad_327 (61, 5, 0)), .ref (ad_327 (62, 5, 0)), .int 0, .int (bI false)])) := by rw [eM_481]; exact (hm_up_n (by simp)).trans h_477
  have h_493 : M_481 (60, 6, 0) = some (.inr (2, [.ref (ad_389 (61, 6, 0)), .ref (ad_389 (62, 6, 0)), .int 0, .int (bI false)])) := by rw [eM_481]; exact (hm_up_n (by simp)).trans h_479
  have h_494 : M_481 (8, 0, 0) = some (.inr (4, [.ref (ad_456 (9, 0, 0)), .int (nI 0), .int (nI 0), .int (nI 0)])) := by rw [eM_481]; exact (hm_up_n (by simp)).trans hlg9.1
  have hfr : hm_fr ad M ad_456 M_481 (fun u => u.1 < 80) := by rw [eM_481]; exact hfr.up (by simp)
  have hev : hm_fr ad_456 M_455 ad_456 M_481 (fun u => u = (0, 0, 0)) := by rw [eM_481]; exact hm_fr.rf.up rfl
  have hg0 : hasGr g ad_456 M_481 0 (fun _ => 0, fun _ => 0, 0, false) := hg0.fr hev (by rintro ⟨u1, u2, u3⟩ hu hs; simp only [Prod.mk.injEq] at hu hs; omega)
  have hg1 : hasGr g ad_456 M_481 1 (fun _ => 0, fun _ => 0, 0, false) := hg1.fr hev (by rintro ⟨u1, u2, u3⟩ hu hs; simp only [Prod.mk.injEq] at hu hs; omega)
  have hg2 : hasGr g ad_456 M_481 2 (fun _ => 0, fun _ => 0, 0, false) := hg2.fr hev (by rintro ⟨u1, u2, u3⟩ hu hs; simp only [Prod.mk.injEq] at hu hs; omega)
  have hg3 : hasGr g ad_456 M_481 3 (fun _ => 0, fun _ => 0, 0, false) := hg3.fr hev (by rintro ⟨u1, u2, u3⟩ hu hs; simp only [Prod.mk.injEq] at hu hs; omega)
  have hg4 : hasGr g ad_456 M_481 4 (fun _ => 0, fun _ => 0, 0, false) := hg4.fr hev (by rintro ⟨u1, u2, u3⟩ hu hs; simp only [Prod.mk.injEq] at hu hs; omega)
  have hg5 : hasGr g ad_456 M_481 5 (fun _ => 0, fun _ => 0, 0, false) := hg5.fr hev (by rintro ⟨u1, u2, u3⟩ hu hs; simp only [Prod.mk.injEq] at hu hs; omega)
  have hg6 : hasGr g ad_456 M_481 6 (fun _ => 0, fun _ => 0, 0, false) := hg6.fr hev (by rintro ⟨u1, u2, u3⟩ hu hs; simp only [Prod.mk.injEq] at hu hs; omega)
  have hlg : hasLg g ad_456 M_481 (fun _ _ => 0, 0, 0, 0) := hlg.fr hev (by rintro ⟨u1, u2, u3⟩ hu hs; simp only [Prod.mk.injEq] at hu hs; omega)
  refine lv_aload_n S.1 S.2.1 dX6_init_84 rfl (lv_at hl 1 rfl) ?_
  refine hm_new (ci := 1) (fs := [.int 0, .int 0, .int 0]) S hE hG (70, 0, 0) rfl hi_X00 tyX0_ok hb_27 hb_28 hb_29 (by decide) (Nat.le_of_ble_eq_true rfl) (Nat.le_of_ble_eq_true rfl) dX6_init_85 (fun q_495 H hG => ?_)
  obtain ⟨ad_496, ead_496⟩ : ∃ q9, q9 = hm_au ad_456 (70, 0, 0) q_495 := ⟨_, rfl⟩
  obtain ⟨M_497, eM_497⟩ : ∃ q9, q9 = hm_up M_481 (70, 0, 0) (.inr (1, [.int 0, .int 0, .int 0])) := ⟨_, rfl⟩
  rw [← ead_496, ← eM_497] at hG
  have h_498 : M_497 (0, 0, 0) = some (.inr (7, [.ref q_1, .ref q_15, .ref q_33, .ref q_55, .ref q_425, .null, .int 0, .int 0, .int 0])) := by rw [eM_497]; exact (hm_up_n (by simp)).trans h_482
  have a_499 : ad_496 (0, 0, 0) = a := by rw [ead_496]; exact (hm_au_n (by simp)).trans a_458
  have h_500 : M_497 (1, 0, 0) = some (liE 0 (hm_b g 1) 0) := by rw [eM_497]; exact (hm_up_n (by simp)).trans h_483
  have a_501 : ad_496 (1, 0, 0) = q_1 := by rw [ead_496]; exact (hm_au_n (by simp)).trans a_460
  have h_502 : M_497 (2, 0, 0) = some (liE 0 (hm_b g 1) 0) := by rw [eM_497]; exact (hm_up_n (by simp)).trans h_484
  have a_503 : ad_496 (2, 0, 0) = q_15 := by rw [ead_496]; exact (hm_au_n (by simp)).trans a_462
  have h_504 : M_497 (3, 0, 0) = some (liE 0 (hm_b g 1) 0) := by rw [eM_497]; exact (hm_up_n (by simp)).trans h_485
  have a_505 : ad_496 (3, 0, 0) = q_33 := by rw [ead_496]; exact (hm_au_n (by simp)).trans a_464
  have h_506 : M_497 (7, 0, 0) = some (hm_ra g 1 7 (va_up (va_up (va_up (va_up (va_up (va_up (va_up (fun _ => none) 0 (some q_75)) 1 (some q_110)) 2 (some q_150)) 3 (some q_195)) 4 (some q_245)) 5 (some q_300)) 6 (some q_360))) := by rw [eM_497]; exact (hm_up_n (by simp)).trans h_486
  have a_507 : ad_496 (7, 0, 0) = q_55 := by rw [ead_496]; exact (hm_au_n (by simp)).trans a_466
  have h_508 : M_497 (60, 0, 0) = some (.inr (2, [.ref (ad_92 (61, 0, 0)), .ref (ad_92 (62, 0, 0)), .int 0, .int (bI false)])) := by rw [eM_497]; exact (hm_up_n (by simp)).trans h_487
  have a_509 : ad_496 (60, 0, 0) = q_75 := by rw [ead_496]; exact (hm_au_n (by simp)).trans a_468
  have h_510 : M_497 (60, 1, 0) = some (.inr (2, [.ref (ad_129 (61, 1, 0)), .ref (ad_129 (62, 1, 0)), .int 0, .int (bI false)])) := by rw [eM_497]; exact (hm_up_n (by simp)).trans h_488
  have a_511 : ad_496 (60, 1, 0) = q_110 := by rw [ead_496]; exact (hm_au_n (by simp)).trans a_470
  have h_512 : M_497 (60, 2, 0) = some (.inr (2, [.ref (ad_171 (61, 2, 0)), .ref (ad_171 (62, 2, 0)), .int 0, .int (bI false)])) := by rw [eM_497]; exact (hm_up_n (by simp)).trans h_489
  have a_513 : ad_496 (60, 2, 0) = q_150 := by rw [ead_496]; exact (hm_au_n (by simp)).trans a_472
  have h_514 : M_497 (60, 3, 0) = some (.inr (2, [.ref (ad_218 (61, 3, 0)), .ref (ad_218 (62, 3, 0)), .int 0, .int (bI false)])) := by rw [eM_497]; exact (hm_up_n (by simp)).trans h_490
  have a_515 : ad_496 (60, 3, 0) = q_195 := by rw [ead_496]; exact (hm_au_n (by simp)).trans a_474
  have h_516 : M_497 (60, 4, 0) = some (.inr (2, [.ref (ad_270 (61, 4, 0)), .ref (ad_270 (62, 4, 0)), .int 0, .int (bI false)])) := by rw [eM_497]; exact (hm_up_n (by simp)).trans h_491
  have a_517 : ad_496 (60, 4, 0) = q_245 := by rw [ead_496]; exact (hm_au_n (by simp)).trans a_476
  have h_518 : M_497 (60, 5, 0) = some (.inr (2, [.ref (ad_327 (61, 5, 0)), .ref (ad_327 (62, 5, 0)), .int 0, .int (bI false)])) := by rw [eM_497]; exact (hm_up_n (by simp)).trans h_492
  have a_519 : ad_496 (60, 5, 0) = q_300 := by rw [ead_496]; exact (hm_au_n (by simp)).trans a_478
  have h_520 : M_497 (60, 6, 0) = some (.inr (2, [.ref (ad_389 (61, 6, 0)), .ref (ad_389 (62, 6, 0)), .int 0, .int (bI false)])) := by rw [eM_497]; exact (hm_up_n (by simp)).trans h_493
  have a_521 : ad_496 (60, 6, 0) = q_360 := by rw [ead_496]; exact (hm_au_n (by simp)).trans a_480
  have h_522 : M_497 (8, 0, 0) = some (.inr (4, [.ref (ad_456 (9, 0, 0)), .int (nI 0), .int (nI 0), .int (nI 0)])) := by rw [eM_497]; exact (hm_up_n (by simp)).trans h_494
  have a_523 : ad_496 (8, 0, 0) = q_425 := by rw [ead_496]; exact (hm_au_n (by simp)).trans had9
  have h_524 : M_497 (70, 0, 0) = some (.inr (1, [.int 0, .int 0, .int 0])) := by rw [eM_497]; exact hm_up_s
  have a_525 : ad_496 (70, 0, 0) = q_495 := by rw [ead_496]; exact hm_au_s
  have hfr : hm_fr ad M ad_496 M_497 (fun u => u.1 < 80) := by rw [ead_496, eM_497]; exact hfr.au (by simp)
  have hev : hm_fr ad_456 M_481 ad_496 M_497 (fun u => u = (70, 0, 0)) := by rw [ead_496, eM_497]; exact hm_fr.rf.au rfl
  have hg0 : hasGr g ad_496 M_497 0 (fun _ => 0, fun _ => 0, 0, false) := hg0.fr hev (by rintro ⟨u1, u2, u3⟩ hu hs; simp only [Prod.mk.injEq] at hu hs; omega)
  have hg1 : hasGr g ad_496 M_497 1 (fun _ => 0, fun _ => 0, 0, false) := hg1.fr hev (by rintro ⟨u1, u2, u3⟩ hu hs; simp only [Prod.mk.injEq] at hu hs; omega)
  have hg2 : hasGr g ad_496 M_497 2 (fun _ => 0, fun _ => 0, 0, false) := hg2.fr hev (by rintro ⟨u1, u2, u3⟩ hu hs; simp only [Prod.mk.injEq] at hu hs; omega)
  have hg3 : hasGr g ad_496 M_497 3 (fun _ => 0, fun _ => 0, 0, false) := hg3.fr hev (by rintro ⟨u1, u2, u3⟩ hu hs; simp only [Prod.mk.injEq] at hu hs; omega)
  have hg4 : hasGr g ad_496 M_497 4 (fun _ => 0, fun _ => 0, 0, false) := hg4.fr hev (by rintro ⟨u1, u2, u3⟩ hu hs; simp only [Prod.mk.injEq] at hu hs; omega)
  have hg5 : hasGr g ad_496 M_497 5 (fun _ => 0, fun _ => 0, 0, false) := hg5.fr hev (by rintro ⟨u1, u2, u3⟩ hu hs; simp only [Prod.mk.injEq] at hu hs; omega)
  have hg6 : hasGr g ad_496 M_497 6 (fun _ => 0, fun _ => 0, 0, false) := hg6.fr hev (by rintro ⟨u1, u2, u3⟩ hu hs; simp only [Prod.mk.injEq] at hu hs; omega)
  have hlg : hasLg g ad_496 M_497 (fun _ _ => 0, 0, 0, 0) := hlg.fr hev (by rintro ⟨u1, u2, u3⟩ hu hs; simp only [Prod.mk.injEq] at hu hs; omega)
  refine lv_dup S.1 S.2.1 dX6_init_88 rfl ?_
  refine hm_uIN (As := []) (rest := [.ref q_495, .ref a]) (st1 := [.ref q_495, .ref a]) S hE hG (c_X0_init l g ad_496 M_497 (70, 0, 0) q_495 a_525 h_524) hb_66 hb_29 (List.mem_of_getElem? (i := 2) rfl) hb_65 rfl hd_X0_init ⟨Nat.le_of_ble_eq_true rfl, Nat.le_of_ble_eq_true rfl⟩ rfl hl.1 rfl (Nat.le_of_ble_eq_true rfl) dX6_init_89 ⟨Nat.le_of_ble_eq_true rfl, Nat.le_of_ble_eq_true rfl⟩ rfl (fun H locs hG => ?_)
  obtain ⟨M_527, eM_527⟩ : ∃ q9, q9 = hm_up M_497 (70, 0, 0) (alE (0, -1, 0)) := ⟨_, rfl⟩
  rw [← eM_527] at hG
  have h_528 : M_527 (0, 0, 0) = some (.inr (7, [.ref q_1, .ref q_15, .ref q_33, .ref q_55, .ref q_425, .null, .int 0, .int 0, .int 0])) := by rw [eM_527]; exact (hm_up_n (by simp)).trans h_498
  have h_529 : M_527 (1, 0, 0) = some (liE 0 (hm_b g 1) 0) := by rw [eM_527]; exact (hm_up_n (by simp)).trans h_500
  have h_530 : M_527 (2, 0, 0) = some (liE 0 (hm_b g 1) 0) := by rw [eM_527]; exact (hm_up_n (by simp)).trans h_502
  have h_531 : M_527 (3, 0, 0) = some (liE 0 (hm_b g 1) 0) := by rw [eM_527]; exact (hm_up_n (by simp)).trans h_504
  have h_532 : M_527 (7, 0, 0) = some (hm_ra g 1 7 (va_up (va_up (va_up (va_up (va_up (va_up (va_up (fun _ => none) 0 (some q_75)) 1 (some q_110)) 2 (some q_150)) 3 (some q_195)) 4 (some q_245)) 5 (some q_300)) 6 (some q_360))) := by rw [eM_527]; exact (hm_up_n (by simp)).trans h_506
  have h_533 : M_527 (60, 0, 0) = some (.inr (2, [.ref (ad_92 (61, 0, 0)), .ref (ad_92 (62, 0, 0)), .int 0, .int (bI false)])) := by rw [eM_527]; exact (hm_up_n (by simp)).trans h_508
  have h_534 : M_527 (60, 1, 0) = some (.inr (2, [.ref (ad_129 (61, 1, 0)), .ref (ad_129 (62, 1, 0)), .int 0, .int (bI false)])) := by rw [eM_527]; exact (hm_up_n (by simp)).trans h_510
  have h_535 : M_527 (60, 2, 0) = some (.inr (2, [.ref (ad_171 (61, 2, 0)), .ref (ad_171 (62, 2, 0)), .int 0, .int (bI false)])) := by rw [eM_527]; exact (hm_up_n (by simp)).trans h_512
  have h_536 : M_527 (60, 3, 0) = some (.inr (2, [.ref (ad_218 (61, 3, 0)), .ref (ad_218 (62, 3, 0)), .int 0, .int (bI false)])) := by rw [eM_527]; exact (hm_up_n (by simp)).trans h_514
  have h_537 : M_527 (60, 4, 0) = some (.inr (2, [.ref (ad_270 (61, 4, 0)), .ref (ad_270 (62, 4, 0)), .int 0, .int (bI false)])) := by rw [eM_527]; exact (hm_up_n (by simp)).trans h_516
  have h_538 : M_527 (60, 5, 0) = some (.inr (2, [.ref (ad_327 (61, 5, 0)), .ref (ad_327 (62, 5, 0)), .int 0, .int (bI false)])) := by rw [eM_527]; exact (hm_up_n (by simp)).trans h_518
  have h_539 : M_527 (60, 6, 0) = some (.inr (2, [.ref (ad_389 (61, 6, 0)), .ref (ad_389 (62, 6, 0)), .int 0, .int (bI false)])) := by rw [eM_527]; exact (hm_up_n (by simp)).trans h_520
  have h_540 : M_527 (8, 0, 0) = some (.inr (4, [.ref (ad_456 (9, 0, 0)), .int (nI 0), .int (nI 0), .int (nI 0)])) := by rw [eM_527]; exact (hm_up_n (by simp)).trans h_522
  have h_541 : M_527 (70, 0, 0) = some (alE (0, -1, 0)) := by rw [eM_527]; exact hm_up_s
  have hfr : hm_fr ad M ad_496 M_527 (fun u => u.1 < 80) := by rw [eM_527]; exact hfr.up (by simp)
  have hev : hm_fr ad_496 M_497 ad_496 M_527 (fun u => u = (70, 0, 0)) := by rw [eM_527]; exact hm_fr.rf.up rfl
  have hg0 : hasGr g ad_496 M_527 0 (fun _ => 0, fun _ => 0, 0, false) := hg0.fr hev (by rintro ⟨u1, u2, u3⟩ hu hs; simp only [Prod.mk.injEq] at hu hs; omega)
  have hg1 : hasGr g ad_496 M_527 1 (fun _ => 0, fun _ => 0, 0, false) := hg1.fr hev (by rintro ⟨u1, u2, u3⟩ hu hs; simp only [Prod.mk.injEq] at hu hs; omega)
  have hg2 : hasGr g ad_496 M_527 2 (fun _ => 0, fun _ => 0, 0, false) := hg2.fr hev (by rintro ⟨u1, u2, u3⟩ hu hs; simp only [Prod.mk.injEq] at hu hs; omega)
  have hg3 : hasGr g ad_496 M_527 3 (fun _ => 0, fun _ => 0, 0, false) := hg3.fr hev (by rintro ⟨u1, u2, u3⟩ hu hs; simp only [Prod.mk.injEq] at hu hs; omega)
  have hg4 : hasGr g ad_496 M_527 4 (fun _ => 0, fun _ => 0, 0, false) := hg4.fr hev (by rintro ⟨u1, u2, u3⟩ hu hs; simp only [Prod.mk.injEq] at hu hs; omega)
  have hg5 : hasGr g ad_496 M_527 5 (fun _ => 0, fun _ => 0, 0, false) := hg5.fr hev (by rintro ⟨u1, u2, u3⟩ hu hs; simp only [Prod.mk.injEq] at hu hs; omega)
  have hg6 : hasGr g ad_496 M_527 6 (fun _ => 0, fun _ => 0, 0, false) := hg6.fr hev (by rintro ⟨u1, u2, u3⟩ hu hs; simp only [Prod.mk.injEq] at hu hs; omega)
  have hlg : hasLg g ad_496 M_527 (fun _ _ => 0, 0, 0, 0) := hlg.fr hev (by rintro ⟨u1, u2, u3⟩ hu hs; simp only [Prod.mk.injEq] at hu hs; omega)
  refine hm_putF (k := 5) (fs' := [.ref q_1, .ref q_15, .ref q_33, .ref q_55, .ref q_425, .ref q_495, .int 0, .int 0, .int 0]) S hE hG (hnm) h_528 a_499 rfl hi_X60 tyX6_ok nmX6 (by decide) hb_30 rfl rfl rfl (by rfl) (by rfl) (Nat.le_of_ble_eq_true rfl) rfl dX6_init_92 (fun H locs hG => ?_)
  obtain ⟨M_542, eM_542⟩ : ∃ q9, q9 = hm_up M_527 (0, 0, 0) (.inr (7, [.ref q_1, .ref q_15, .ref q_33, .ref q_55, .ref q_425, .ref q_495, .int 0, .int 0, .int 0])) := ⟨_, rfl⟩
  rw [← eM_542] at hG
  have h_543 : M_542 (0, 0, 0) = some (.inr (7, [.ref q_1, .ref q_15, .ref q_33, .ref q_55, .ref q_425, .ref q_495, .int 0, .int 0, .int 0])) := by rw [eM_542]; exact hm_up_s
  have h_544 : M_542 (1, 0, 0) = some (liE 0 (hm_b g 1) 0) := by rw [eM_542]; exact (hm_up_n (by simp)).trans h_529
  have h_545 : M_542 (2, 0, 0) = some (liE 0 (hm_b g 1) 0) := by rw [eM_542]; exact (hm_up_n (by simp)).trans h_530
  have h_546 : M_542 (3, 0, 0) = some (liE 0 (hm_b g 1) 0) := by rw [eM_542]; exact (hm_up_n (by simp)).trans h_531
  have h_547 : M_542 (7, 0, 0) = some (hm_ra g 1 7 (va_up (va_up (va_up (va_up (va_up (va_up (va_up (fun _ => none) 0 (some q_75)) 1 (some q_110)) 2 (some q_150)) 3 (some q_195)) 4 (some q_245)) 5 (some q_300)) 6 (some q_360))) := by rw [eM_542]; exact (hm_up_n (by simp)).trans h_532
  have h_548 : M_542 (60, 0, 0) = some (.inr (2, [.ref (ad_92 (61, 0, 0)), .ref (ad_92 (62, 0, 0)), .int 0, .int (bI false)])) := by rw [eM_542]; exact (hm_up_n (by simp)).trans h_533
  have h_549 : M_542 (60, 1, 0) = some (.inr (2, [.ref (ad_129 (61, 1, 0)), .ref (ad_129 (62, 1, 0)), .int 0, .int (bI false)])) := by rw [eM_542]; exact (hm_up_n (by simp)).trans h_534
  have h_550 : M_542 (60, 2, 0) = some (.inr (2, [.ref (ad_171 (61, 2, 0)), .ref (ad_171 (62, 2, 0)), .int 0, .int (bI false)])) := by rw [eM_542]; exact (hm_up_n (by simp)).trans h_535
  have h_551 : M_542 (60, 3, 0) = some (.inr (2, [.ref (ad_218 (61, 3, 0)), .ref (ad_218 (62, 3, 0)), .int 0, .int (bI false)])) := by rw [eM_542]; exact (hm_up_n (by simp)).trans h_536
  have h_552 : M_542 (60, 4, 0) = some (.inr (2, [.ref (ad_270 (61, 4, 0)), .ref (ad_270 (62, 4, 0)), .int 0, .int (bI false)])) := by rw [eM_542]; exact (hm_up_n (by simp)).trans h_537
  have h_553 : M_542 (60, 5, 0) = some (.inr (2, [.ref (ad_327 (61, 5, 0)), .ref (ad_327 (62, 5, 0)), .int 0, .int (bI false)])) := by rw [eM_542]; exact (hm_up_n (by simp)).trans h_538
  have h_554 : M_542 (60, 6, 0) = some (.inr (2, [.ref (ad_389 (61, 6, 0)), .ref (ad_389 (62, 6, 0)), .int 0, .int (bI false)])) := by rw [eM_542]; exact (hm_up_n (by simp)).trans h_539
  have h_555 : M_542 (8, 0, 0) = some (.inr (4, [.ref (ad_456 (9, 0, 0)), .int (nI 0), .int (nI 0), .int (nI 0)])) := by rw [eM_542]; exact (hm_up_n (by simp)).trans h_540
  have h_556 : M_542 (70, 0, 0) = some (alE (0, -1, 0)) := by rw [eM_542]; exact (hm_up_n (by simp)).trans h_541
  have hfr : hm_fr ad M ad_496 M_542 (fun u => u.1 < 80) := by rw [eM_542]; exact hfr.up (by simp)
  have hev : hm_fr ad_496 M_527 ad_496 M_542 (fun u => u = (0, 0, 0)) := by rw [eM_542]; exact hm_fr.rf.up rfl
  have hg0 : hasGr g ad_496 M_542 0 (fun _ => 0, fun _ => 0, 0, false) := hg0.fr hev (by rintro ⟨u1, u2, u3⟩ hu hs; simp only [Prod.mk.injEq] at hu hs; omega)
  have hg1 : hasGr g ad_496 M_542 1 (fun _ => 0, fun _ => 0, 0, false) := hg1.fr hev (by rintro ⟨u1, u2, u3⟩ hu hs; simp only [Prod.mk.injEq] at hu hs; omega)
  have hg2 : hasGr g ad_496 M_542 2 (fun _ => 0, fun _ => 0, 0, false) := hg2.fr hev (by rintro ⟨u1, u2, u3⟩ hu hs; simp only [Prod.mk.injEq] at hu hs; omega)
  have hg3 : hasGr g ad_496 M_542 3 (fun _ => 0, fun _ => 0, 0, false) := hg3.fr hev (by rintro ⟨u1, u2, u3⟩ hu hs; simp only [Prod.mk.injEq] at hu hs; omega)
  have hg4 : hasGr g ad_496 M_542 4 (fun _ => 0, fun _ => 0, 0, false) := hg4.fr hev (by rintro ⟨u1, u2, u3⟩ hu hs; simp only [Prod.mk.injEq] at hu hs; omega)
  have hg5 : hasGr g ad_496 M_542 5 (fun _ => 0, fun _ => 0, 0, false) := hg5.fr hev (by rintro ⟨u1, u2, u3⟩ hu hs; simp only [Prod.mk.injEq] at hu hs; omega)
  have hg6 : hasGr g ad_496 M_542 6 (fun _ => 0, fun _ => 0, 0, false) := hg6.fr hev (by rintro ⟨u1, u2, u3⟩ hu hs; simp only [Prod.mk.injEq] at hu hs; omega)
  have hlg : hasLg g ad_496 M_542 (fun _ _ => 0, 0, 0, 0) := hlg.fr hev (by rintro ⟨u1, u2, u3⟩ hu hs; simp only [Prod.mk.injEq] at hu hs; omega)
  refine lv_aload_n S.1 S.2.1 dX6_init_95 rfl (lv_at hl 1 rfl) ?_
  refine lv_iconst (v := 0) S.1 S.2.1 dX6_init_96 (by decide) ?_
  refine hm_put (k := 6) (fs' := [.ref q_1, .ref q_15, .ref q_33, .ref q_55, .ref q_425, .ref q_495, .int 0, .int 0, .int 0]) S hE hG h_543 a_499 rfl hi_X60 tyX6_ok nmX6 (by decide) hb_31 rfl rfl (by rfl) (by rfl) (Nat.le_of_ble_eq_true rfl) rfl dX6_init_97 (fun H locs hG => ?_)
  obtain ⟨M_557, eM_557⟩ : ∃ q9, q9 = hm_up M_542 (0, 0, 0) (.inr (7, [.ref q_1, .ref q_15, .ref q_33, .ref q_55, .ref q_425, .ref q_495, .int 0, .int 0, .int 0])) := ⟨_, rfl⟩
  rw [← eM_557] at hG
  have h_558 : M_557 (0, 0, 0) = some (.inr (7, [.ref q_1, .ref q_15, .ref q_33, .ref q_55, .ref q_425, .ref q_495, .int 0, .int 0, .int 0])) := by rw [eM_557]; exact hm_up_s
  have h_559 : M_557 (1, 0, 0) = some (liE 0 (hm_b g 1) 0) := by rw [eM_557]; exact (hm_up_n (by simp)).trans h_544
  have h_560 : M_557 (2, 0, 0) = some (liE 0 (hm_b g 1) 0) := by rw [eM_557]; exact (hm_up_n (by simp)).trans h_545
  have h_561 : M_557 (3, 0, 0) = some (liE 0 (hm_b g 1) 0) := by rw [eM_557]; exact (hm_up_n (by simp)).trans h_546
  have h_562 : M_557 (7, 0, 0) = some (hm_ra g 1 7 (va_up (va_up (va_up (va_up (va_up (va_up (va_up (fun _ => none) 0 (some q_75)) 1 (some q_110)) 2 (some q_150)) 3 (some q_195)) 4 (some q_245)) 5 (some q_300)) 6 (some q_360))) := by rw [eM_557]; exact (hm_up_n (by simp)).trans h_547
  have h_563 : M_557 (60, 0, 0) = some (.inr (2, [.ref (ad_92 (61, 0, 0)), .ref (ad_92 (62, 0, 0)), .int 0, .int (bI false)])) := by rw [eM_557]; exact (hm_up_n (by simp)).trans h_548
  have h_564 : M_557 (60, 1, 0) = some (.inr (2, [.ref (ad_129 (61, 1, 0)), .ref (ad_129 (62, 1, 0)), .int 0, .int (bI false)])) := by rw [eM_557]; exact (hm_up_n (by simp)).trans h_549
  have h_565 : M_557 (60, 2, 0) = some (.inr (2, [.ref (ad_171 (61, 2, 0)), .ref (ad_171 (62, 2, 0)), .int 0, .int (bI false)])) := by rw [eM_557]; exact (hm_up_n (by simp)).trans h_550
  have h_566 : M_557 (60, 3, 0) = some (.inr (2, [.ref (ad_218 (61, 3, 0)), .ref (ad_218 (62, 3, 0)), .int 0, .int (bI false)])) := by rw [eM_557]; exact (hm_up_n (by simp)).trans h_551
  have h_567 : M_557 (60, 4, 0) = some (.inr (2, [.ref (ad_270 (61, 4, 0)), .ref (ad_270 (62, 4, 0)), .int 0, .int (bI false)])) := by rw [eM_557]; exact (hm_up_n (by simp)).trans h_552
  have h_568 : M_557 (60, 5, 0) = some (.inr (2, [.ref (ad_327 (61, 5, 0)), .ref (ad_327 (62, 5, 0)), .int 0, .int (bI false)])) := by rw [eM_557]; exact (hm_up_n (by simp)).trans h_553
  have h_569 : M_557 (60, 6, 0) = some (.inr (2, [.ref (ad_389 (61, 6, 0)), .ref (ad_389 (62, 6, 0)), .int 0, .int (bI false)])) := by rw [eM_557]; exact (hm_up_n (by simp)).trans h_554
  have h_570 : M_557 (8, 0, 0) = some (.inr (4, [.ref (ad_456 (9, 0, 0)), .int (nI 0), .int (nI 0), .int (nI 0)])) := by rw [eM_557]; exact (hm_up_n (by simp)).trans h_555
  have h_571 : M_557 (70, 0, 0) = some (alE (0, -1, 0)) := by rw [eM_557]; exact (hm_up_n (by simp)).trans h_556
  have hfr : hm_fr ad M ad_496 M_557 (fun u => u.1 < 80) := by rw [eM_557]; exact hfr.up (by simp)
  have hev : hm_fr ad_496 M_542 ad_496 M_557 (fun u => u = (0, 0, 0)) := by rw [eM_557]; exact hm_fr.rf.up rfl
  have hg0 : hasGr g ad_496 M_557 0 (fun _ => 0, fun _ => 0, 0, false) := hg0.fr hev (by rintro ⟨u1, u2, u3⟩ hu hs; simp only [Prod.mk.injEq] at hu hs; omega)
  have hg1 : hasGr g ad_496 M_557 1 (fun _ => 0, fun _ => 0, 0, false) := hg1.fr hev (by rintro ⟨u1, u2, u3⟩ hu hs; simp only [Prod.mk.injEq] at hu hs; omega)
  have hg2 : hasGr g ad_496 M_557 2 (fun _ => 0, fun _ => 0, 0, false) := hg2.fr hev (by rintro ⟨u1, u2, u3⟩ hu hs; simp only [Prod.mk.injEq] at hu hs; omega)
  have hg3 : hasGr g ad_496 M_557 3 (fun _ => 0, fun _ => 0, 0, false) := hg3.fr hev (by rintro ⟨u1, u2, u3⟩ hu hs; simp only [Prod.mk.injEq] at hu hs; omega)
  have hg4 : hasGr g ad_496 M_557 4 (fun _ => 0, fun _ => 0, 0, false) := hg4.fr hev (by rintro ⟨u1, u2, u3⟩ hu hs; simp only [Prod.mk.injEq] at hu hs; omega)
  have hg5 : hasGr g ad_496 M_557 5 (fun _ => 0, fun _ => 0, 0, false) := hg5.fr hev (by rintro ⟨u1, u2, u3⟩ hu hs; simp only [Prod.mk.injEq] at hu hs; omega)
  have hg6 : hasGr g ad_496 M_557 6 (fun _ => 0, fun _ => 0, 0, false) := hg6.fr hev (by rintro ⟨u1, u2, u3⟩ hu hs; simp only [Prod.mk.injEq] at hu hs; omega)
  have hlg : hasLg g ad_496 M_557 (fun _ _ => 0, 0, 0, 0) := hlg.fr hev (by rintro ⟨u1, u2, u3⟩ hu hs; simp only [Prod.mk.injEq] at hu hs; omega)
  refine lv_aload_n S.1 S.2.1 dX6_init_100 rfl (lv_at hl 1 rfl) ?_
  refine lv_iconst (v := 0) S.1 S.2.1 dX6_init_101 (by decide) ?_
  refine hm_put (k := 7) (fs' := [.ref q_1, .ref q_15, .ref q_33, .ref q_55, .ref q_425, .ref q_495, .int 0, .int 0, .int 0]) S hE hG h_558 a_499 rfl hi_X60 tyX6_ok nmX6 (by decide) hb_32 rfl rfl (by rfl) (by rfl) (Nat.le_of_ble_eq_true rfl) rfl dX6_init_102 (fun H locs hG => ?_)
  obtain ⟨M_572, eM_572⟩ : ∃ q9, q9 = hm_up M_557 (0, 0, 0) (.inr (7, [.ref q_1, .ref q_15, .ref q_33, .ref q_55, .ref q_425, .ref q_495, .int 0, .int 0, .int 0])) := ⟨_, rfl⟩
  rw [← eM_572] at hG
  have h_573 : M_572 (0, 0, 0) = some (.inr (7, [.ref q_1, .ref q_15, .ref q_33, .ref q_55, .ref q_425, .ref q_495, .int 0, .int 0, .int 0])) := by rw [eM_572]; exact hm_up_s
  have h_574 : M_572 (1, 0, 0) = some (liE 0 (hm_b g 1) 0) := by rw [eM_572]; exact (hm_up_n (by simp)).trans h_559
  have h_575 : M_572 (2, 0, 0) = some (liE 0 (hm_b g 1) 0) := by rw [eM_572]; exact (hm_up_n (by simp)).trans h_560
  have h_576 : M_572 (3, 0, 0) = some (liE 0 (hm_b g 1) 0) := by rw [eM_572]; exact (hm_up_n (by simp)).trans h_561
  have h_577 : M_572 (7, 0, 0) = some (hm_ra g 1 7 (va_up (va_up (va_up (va_up (va_up (va_up (va_up (fun _ => none) 0 (some q_75)) 1 (some q_110)) 2 (some q_150)) 3 (some q_195)) 4 (some q_245)) 5 (some q_300)) 6 (some q_360))) := by rw [eM_572]; exact (hm_up_n (by simp)).trans h_562
  have h_578 : M_572 (60, 0, 0) = some (.inr (2, [.ref (ad_92 (61, 0, 0)), .ref (ad_92 (62, 0, 0)), .int 0, .int (bI false)])) := by rw [eM_572]; exact (hm_up_n (by simp)).trans h_563
  have h_579 : M_572 (60, 1, 0) = some (.inr (2, [.ref (ad_129 (61, 1, 0)), .ref (ad_129 (62, 1, 0)), .int 0, .int (bI false)])) := by rw [eM_572]; exact (hm_up_n (by simp)).trans h_564
  have h_580 : M_572 (60, 2, 0) = some (.inr (2, [.ref (ad_171 (61, 2, 0)), .ref (ad_171 (62, 2, 0)), .int 0, .int (bI false)])) := by rw [eM_572]; exact (hm_up_n (by simp)).trans h_565
  have h_581 : M_572 (60, 3, 0) = some (.inr (2, [.ref (ad_218 (61, 3, 0)), .ref (ad_218 (62, 3, 0)), .int 0, .int (bI false)])) := by rw [eM_572]; exact (hm_up_n (by simp)).trans h_566
  have h_582 : M_572 (60, 4, 0) = some (.inr (2, [.ref (ad_270 (61, 4, 0)), .ref (ad_270 (62, 4, 0)), .int 0, .int (bI false)])) := by rw [eM_572]; exact (hm_up_n (by simp)).trans h_567
  have h_583 : M_572 (60, 5, 0) = some (.inr (2, [.ref (ad_327 (61, 5, 0)), .ref (ad_327 (62, 5, 0)), .int 0, .int (bI false)])) := by rw [eM_572]; exact (hm_up_n (by simp)).trans h_568
  have h_584 : M_572 (60, 6, 0) = some (.inr (2, [.ref (ad_389 (61, 6, 0)), .ref (ad_389 (62, 6, 0)), .int 0, .int (bI false)])) := by rw [eM_572]; exact (hm_up_n (by simp)).trans h_569
  have h_585 : M_572 (8, 0, 0) = some (.inr (4, [.ref (ad_456 (9, 0, 0)), .int (nI 0), .int (nI 0), .int (nI 0)])) := by rw [eM_572]; exact (hm_up_n (by simp)).trans h_570
  have h_586 : M_572 (70, 0, 0) = some (alE (0, -1, 0)) := by rw [eM_572]; exact (hm_up_n (by simp)).trans h_571
  have hfr : hm_fr ad M ad_496 M_572 (fun u => u.1 < 80) := by rw [eM_572]; exact hfr.up (by simp)
  have hev : hm_fr ad_496 M_557 ad_496 M_572 (fun u => u = (0, 0, 0)) := by rw [eM_572]; exact hm_fr.rf.up rfl
  have hg0 : hasGr g ad_496 M_572 0 (fun _ => 0, fun _ => 0, 0, false) := hg0.fr hev (by rintro ⟨u1, u2, u3⟩ hu hs; simp only [Prod.mk.injEq] at hu hs; omega)
  have hg1 : hasGr g ad_496 M_572 1 (fun _ => 0, fun _ => 0, 0, false) := hg1.fr hev (by rintro ⟨u1, u2, u3⟩ hu hs; simp only [Prod.mk.injEq] at hu hs; omega)
  have hg2 : hasGr g ad_496 M_572 2 (fun _ => 0, fun _ => 0, 0, false) := hg2.fr hev (by rintro ⟨u1, u2, u3⟩ hu hs; simp only [Prod.mk.injEq] at hu hs; omega)
  have hg3 : hasGr g ad_496 M_572 3 (fun _ => 0, fun _ => 0, 0, false) := hg3.fr hev (by rintro ⟨u1, u2, u3⟩ hu hs; simp only [Prod.mk.injEq] at hu hs; omega)
  have hg4 : hasGr g ad_496 M_572 4 (fun _ => 0, fun _ => 0, 0, false) := hg4.fr hev (by rintro ⟨u1, u2, u3⟩ hu hs; simp only [Prod.mk.injEq] at hu hs; omega)
  have hg5 : hasGr g ad_496 M_572 5 (fun _ => 0, fun _ => 0, 0, false) := hg5.fr hev (by rintro ⟨u1, u2, u3⟩ hu hs; simp only [Prod.mk.injEq] at hu hs; omega)
  have hg6 : hasGr g ad_496 M_572 6 (fun _ => 0, fun _ => 0, 0, false) := hg6.fr hev (by rintro ⟨u1, u2, u3⟩ hu hs; simp only [Prod.mk.injEq] at hu hs; omega)
  have hlg : hasLg g ad_496 M_572 (fun _ _ => 0, 0, 0, 0) := hlg.fr hev (by rintro ⟨u1, u2, u3⟩ hu hs; simp only [Prod.mk.injEq] at hu hs; omega)
  refine lv_aload_n S.1 S.2.1 dX6_init_105 rfl (lv_at hl 1 rfl) ?_
  refine lv_bipush (v := 10) S.1 S.2.1 dX6_init_106 (by decide) ?_
  refine hm_put (k := 8) (fs' := [.ref q_1, .ref q_15, .ref q_33, .ref q_55, .ref q_425, .ref q_495, .int 0, .int 0, .int 10]) S hE hG h_573 a_499 rfl hi_X60 tyX6_ok nmX6 (by decide) hb_33 rfl rfl (by rfl) (by rfl) (Nat.le_of_ble_eq_true rfl) rfl dX6_init_108 (fun H locs hG => ?_)
  obtain ⟨M_587, eM_587⟩ : ∃ q9, q9 = hm_up M_572 (0, 0, 0) (.inr (7, [.ref q_1, .ref q_15, .ref q_33, .ref q_55, .ref q_425, .ref q_495, .int 0, .int 0, .int 10])) := ⟨_, rfl⟩
  rw [← eM_587] at hG
  have h_588 : M_587 (0, 0, 0) = some (.inr (7, [.ref q_1, .ref q_15, .ref q_33, .ref q_55, .ref q_425, .ref q_495, .int 0, .int 0, .int 10])) := by rw [eM_587]; exact hm_up_s
  have h_589 : M_587 (1, 0, 0) = some (liE 0 (hm_b g 1) 0) := by rw [eM_587]; exact (hm_up_n (by simp)).trans h_574
  have h_590 : M_587 (2, 0, 0) = some (liE 0 (hm_b g 1) 0) := by rw [eM_587]; exact (hm_up_n (by simp)).trans h_575
  have h_591 : M_587 (3, 0, 0) = some (liE 0 (hm_b g 1) 0) := by rw [eM_587]; exact (hm_up_n (by simp)).trans h_576
  have h_592 : M_587 (7, 0, 0) = some (hm_ra g 1 7 (va_up (va_up (va_up (va_up (va_up (va_up (va_up (fun _ => none) 0 (some q_75)) 1 (some q_110)) 2 (some q_150)) 3 (some q_195)) 4 (some q_245)) 5 (some q_300)) 6 (some q_360))) := by rw [eM_587]; exact (hm_up_n (by simp)).trans h_577
  have h_593 : M_587 (60, 0, 0) = some (.inr (2, [.ref (ad_92 (61, 0, 0)), .ref (ad_92 (62, 0, 0)), .int 0, .int (bI false)])) := by rw [eM_587]; exact (hm_up_n (by simp)).trans h_578
  have h_594 : M_587 (60, 1, 0) = some (.inr (2, [.ref (ad_129 (61, 1, 0)), .ref (ad_129 (62, 1, 0)), .int 0, .int (bI false)])) := by rw [eM_587]; exact (hm_up_n (by simp)).trans h_579
  have h_595 : M_587 (60, 2, 0) = some (.inr (2, [.ref (ad_171 (61, 2, 0)), .ref (ad_171 (62, 2, 0)), .int 0, .int (bI false)])) := by rw [eM_587]; exact (hm_up_n (by simp)).trans h_580
  have h_596 : M_587 (60, 3, 0) = some (.inr (2, [.ref (ad_218 (61, 3, 0)), .ref (ad_218 (62, 3, 0)), .int 0, .int (bI false)])) := by rw [eM_587]; exact (hm_up_n (by simp)).trans h_581
  have h_597 : M_587 (60, 4, 0) = some (.inr (2, [.ref (ad_270 (61, 4, 0)), .ref (ad_270 (62, 4, 0)), .int 0, .int (bI false)])) := by rw [eM_587]; exact (hm_up_n (by simp)).trans h_582
  have h_598 : M_587 (60, 5, 0) = some (.inr (2, [.ref (ad_327 (61, 5, 0)), .ref (ad_327 (62, 5, 0)), .int 0, .int (bI false)])) := by rw [eM_587]; exact (hm_up_n (by simp)).trans h_583
  have h_599 : M_587 (60, 6, 0) = some (.inr (2, [.ref (ad_389 (61, 6, 0)), .ref (ad_389 (62, 6, 0)), .int 0, .int (bI false)])) := by rw [eM_587]; exact (hm_up_n (by simp)).trans h_584
  have h_600 : M_587 (8, 0, 0) = some (.inr (4, [.ref (ad_456 (9, 0, 0)), .int (nI 0), .int (nI 0), .int (nI 0)])) := by rw [eM_587]; exact (hm_up_n (by simp)).trans h_585
  have h_601 : M_587 (70, 0, 0) = some (alE (0, -1, 0)) := by rw [eM_587]; exact (hm_up_n (by simp)).trans h_586
  have hfr : hm_fr ad M ad_496 M_587 (fun u => u.1 < 80) := by rw [eM_587]; exact hfr.up (by simp)
  have hev : hm_fr ad_496 M_572 ad_496 M_587 (fun u => u = (0, 0, 0)) := by rw [eM_587]; exact hm_fr.rf.up rfl
  have hg0 : hasGr g ad_496 M_587 0 (fun _ => 0, fun _ => 0, 0, false) := hg0.fr hev (by rintro ⟨u1, u2, u3⟩ hu hs; simp only [Prod.mk.injEq] at hu hs; omega)
  have hg1 : hasGr g ad_496 M_587 1 (fun _ => 0, fun _ => 0, 0, false) := hg1.fr hev (by rintro ⟨u1, u2, u3⟩ hu hs; simp only [Prod.mk.injEq] at hu hs; omega)
  have hg2 : hasGr g ad_496 M_587 2 (fun _ => 0, fun _ => 0, 0, false) := hg2.fr hev (by rintro ⟨u1, u2, u3⟩ hu hs; simp only [Prod.mk.injEq] at hu hs; omega)
  have hg3 : hasGr g ad_496 M_587 3 (fun _ => 0, fun _ => 0, 0, false) := hg3.fr hev (by rintro ⟨u1, u2, u3⟩ hu hs; simp only [Prod.mk.injEq] at hu hs; omega)
  have hg4 : hasGr g ad_496 M_587 4 (fun _ => 0, fun _ => 0, 0, false) := hg4.fr hev (by rintro ⟨u1, u2, u3⟩ hu hs; simp only [Prod.mk.injEq] at hu hs; omega)
  have hg5 : hasGr g ad_496 M_587 5 (fun _ => 0, fun _ => 0, 0, false) := hg5.fr hev (by rintro ⟨u1, u2, u3⟩ hu hs; simp only [Prod.mk.injEq] at hu hs; omega)
  have hg6 : hasGr g ad_496 M_587 6 (fun _ => 0, fun _ => 0, 0, false) := hg6.fr hev (by rintro ⟨u1, u2, u3⟩ hu hs; simp only [Prod.mk.injEq] at hu hs; omega)
  have hlg : hasLg g ad_496 M_587 (fun _ _ => 0, 0, 0, 0) := hlg.fr hev (by rintro ⟨u1, u2, u3⟩ hu hs; simp only [Prod.mk.injEq] at hu hs; omega)
  have hrows : va_up (va_up (va_up (va_up (va_up (va_up (va_up (fun _ => none) 0 (some q_75)) 1 (some q_110)) 2 (some q_150)) 3 (some q_195)) 4 (some q_245)) 5 (some q_300)) 6 (some q_360) = grpA ad_496 := by
    funext j
    by_cases hj : j < 7
    · have h9 : j = 0 ∨ j = 1 ∨ j = 2 ∨ j = 3 ∨ j = 4 ∨ j = 5 ∨ j = 6 := by omega
      rcases h9 with rfl | rfl | rfl | rfl | rfl | rfl | rfl <;> simp [va_up, grpA, a_509, a_511, a_513, a_515, a_517, a_519, a_521]
    · simp only [grpA, if_neg hj]
      simp [va_up, show ¬ j = 0 by omega, show ¬ j = 1 by omega, show ¬ j = 2 by omega, show ¬ j = 3 by omega, show ¬ j = 4 by omega, show ¬ j = 5 by omega, show ¬ j = 6 by omega]
  have hals : ∀ j, j < 7 → hasGr g ad_496 M_587 j (fun _ => 0, fun _ => 0, 0, false) := by
    intro k hk
    have h9 : k = 0 ∨ k = 1 ∨ k = 2 ∨ k = 3 ∨ k = 4 ∨ k = 5 ∨ k = 6 := by omega
    rcases h9 with rfl | rfl | rfl | rfl | rfl | rfl | rfl
    · exact hg0
    · exact hg1
    · exact hg2
    · exact hg3
    · exact hg4
    · exact hg5
    · exact hg6
  exact hm_vret S hG hr hlk (⟨rfl, ⟨by rw [h_588, xE, a_501, a_503, a_505, a_507, a_523, a_525]; rfl, ⟨0, hm_b g 1, fun _ => none, h_589, Or.inl ⟨rfl, rfl⟩, by show 0 ≤ 10; decide⟩, ⟨0, hm_b g 1, fun _ => none, h_590, Or.inl ⟨rfl, rfl⟩, by show 0 ≤ 10; decide⟩, ⟨0, hm_b g 1, fun _ => none, h_591, Or.inl ⟨rfl, rfl⟩, by show 0 ≤ 10; decide⟩, by rw [h_592, hrows], hlg, ⟨_, h_601⟩, fun i hi => absurd hi (Nat.not_lt_zero _), fun i hi => absurd hi (Nat.not_lt_zero _), fun i hi => absurd hi (Nat.not_lt_zero _), hals, by show 0 ≤ 6; decide, by show 0 ≤ 6; decide, by show 0 ≤ 5; decide⟩, a_499, hfr⟩) (Nat.le_of_ble_eq_true rfl) (Nat.le_of_ble_eq_true rfl) dX6_init_111
