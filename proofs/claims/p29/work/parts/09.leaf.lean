abbrev rm_X6_isOutside : Room := { frames := 0, cells := 0, slots := 0, locals := 0 }
set_option maxHeartbeats 4000000 in
set_option maxRecDepth 100000 in
theorem c_X6_isOutside (l : Launch) (g : GV) (ad : AD) (M : CT) (x lo hi : Int32) : hm_Met l yX6_isOutside cX6_isOutside 3 (some .boolean) rm_X6_isOutside g ad M [.int x, .int lo, .int hi] (hm_pU ad M (some (.int (bI (decide (x < lo) || decide (hi < x)))))) := by
  refine hm_start (own := RX6) (by decide) rfl (Nat.le_of_ble_eq_true rfl) ?_
  intro p e s m args below meth c S hr hlk hnm hE hG ls hl
  have hl : lv_has ls 3 [(0, .int x), (1, .int lo), (2, .int hi)] := hl
  refine lv_iload_n S.1 S.2.1 dX6_isOutside_0 rfl (lv_at hl 0 rfl) ?_
  refine lv_iload_n S.1 S.2.1 dX6_isOutside_1 rfl (lv_at hl 1 rfl) ?_
  refine lv_icmp_lt (tgt := 10) S.1 S.2.1 dX6_isOutside_2 (by decide) (fun c2 => ?_) (fun c2 => ?_)
  · skip
    refine lv_iconst (v := 1) S.1 S.2.1 dX6_isOutside_10 (by decide) ?_
    refine lv_goto (tgt := 15) S.1 S.2.1 dX6_isOutside_11 (by decide) ?_
    exact hm_zret S hG hr hlk (by decide) (⟨by simp [bI, *], rfl, rfl⟩) (Nat.le_of_ble_eq_true rfl) (Nat.le_of_ble_eq_true rfl) dX6_isOutside_15
  · skip
    refine lv_iload_n S.1 S.2.1 dX6_isOutside_5 rfl (lv_at hl 0 rfl) ?_
    refine lv_iload_n S.1 S.2.1 dX6_isOutside_6 rfl (lv_at hl 2 rfl) ?_
    refine lv_icmp_le (tgt := 14) S.1 S.2.1 dX6_isOutside_7 (by decide) (fun c7 => ?_) (fun c7 => ?_)
    · skip
      refine lv_iconst (v := 0) S.1 S.2.1 dX6_isOutside_14 (by decide) ?_
      exact hm_zret S hG hr hlk (by decide) (⟨by simp [bI, *], rfl, rfl⟩) (Nat.le_of_ble_eq_true rfl) (Nat.le_of_ble_eq_true rfl) dX6_isOutside_15
    · skip
      refine lv_iconst (v := 1) S.1 S.2.1 dX6_isOutside_10 (by decide) ?_
      refine lv_goto (tgt := 15) S.1 S.2.1 dX6_isOutside_11 (by decide) ?_
      exact hm_zret S hG hr hlk (by decide) (⟨by simp [bI, *], rfl, rfl⟩) (Nat.le_of_ble_eq_true rfl) (Nat.le_of_ble_eq_true rfl) dX6_isOutside_15

abbrev rm_X6_requireMetric : Room := { frames := 1, cells := 0, slots := 0, locals := 22 }
set_option maxHeartbeats 4000000 in
set_option maxRecDepth 100000 in
theorem c_X6_requireMetric (l : Launch) (g : GV) (ad : AD) (M : CT) (x : Int32) (h1 : ¬ x < 0) (h2 : ¬ 5 < x) : hm_Met l yX6_requireMetric cX6_requireMetric 1 none rm_X6_requireMetric g ad M [.int x] (hm_pU ad M none) := by
  refine hm_start (own := RX6) (by decide) rfl (Nat.le_of_ble_eq_true rfl) ?_
  intro p e s m args below meth c S hr hlk hnm hE hG ls hl
  have hl : lv_has ls 1 [(0, .int x)] := hl
  refine lv_iload_n S.1 S.2.1 dX6_requireMetric_0 rfl (lv_at hl 0 rfl) ?_
  refine lv_iconst (v := 0) S.1 S.2.1 dX6_requireMetric_1 (by decide) ?_
  refine lv_iconst (v := 5) S.1 S.2.1 dX6_requireMetric_2 (by decide) ?_
  refine hm_uS (As := [.int x, .int 0, .int 5]) (rest := []) (st1 := [.int (bI (decide (x < 0) || decide (5 < x)))]) S hE hG (c_X6_isOutside l g ad M x 0 5) (hm_gS hb_91 hb_92 hb_2 hb_93) hd_X6_isOutside ⟨Nat.le_of_ble_eq_true rfl, Nat.le_of_ble_eq_true rfl⟩ rfl hl.1 rfl (Nat.le_of_ble_eq_true rfl) dX6_requireMetric_3 ⟨Nat.le_of_ble_eq_true rfl, Nat.le_of_ble_eq_true rfl⟩ rfl (fun H locs hG => ?_)
  refine lv_if_eq (tgt := 20) S.1 S.2.1 dX6_requireMetric_6 (by decide) (fun _ => ?_) (fun h9 => absurd (by simp [bI, h1, h2]) h9)
  exact hm_vret S hG hr hlk (⟨rfl, rfl, rfl⟩) (Nat.le_of_ble_eq_true rfl) (Nat.le_of_ble_eq_true rfl) dX6_requireMetric_20

abbrev rm_X6_requireLook : Room := { frames := 1, cells := 0, slots := 0, locals := 22 }
set_option maxHeartbeats 4000000 in
set_option maxRecDepth 100000 in
theorem c_X6_requireLook (l : Launch) (g : GV) (ad : AD) (M : CT) (x : Int32) (h1 : ¬ x < 0) (h2 : ¬ 8 < x) : hm_Met l yX6_requireLook cX6_requireLook 1 none rm_X6_requireLook g ad M [.int x] (hm_pU ad M none) := by
  refine hm_start (own := RX6) (by decide) rfl (Nat.le_of_ble_eq_true rfl) ?_
  intro p e s m args below meth c S hr hlk hnm hE hG ls hl
  have hl : lv_has ls 1 [(0, .int x)] := hl
  refine lv_iload_n S.1 S.2.1 dX6_requireLook_0 rfl (lv_at hl 0 rfl) ?_
  refine lv_iconst (v := 0) S.1 S.2.1 dX6_requireLook_1 (by decide) ?_
  refine lv_bipush (v := 8) S.1 S.2.1 dX6_requireLook_2 (by decide) ?_
  refine hm_uS (As := [.int x, .int 0, .int 8]) (rest := []) (st1 := [.int (bI (decide (x < 0) || decide (8 < x)))]) S hE hG (c_X6_isOutside l g ad M x 0 8) (hm_gS hb_91 hb_92 hb_2 hb_93) hd_X6_isOutside ⟨Nat.le_of_ble_eq_true rfl, Nat.le_of_ble_eq_true rfl⟩ rfl hl.1 rfl (Nat.le_of_ble_eq_true rfl) dX6_requireLook_4 ⟨Nat.le_of_ble_eq_true rfl, Nat.le_of_ble_eq_true rfl⟩ rfl (fun H locs hG => ?_)
  refine lv_if_eq (tgt := 21) S.1 S.2.1 dX6_requireLook_7 (by decide) (fun _ => ?_) (fun h9 => absurd (by simp [bI, h1, h2]) h9)
  exact hm_vret S hG hr hlk (⟨rfl, rfl, rfl⟩) (Nat.le_of_ble_eq_true rfl) (Nat.le_of_ble_eq_true rfl) dX6_requireLook_21

abbrev rm_X6_requireW : Room := { frames := 1, cells := 0, slots := 0, locals := 22 }
set_option maxHeartbeats 4000000 in
set_option maxRecDepth 100000 in
theorem c_X6_requireW (l : Launch) (g : GV) (ad : AD) (M : CT) (x : Int32) (h1 : ¬ x < 1) (h2 : ¬ 12 < x) : hm_Met l yX6_requireW cX6_requireW 1 none rm_X6_requireW g ad M [.int x] (hm_pU ad M none) := by
  refine hm_start (own := RX6) (by decide) rfl (Nat.le_of_ble_eq_true rfl) ?_
  intro p e s m args below meth c S hr hlk hnm hE hG ls hl
  have hl : lv_has ls 1 [(0, .int x)] := hl
  refine lv_iload_n S.1 S.2.1 dX6_requireW_0 rfl (lv_at hl 0 rfl) ?_
  refine lv_iconst (v := 1) S.1 S.2.1 dX6_requireW_1 (by decide) ?_
  refine lv_bipush (v := 12) S.1 S.2.1 dX6_requireW_2 (by decide) ?_
  refine hm_uS (As := [.int x, .int 1, .int 12]) (rest := []) (st1 := [.int (bI (decide (x < 1) || decide (12 < x)))]) S hE hG (c_X6_isOutside l g ad M x 1 12) (hm_gS hb_91 hb_92 hb_2 hb_93) hd_X6_isOutside ⟨Nat.le_of_ble_eq_true rfl, Nat.le_of_ble_eq_true rfl⟩ rfl hl.1 rfl (Nat.le_of_ble_eq_true rfl) dX6_requireW_4 ⟨Nat.le_of_ble_eq_true rfl, Nat.le_of_ble_eq_true rfl⟩ rfl (fun H locs hG => ?_)
  refine lv_if_eq (tgt := 21) S.1 S.2.1 dX6_requireW_7 (by decide) (fun _ => ?_) (fun h9 => absurd (by simp [bI, h1, h2]) h9)
  exact hm_vret S hG hr hlk (⟨rfl, rfl, rfl⟩) (Nat.le_of_ble_eq_true rfl) (Nat.le_of_ble_eq_true rfl) dX6_requireW_21

abbrev rm_X6_requireLimit : Room := { frames := 1, cells := 0, slots := 0, locals := 22 }
set_option maxHeartbeats 4000000 in
set_option maxRecDepth 100000 in
theorem c_X6_requireLimit (l : Launch) (g : GV) (ad : AD) (M : CT) (x : Int32) (h1 : ¬ x < (-10000)) (h2 : ¬ 10000 < x) : hm_Met l yX6_requireLimit cX6_requireLimit 1 none rm_X6_requireLimit g ad M [.int x] (hm_pU ad M none) := by
  refine hm_start (own := RX6) (by decide) rfl (Nat.le_of_ble_eq_true rfl) ?_
  intro p e s m args below meth c S hr hlk hnm hE hG ls hl
  have hl : lv_has ls 1 [(0, .int x)] := hl
  refine lv_iload_n S.1 S.2.1 dX6_requireLimit_0 rfl (lv_at hl 0 rfl) ?_
  refine lv_sipush (v := (-10000)) S.1 S.2.1 dX6_requireLimit_1 (by decide) ?_
  refine lv_sipush (v := 10000) S.1 S.2.1 dX6_requireLimit_4 (by decide) ?_
  refine hm_uS (As := [.int x, .int (-10000), .int 10000]) (rest := []) (st1 := [.int (bI (decide (x < (-10000)) || decide (10000 < x)))]) S hE hG (c_X6_isOutside l g ad M x (-10000) 10000) (hm_gS hb_91 hb_92 hb_2 hb_93) hd_X6_isOutside ⟨Nat.le_of_ble_eq_true rfl, Nat.le_of_ble_eq_true rfl⟩ rfl hl.1 rfl (Nat.le_of_ble_eq_true rfl) dX6_requireLimit_7 ⟨Nat.le_of_ble_eq_true rfl, Nat.le_of_ble_eq_true rfl⟩ rfl (fun H locs hG => ?_)
  refine lv_if_eq (tgt := 24) S.1 S.2.1 dX6_requireLimit_10 (by decide) (fun _ => ?_) (fun h9 => absurd (by simp [bI, h1, h2]) h9)
  exact hm_vret S hG hr hlk (⟨rfl, rfl, rfl⟩) (Nat.le_of_ble_eq_true rfl) (Nat.le_of_ble_eq_true rfl) dX6_requireLimit_24

abbrev rm_X6_requireTicks : Room := { frames := 1, cells := 0, slots := 0, locals := 22 }
set_option maxHeartbeats 4000000 in
set_option maxRecDepth 100000 in
theorem c_X6_requireTicks (l : Launch) (g : GV) (ad : AD) (M : CT) (x : Int32) (h1 : ¬ x < 1) (h2 : ¬ 10 < x) : hm_Met l yX6_requireTicks cX6_requireTicks 1 none rm_X6_requireTicks g ad M [.int x] (hm_pU ad M none) := by
  refine hm_start (own := RX6) (by decide) rfl (Nat.le_of_ble_eq_true rfl) ?_
  intro p e s m args below meth c S hr hlk hnm hE hG ls hl
  have hl : lv_has ls 1 [(0, .int x)] := hl
  refine lv_iload_n S.1 S.2.1 dX6_requireTicks_0 rfl (lv_at hl 0 rfl) ?_
  refine lv_iconst (v := 1) S.1 S.2.1 dX6_requireTicks_1 (by decide) ?_
  refine lv_bipush (v := 10) S.1 S.2.1 dX6_requireTicks_2 (by decide) ?_
  refine hm_uS (As := [.int x, .int 1, .int 10]) (rest := []) (st1 := [.int (bI (decide (x < 1) || decide (10 < x)))]) S hE hG (c_X6_isOutside l g ad M x 1 10) (hm_gS hb_91 hb_92 hb_2 hb_93) hd_X6_isOutside ⟨Nat.le_of_ble_eq_true rfl, Nat.le_of_ble_eq_true rfl⟩ rfl hl.1 rfl (Nat.le_of_ble_eq_true rfl) dX6_requireTicks_4 ⟨Nat.le_of_ble_eq_true rfl, Nat.le_of_ble_eq_true rfl⟩ rfl (fun H locs hG => ?_)
  refine lv_if_eq (tgt := 21) S.1 S.2.1 dX6_requireTicks_7 (by decide) (fun _ => ?_) (fun h9 => absurd (by simp [bI, h1, h2]) h9)
  exact hm_vret S hG hr hlk (⟨rfl, rfl, rfl⟩) (Nat.le_of_ble_eq_true rfl) (Nat.le_of_ble_eq_true rfl) dX6_requireTicks_21

abbrev rm_X0_rise : Room := { frames := 0, cells := 0, slots := 0, locals := 0 }
set_option maxHeartbeats 4000000 in
set_option maxRecDepth 100000 in
theorem c_X0_rise (l : Launch) (g : GV) (ad : AD) (M : CT) (t : TG) (a : AlD) (wait clk : Int32) (h1 : M t = some (alE a)) : hm_Met l yX0_rise cX0_rise 3 none rm_X0_rise g ad M [.ref (ad t), .int wait, .int clk] (hm_pU ad (hm_up M t (alE (riseF a wait clk))) none) := by
  refine hm_start (own := RX0) (by decide) rfl (Nat.le_of_ble_eq_true rfl) ?_
  intro p e s m args below meth c S hr hlk hnm hE hG ls hl
  have hl : lv_has ls 3 [(0, .ref (ad t)), (1, .int wait), (2, .int clk)] := hl
  refine lv_aload_n S.1 S.2.1 dX0_rise_0 rfl (lv_at hl 0 rfl) ?_
  refine lv_iconst (v := 0) S.1 S.2.1 dX0_rise_1 (by decide) ?_
  refine hm_put (k := 2) (fs' := [.int a.1, .int a.2.1, .int 0]) S hE hG h1 rfl rfl hi_X00 tyX0_ok nmX0 (by decide) hb_70 rfl rfl (by rfl) (by rfl) (Nat.le_of_ble_eq_true rfl) rfl dX0_rise_2 (fun H locs hG => ?_)
  obtain ⟨M_1, eM_1⟩ : ∃ q9, q9 = hm_up M t (.inr (1, [.int a.1, .int a.2.1, .int 0])) := ⟨_, rfl⟩
  rw [← eM_1] at hG
  have h_2 : M_1 t = some (.inr (1, [.int a.1, .int a.2.1, .int 0])) := by rw [eM_1]; exact hm_up_s
  refine lv_aload_n S.1 S.2.1 dX0_rise_5 rfl (lv_at hl 0 rfl) ?_
  refine hm_get (k := 0) S hE hG h_2 rfl rfl hi_X00 (by decide) hb_68 rfl rfl dX0_rise_6 ?_
  refine lv_if_ne (tgt := 22) S.1 S.2.1 dX0_rise_9 (by decide) (fun c9 => ?_) (fun c9 => ?_)
  · skip
    refine lv_aload_n S.1 S.2.1 dX0_rise_22 rfl (lv_at hl 0 rfl) ?_
    refine hm_get (k := 0) S hE hG h_2 rfl rfl hi_X00 (by decide) hb_68 rfl rfl dX0_rise_23 ?_
    refine lv_iconst (v := 1) S.1 S.2.1 dX0_rise_26 (by decide) ?_
    refine lv_icmp_ne (tgt := 50) S.1 S.2.1 dX0_rise_27 (by decide) (fun c27 => ?_) (fun c27 => ?_)
    · skip
      exact hm_vret S hG hr hlk (⟨rfl, rfl, by simp_all [hm_up_up, riseF, riseA]⟩) (Nat.le_of_ble_eq_true rfl) (Nat.le_of_ble_eq_true rfl) dX0_rise_50
    · skip
      refine lv_iload_n S.1 S.2.1 dX0_rise_30 rfl (lv_at hl 2 rfl) ?_
      refine lv_aload_n S.1 S.2.1 dX0_rise_31 rfl (lv_at hl 0 rfl) ?_
      refine hm_get (k := 1) S hE hG h_2 rfl rfl hi_X00 (by decide) hb_69 rfl rfl dX0_rise_32 ?_
      refine lv_isub S.1 S.2.1 dX0_rise_35 ?_
      refine lv_iload_n S.1 S.2.1 dX0_rise_36 rfl (lv_at hl 1 rfl) ?_
      refine lv_icmp_lt (tgt := 50) S.1 S.2.1 dX0_rise_37 (by decide) (fun c37 => ?_) (fun c37 => ?_)
      · skip
        exact hm_vret S hG hr hlk (⟨rfl, rfl, by simp_all [hm_up_up, riseF, riseA]⟩) (Nat.le_of_ble_eq_true rfl) (Nat.le_of_ble_eq_true rfl) dX0_rise_50
      · skip
        refine lv_aload_n S.1 S.2.1 dX0_rise_40 rfl (lv_at hl 0 rfl) ?_
        refine lv_iconst (v := 2) S.1 S.2.1 dX0_rise_41 (by decide) ?_
        refine hm_put (k := 0) (fs' := [.int 2, .int a.2.1, .int 0]) S hE hG h_2 rfl rfl hi_X00 tyX0_ok nmX0 (by decide) hb_68 rfl rfl (by rfl) (by rfl) (Nat.le_of_ble_eq_true rfl) rfl dX0_rise_42 (fun H locs hG => ?_)
        obtain ⟨M_3, eM_3⟩ : ∃ q9, q9 = hm_up M_1 t (.inr (1, [.int 2, .int a.2.1, .int 0])) := ⟨_, rfl⟩
        rw [← eM_3] at hG
        have h_4 : M_3 t = some (.inr (1, [.int 2, .int a.2.1, .int 0])) := by rw [eM_3]; exact hm_up_s
        refine lv_aload_n S.1 S.2.1 dX0_rise_45 rfl (lv_at hl 0 rfl) ?_
        refine lv_iload_n S.1 S.2.1 dX0_rise_46 rfl (lv_at hl 2 rfl) ?_
        refine hm_put (k := 1) (fs' := [.int 2, .int clk, .int 0]) S hE hG h_4 rfl rfl hi_X00 tyX0_ok nmX0 (by decide) hb_69 rfl rfl (by rfl) (by rfl) (Nat.le_of_ble_eq_true rfl) rfl dX0_rise_47 (fun H locs hG => ?_)
        obtain ⟨M_5, eM_5⟩ : ∃ q9, q9 = hm_up M_3 t (.inr (1, [.int 2, .int clk, .int 0])) := ⟨_, rfl⟩
        rw [← eM_5] at hG
        have h_6 : M_5 t = some (.inr (1, [.int 2, .int clk, .int 0])) := by rw [eM_5]; exact hm_up_s
        exact hm_vret S hG hr hlk (⟨rfl, rfl, by simp_all [hm_up_up, riseF, riseA]⟩) (Nat.le_of_ble_eq_true rfl) (Nat.le_of_ble_eq_true rfl) dX0_rise_50
  · skip
    refine lv_aload_n S.1 S.2.1 dX0_rise_12 rfl (lv_at hl 0 rfl) ?_
    refine lv_iconst (v := 1) S.1 S.2.1 dX0_rise_13 (by decide) ?_
    refine hm_put (k := 0) (fs' := [.int 1, .int a.2.1, .int 0]) S hE hG h_2 rfl rfl hi_X00 tyX0_ok nmX0 (by decide) hb_68 rfl rfl (by rfl) (by rfl) (Nat.le_of_ble_eq_true rfl) rfl dX0_rise_14 (fun H locs hG => ?_)
    obtain ⟨M_7, eM_7⟩ : ∃ q9, q9 = hm_up M_1 t (.inr (1, [.int 1, .int a.2.1, .int 0])) := ⟨_, rfl⟩
    rw [← eM_7] at hG
    have h_8 : M_7 t = some (.inr (1, [.int 1, .int a.2.1, .int 0])) := by rw [eM_7]; exact hm_up_s
    refine lv_aload_n S.1 S.2.1 dX0_rise_17 rfl (lv_at hl 0 rfl) ?_
    refine lv_iload_n S.1 S.2.1 dX0_rise_18 rfl (lv_at hl 2 rfl) ?_
    refine hm_put (k := 1) (fs' := [.int 1, .int clk, .int 0]) S hE hG h_8 rfl rfl hi_X00 tyX0_ok nmX0 (by decide) hb_69 rfl rfl (by rfl) (by rfl) (Nat.le_of_ble_eq_true rfl) rfl dX0_rise_19 (fun H locs hG => ?_)
    obtain ⟨M_9, eM_9⟩ : ∃ q9, q9 = hm_up M_7 t (.inr (1, [.int 1, .int clk, .int 0])) := ⟨_, rfl⟩
    rw [← eM_9] at hG
    have h_10 : M_9 t = some (.inr (1, [.int 1, .int clk, .int 0])) := by rw [eM_9]; exact hm_up_s
    refine lv_aload_n S.1 S.2.1 dX0_rise_22 rfl (lv_at hl 0 rfl) ?_
    refine hm_get (k := 0) S hE hG h_10 rfl rfl hi_X00 (by decide) hb_68 rfl rfl dX0_rise_23 ?_
    refine lv_iconst (v := 1) S.1 S.2.1 dX0_rise_26 (by decide) ?_
    refine lv_icmp_ne (tgt := 50) S.1 S.2.1 dX0_rise_27 (by decide) (fun h9 => absurd (by decide) h9) (fun _ => ?_)
    refine lv_iload_n S.1 S.2.1 dX0_rise_30 rfl (lv_at hl 2 rfl) ?_
    refine lv_aload_n S.1 S.2.1 dX0_rise_31 rfl (lv_at hl 0 rfl) ?_
    refine hm_get (k := 1) S hE hG h_10 rfl rfl hi_X00 (by decide) hb_69 rfl rfl dX0_rise_32 ?_
    refine lv_isub S.1 S.2.1 dX0_rise_35 ?_
    refine lv_iload_n S.1 S.2.1 dX0_rise_36 rfl (lv_at hl 1 rfl) ?_
    refine lv_icmp_lt (tgt := 50) S.1 S.2.1 dX0_rise_37 (by decide) (fun c37 => ?_) (fun c37 => ?_)
    · skip
      exact hm_vret S hG hr hlk (⟨rfl, rfl, by simp_all [hm_up_up, riseF, riseA]⟩) (Nat.le_of_ble_eq_true rfl) (Nat.le_of_ble_eq_true rfl) dX0_rise_50
    · skip
      refine lv_aload_n S.1 S.2.1 dX0_rise_40 rfl (lv_at hl 0 rfl) ?_
      refine lv_iconst (v := 2) S.1 S.2.1 dX0_rise_41 (by decide) ?_
      refine hm_put (k := 0) (fs' := [.int 2, .int clk, .int 0]) S hE hG h_10 rfl rfl hi_X00 tyX0_ok nmX0 (by decide) hb_68 rfl rfl (by rfl) (by rfl) (Nat.le_of_ble_eq_true rfl) rfl dX0_rise_42 (fun H locs hG => ?_)
      obtain ⟨M_11, eM_11⟩ : ∃ q9, q9 = hm_up M_9 t (.inr (1, [.int 2, .int clk, .int 0])) := ⟨_, rfl⟩
      rw [← eM_11] at hG
      have h_12 : M_11 t = some (.inr (1, [.int 2, .int clk, .int 0])) := by rw [eM_11]; exact hm_up_s
      refine lv_aload_n S.1 S.2.1 dX0_rise_45 rfl (lv_at hl 0 rfl) ?_
      refine lv_iload_n S.1 S.2.1 dX0_rise_46 rfl (lv_at hl 2 rfl) ?_
      refine hm_put (k := 1) (fs' := [.int 2, .int clk, .int 0]) S hE hG h_12 rfl rfl hi_X00 tyX0_ok nmX0 (by decide) hb_69 rfl rfl (by rfl) (by rfl) (Nat.le_of_ble_eq_true rfl) rfl dX0_rise_47 (fun H locs hG => ?_)
      obtain ⟨M_13, eM_13⟩ : ∃ q9, q9 = hm_up M_11 t (.inr (1, [.int 2, .int clk, .int 0])) := ⟨_, rfl⟩
      rw [← eM_13] at hG
      have h_14 : M_13 t = some (.inr (1, [.int 2, .int clk, .int 0])) := by rw [eM_13]; exact hm_up_s
      exact hm_vret S hG hr hlk (⟨rfl, rfl, by simp_all [hm_up_up, riseF, riseA]⟩) (Nat.le_of_ble_eq_true rfl) (Nat.le_of_ble_eq_true rfl) dX0_rise_50

abbrev rm_X0_fall : Room := { frames := 0, cells := 0, slots := 0, locals := 0 }
set_option maxHeartbeats 4000000 in
set_option maxRecDepth 100000 in
theorem c_X0_fall (l : Launch) (g : GV) (ad : AD) (M : CT) (t : TG) (a : AlD) (h1 : M t = some (alE a)) : hm_Met l yX0_fall cX0_fall 1 none rm_X0_fall g ad M [.ref (ad t)] (hm_pU ad (hm_up M t (alE (fallF a))) none) := by
  refine hm_start (own := RX0) (by decide) rfl (Nat.le_of_ble_eq_true rfl) ?_
  intro p e s m args below meth c S hr hlk hnm hE hG ls hl
  have hl : lv_has ls 1 [(0, .ref (ad t))] := hl
  refine lv_aload_n S.1 S.2.1 dX0_fall_0 rfl (lv_at hl 0 rfl) ?_
  refine lv_dup S.1 S.2.1 dX0_fall_1 rfl ?_
  refine hm_get (k := 2) S hE hG h1 rfl rfl hi_X00 (by decide) hb_70 rfl rfl dX0_fall_2 ?_
  refine lv_iconst (v := 1) S.1 S.2.1 dX0_fall_5 (by decide) ?_
  refine lv_iadd S.1 S.2.1 dX0_fall_6 ?_
  refine hm_put (k := 2) (fs' := [.int a.1, .int a.2.1, .int (a.2.2 + 1)]) S hE hG h1 rfl rfl hi_X00 tyX0_ok nmX0 (by decide) hb_70 rfl rfl (by rfl) (by rfl) (Nat.le_of_ble_eq_true rfl) rfl dX0_fall_7 (fun H locs hG => ?_)
  obtain ⟨M_1, eM_1⟩ : ∃ q9, q9 = hm_up M t (.inr (1, [.int a.1, .int a.2.1, .int (a.2.2 + 1)])) := ⟨_, rfl⟩
  rw [← eM_1] at hG
  have h_2 : M_1 t = some (.inr (1, [.int a.1, .int a.2.1, .int (a.2.2 + 1)])) := by rw [eM_1]; exact hm_up_s
  refine lv_aload_n S.1 S.2.1 dX0_fall_10 rfl (lv_at hl 0 rfl) ?_
  refine hm_get (k := 0) S hE hG h_2 rfl rfl hi_X00 (by decide) hb_68 rfl rfl dX0_fall_11 ?_
  refine lv_iconst (v := 2) S.1 S.2.1 dX0_fall_14 (by decide) ?_
  refine lv_icmp_ne (tgt := 26) S.1 S.2.1 dX0_fall_15 (by decide) (fun c15 => ?_) (fun c15 => ?_)
  · skip
    refine lv_aload_n S.1 S.2.1 dX0_fall_26 rfl (lv_at hl 0 rfl) ?_
    refine lv_iconst (v := 0) S.1 S.2.1 dX0_fall_27 (by decide) ?_
    refine hm_put (k := 0) (fs' := [.int 0, .int a.2.1, .int (a.2.2 + 1)]) S hE hG h_2 rfl rfl hi_X00 tyX0_ok nmX0 (by decide) hb_68 rfl rfl (by rfl) (by rfl) (Nat.le_of_ble_eq_true rfl) rfl dX0_fall_28 (fun H locs hG => ?_)
    obtain ⟨M_3, eM_3⟩ : ∃ q9, q9 = hm_up M_1 t (.inr (1, [.int 0, .int a.2.1, .int (a.2.2 + 1)])) := ⟨_, rfl⟩
    rw [← eM_3] at hG
    have h_4 : M_3 t = some (.inr (1, [.int 0, .int a.2.1, .int (a.2.2 + 1)])) := by rw [eM_3]; exact hm_up_s
    refine lv_aload_n S.1 S.2.1 dX0_fall_31 rfl (lv_at hl 0 rfl) ?_
    refine lv_iconst (v := (-1)) S.1 S.2.1 dX0_fall_32 (by decide) ?_
    refine hm_put (k := 1) (fs' := [.int 0, .int (-1), .int (a.2.2 + 1)]) S hE hG h_4 rfl rfl hi_X00 tyX0_ok nmX0 (by decide) hb_69 rfl rfl (by rfl) (by rfl) (Nat.le_of_ble_eq_true rfl) rfl dX0_fall_33 (fun H locs hG => ?_)
    obtain ⟨M_5, eM_5⟩ : ∃ q9, q9 = hm_up M_3 t (.inr (1, [.int 0, .int (-1), .int (a.2.2 + 1)])) := ⟨_, rfl⟩
    rw [← eM_5] at hG
    have h_6 : M_5 t = some (.inr (1, [.int 0, .int (-1), .int (a.2.2 + 1)])) := by rw [eM_5]; exact hm_up_s
    exact hm_vret S hG hr hlk (⟨rfl, rfl, by simp_all [hm_up_up, fallF]⟩) (Nat.le_of_ble_eq_true rfl) (Nat.le_of_ble_eq_true rfl) dX0_fall_36
  · skip
    refine lv_aload_n S.1 S.2.1 dX0_fall_18 rfl (lv_at hl 0 rfl) ?_
    refine hm_get (k := 2) S hE hG h_2 rfl rfl hi_X00 (by decide) hb_70 rfl rfl dX0_fall_19 ?_
    refine lv_iconst (v := 3) S.1 S.2.1 dX0_fall_22 (by decide) ?_
    refine lv_icmp_lt (tgt := 36) S.1 S.2.1 dX0_fall_23 (by decide) (fun c23 => ?_) (fun c23 => ?_)
    · skip
      exact hm_vret S hG hr hlk (⟨rfl, rfl, by simp_all [hm_up_up, fallF]⟩) (Nat.le_of_ble_eq_true rfl) (Nat.le_of_ble_eq_true rfl) dX0_fall_36
    · skip
      refine lv_aload_n S.1 S.2.1 dX0_fall_26 rfl (lv_at hl 0 rfl) ?_
      refine lv_iconst (v := 0) S.1 S.2.1 dX0_fall_27 (by decide) ?_
      refine hm_put (k := 0) (fs' := [.int 0, .int a.2.1, .int (a.2.2 + 1)]) S hE hG h_2 rfl rfl hi_X00 tyX0_ok nmX0 (by decide) hb_68 rfl rfl (by rfl) (by rfl) (Nat.le_of_ble_eq_true rfl) rfl dX0_fall_28 (fun H locs hG => ?_)
      obtain ⟨M_7, eM_7⟩ : ∃ q9, q9 = hm_up M_1 t (.inr (1, [.int 0, .int a.2.1, .int (a.2.2 + 1)])) := ⟨_, rfl⟩
      rw [← eM_7] at hG
      have h_8 : M_7 t = some (.inr (1, [.int 0, .int a.2.1, .int (a.2.2 + 1)])) := by rw [eM_7]; exact hm_up_s
      refine lv_aload_n S.1 S.2.1 dX0_fall_31 rfl (lv_at hl 0 rfl) ?_
      refine lv_iconst (v := (-1)) S.1 S.2.1 dX0_fall_32 (by decide) ?_
      refine hm_put (k := 1) (fs' := [.int 0, .int (-1), .int (a.2.2 + 1)]) S hE hG h_8 rfl rfl hi_X00 tyX0_ok nmX0 (by decide) hb_69 rfl rfl (by rfl) (by rfl) (Nat.le_of_ble_eq_true rfl) rfl dX0_fall_33 (fun H locs hG => ?_)
      obtain ⟨M_9, eM_9⟩ : ∃ q9, q9 = hm_up M_7 t (.inr (1, [.int 0, .int (-1), .int (a.2.2 + 1)])) := ⟨_, rfl⟩
      rw [← eM_9] at hG
      have h_10 : M_9 t = some (.inr (1, [.int 0, .int (-1), .int (a.2.2 + 1)])) := by rw [eM_9]; exact hm_up_s
      exact hm_vret S hG hr hlk (⟨rfl, rfl, by simp_all [hm_up_up, fallF]⟩) (Nat.le_of_ble_eq_true rfl) (Nat.le_of_ble_eq_true rfl) dX0_fall_36

abbrev rm_X0_step : Room := { frames := 1, cells := 0, slots := 0, locals := 22 }
set_option maxHeartbeats 4000000 in
set_option maxRecDepth 100000 in
theorem c_X0_step (l : Launch) (g : GV) (ad : AD) (M : CT) (t : TG) (a : AlD) (b : Bool) (wait clk : Int32) (h1 : M t = some (alE a)) : hm_Met l yX0_step cX0_step 4 none rm_X0_step g ad M [.ref (ad t), .int (bI b), .int wait, .int clk] (hm_pU ad (hm_up M t (alE (stepF a b wait clk))) none) := by
  refine hm_start (own := RX0) (by decide) rfl (Nat.le_of_ble_eq_true rfl) ?_
  intro p e s m args below meth c S hr hlk hnm hE hG ls hl
  have hl : lv_has ls 4 [(0, .ref (ad t)), (1, .int (bI b)), (2, .int wait), (3, .int clk)] := hl
  refine lv_iload_n S.1 S.2.1 dX0_step_0 rfl (lv_at hl 1 rfl) ?_
  refine lv_if_eq (tgt := 13) S.1 S.2.1 dX0_step_1 (by decide) (fun c1 => ?_) (fun c1 => ?_)
  · skip
    refine lv_aload_n S.1 S.2.1 dX0_step_13 rfl (lv_at hl 0 rfl) ?_
    refine hm_uV (As := []) (rest := []) (st1 := []) S hE hG (c_X0_fall l g ad M t a h1) (hm_gV hb_399 hb_400 hb_401 hb_29 hb_402) hd_X0_fall rfl h1 rfl rfl ⟨Nat.le_of_ble_eq_true rfl, Nat.le_of_ble_eq_true rfl⟩ rfl hl.1 rfl (Nat.le_of_ble_eq_true rfl) dX0_step_14 ⟨Nat.le_of_ble_eq_true rfl, Nat.le_of_ble_eq_true rfl⟩ rfl (fun H locs hG => ?_)
    exact hm_vret S hG hr hlk (⟨rfl, rfl, by simp [stepF, bI_0.mp c1]⟩) (Nat.le_of_ble_eq_true rfl) (Nat.le_of_ble_eq_true rfl) dX0_step_17
  · skip
    refine lv_aload_n S.1 S.2.1 dX0_step_4 rfl (lv_at hl 0 rfl) ?_
    refine lv_iload_n S.1 S.2.1 dX0_step_5 rfl (lv_at hl 2 rfl) ?_
    refine lv_iload_n S.1 S.2.1 dX0_step_6 rfl (lv_at hl 3 rfl) ?_
    refine hm_uV (As := [.int wait, .int clk]) (rest := []) (st1 := []) S hE hG (c_X0_rise l g ad M t a wait clk h1) (hm_gV hb_395 hb_396 hb_397 hb_29 hb_398) hd_X0_rise rfl h1 rfl rfl ⟨Nat.le_of_ble_eq_true rfl, Nat.le_of_ble_eq_true rfl⟩ rfl hl.1 rfl (Nat.le_of_ble_eq_true rfl) dX0_step_7 ⟨Nat.le_of_ble_eq_true rfl, Nat.le_of_ble_eq_true rfl⟩ rfl (fun H locs hG => ?_)
    refine lv_goto (tgt := 17) S.1 S.2.1 dX0_step_10 (by decide) ?_
    exact hm_vret S hG hr hlk (⟨rfl, rfl, by simp [stepF, bI_ne.mp c1]⟩) (Nat.le_of_ble_eq_true rfl) (Nat.le_of_ble_eq_true rfl) dX0_step_17

abbrev rm_X0_become : Room := { frames := 0, cells := 0, slots := 0, locals := 0 }
set_option maxHeartbeats 4000000 in
set_option maxRecDepth 100000 in
theorem c_X0_become (l : Launch) (g : GV) (ad : AD) (M : CT) (t u : TG) (a b : AlD) (hn : u ≠ t) (h1 : M t = some (alE a)) (h2 : M u = some (alE b)) : hm_Met l yX0_become cX0_become 2 none rm_X0_become g ad M [.ref (ad t), .ref (ad u)] (hm_pU ad (hm_up M t (alE b)) none) := by
  refine hm_start (own := RX0) (by decide) rfl (Nat.le_of_ble_eq_true rfl) ?_
  intro p e s m args below meth c S hr hlk hnm hE hG ls hl
  have hl : lv_has ls 2 [(0, .ref (ad t)), (1, .ref (ad u))] := hl
  refine lv_aload_n S.1 S.2.1 dX0_become_0 rfl (lv_at hl 0 rfl) ?_
  refine lv_aload_n S.1 S.2.1 dX0_become_1 rfl (lv_at hl 1 rfl) ?_
  refine hm_get (k := 0) S hE hG h2 rfl rfl hi_X00 (by decide) hb_68 rfl rfl dX0_become_2 ?_
  refine hm_put (k := 0) (fs' := [.int b.1, .int a.2.1, .int a.2.2]) S hE hG h1 rfl rfl hi_X00 tyX0_ok nmX0 (by decide) hb_68 rfl rfl (by rfl) (by rfl) (Nat.le_of_ble_eq_true rfl) rfl dX0_become_5 (fun H locs hG => ?_)
  obtain ⟨M_1, eM_1⟩ : ∃ q9, q9 = hm_up M t (.inr (1, [.int b.1, .int a.2.1, .int a.2.2])) := ⟨_, rfl⟩
  rw [← eM_1] at hG
  have h_2 : M_1 t = some (.inr (1, [.int b.1, .int a.2.1, .int a.2.2])) := by rw [eM_1]; exact hm_up_s
  have h_3 : M_1 u = some (.inr (1, [.int b.1, .int b.2.1, .int b.2.2])) := by rw [eM_1]; exact (hm_up_n (hn)).trans h2
  refine lv_aload_n S.1 S.2.1 dX0_become_8 rfl (lv_at hl 0 rfl) ?_
  refine lv_aload_n S.1 S.2.1 dX0_become_9 rfl (lv_at hl 1 rfl) ?_
  refine hm_get (k := 1) S hE hG h_3 rfl rfl hi_X00 (by decide) hb_69 rfl rfl dX0_become_10 ?_
  refine hm_put (k := 1) (fs' := [.int b.1, .int b.2.1, .int a.2.2]) S hE hG h_2 rfl rfl hi_X00 tyX0_ok nmX0 (by decide) hb_69 rfl rfl (by rfl) (by rfl) (Nat.le_of_ble_eq_true rfl) rfl dX0_become_13 (fun H locs hG => ?_)
  obtain ⟨M_4, eM_4⟩ : ∃ q9, q9 = hm_up M_1 t (.inr (1, [.int b.1, .int b.2.1, .int a.2.2])) := ⟨_, rfl⟩
  rw [← eM_4] at hG
  have h_5 : M_4 t = some (.inr (1, [.int b.1, .int b.2.1, .int a.2.2])) := by rw [eM_4]; exact hm_up_s
  have h_6 : M_4 u = some (.inr (1, [.int b.1, .int b.2.1, .int b.2.2])) := by rw [eM_4]; exact (hm_up_n (hn)).trans h_3
  refine lv_aload_n S.1 S.2.1 dX0_become_16 rfl (lv_at hl 0 rfl) ?_
  refine lv_aload_n S.1 S.2.1 dX0_become_17 rfl (lv_at hl 1 rfl) ?_
  refine hm_get (k := 2) S hE hG h_6 rfl rfl hi_X00 (by decide) hb_70 rfl rfl dX0_become_18 ?_
  refine hm_put (k := 2) (fs' := [.int b.1, .int b.2.1, .int b.2.2]) S hE hG h_5 rfl rfl hi_X00 tyX0_ok nmX0 (by decide) hb_70 rfl rfl (by rfl) (by rfl) (Nat.le_of_ble_eq_true rfl) rfl dX0_become_21 (fun H locs hG => ?_)
  obtain ⟨M_7, eM_7⟩ : ∃ q9, q9 = hm_up M_4 t (.inr (1, [.int b.1, .int b.2.1, .int b.2.2])) := ⟨_, rfl⟩
  rw [← eM_7] at hG
  have h_8 : M_7 t = some (.inr (1, [.int b.1, .int b.2.1, .int b.2.2])) := by rw [eM_7]; exact hm_up_s
  have h_9 : M_7 u = some (.inr (1, [.int b.1, .int b.2.1, .int b.2.2])) := by rw [eM_7]; exact (hm_up_n (hn)).trans h_6
  exact hm_vret S hG hr hlk (⟨rfl, rfl, by simp_all [hm_up_up]⟩) (Nat.le_of_ble_eq_true rfl) (Nat.le_of_ble_eq_true rfl) dX0_become_24

abbrev rm_X2_covers : Room := { frames := 0, cells := 0, slots := 0, locals := 0 }
set_option maxHeartbeats 4000000 in
set_option maxRecDepth 100000 in
theorem c_X2_covers (l : Launch) (g : GV) (ad : AD) (M : CT) (t : TG) (h : HuD) (ru pl clk : Int32) (h1 : M t = some (huE h)) : hm_Met l yX2_covers cX2_covers 4 (some .boolean) rm_X2_covers g ad M [.ref (ad t), .int ru, .int pl, .int clk] (hm_pU ad M (some (.int (bI (covF h ru pl clk))))) := by
  refine hm_start (own := RX2) (by decide) rfl (Nat.le_of_ble_eq_true rfl) ?_
  intro p e s m args below meth c S hr hlk hnm hE hG ls hl
  have hl : lv_has ls 4 [(0, .ref (ad t)), (1, .int ru), (2, .int pl), (3, .int clk)] := hl
  refine lv_iload_n S.1 S.2.1 dX2_covers_0 rfl (lv_at hl 3 rfl) ?_
  refine lv_aload_n S.1 S.2.1 dX2_covers_1 rfl (lv_at hl 0 rfl) ?_
  refine hm_get (k := 2) S hE hG h1 rfl rfl hi_X20 (by decide) hb_309 rfl rfl dX2_covers_2 ?_
  refine lv_icmp_ge (tgt := 44) S.1 S.2.1 dX2_covers_5 (by decide) (fun c5 => ?_) (fun c5 => ?_)
  · skip
    refine lv_iconst (v := 0) S.1 S.2.1 dX2_covers_44 (by decide) ?_
    exact hm_zret S hG hr hlk (by decide) (⟨by rw [covF, decide_eq_false (Int32.not_lt.mpr c5)]; rfl, rfl, rfl⟩) (Nat.le_of_ble_eq_true rfl) (Nat.le_of_ble_eq_true rfl) dX2_covers_45
  · skip
    have e5 := Int32.not_le.mp c5
    refine lv_aload_n S.1 S.2.1 dX2_covers_8 rfl (lv_at hl 0 rfl) ?_
    refine hm_get (k := 0) S hE hG h1 rfl rfl hi_X20 (by decide) hb_310 rfl rfl dX2_covers_9 ?_
    refine lv_iconst (v := (-1)) S.1 S.2.1 dX2_covers_12 (by decide) ?_
    refine lv_icmp_eq (tgt := 24) S.1 S.2.1 dX2_covers_13 (by decide) (fun c13 => ?_) (fun c13 => ?_)
    · skip
      refine lv_aload_n S.1 S.2.1 dX2_covers_24 rfl (lv_at hl 0 rfl) ?_
      refine hm_get (k := 1) S hE hG h1 rfl rfl hi_X20 (by decide) hb_311 rfl rfl dX2_covers_25 ?_
      refine lv_iconst (v := (-1)) S.1 S.2.1 dX2_covers_28 (by decide) ?_
      refine lv_icmp_eq (tgt := 40) S.1 S.2.1 dX2_covers_29 (by decide) (fun c29 => ?_) (fun c29 => ?_)
      · skip
        refine lv_iconst (v := 1) S.1 S.2.1 dX2_covers_40 (by decide) ?_
        refine lv_goto (tgt := 45) S.1 S.2.1 dX2_covers_41 (by decide) ?_
        exact hm_zret S hG hr hlk (by decide) (⟨by simp_all [covF, bI], rfl, rfl⟩) (Nat.le_of_ble_eq_true rfl) (Nat.le_of_ble_eq_true rfl) dX2_covers_45
      · skip
        refine lv_aload_n S.1 S.2.1 dX2_covers_32 rfl (lv_at hl 0 rfl) ?_
        refine hm_get (k := 1) S hE hG h1 rfl rfl hi_X20 (by decide) hb_311 rfl rfl dX2_covers_33 ?_
        refine lv_iload_n S.1 S.2.1 dX2_covers_36 rfl (lv_at hl 2 rfl) ?_
        refine lv_icmp_ne (tgt := 44) S.1 S.2.1 dX2_covers_37 (by decide) (fun c37 => ?_) (fun c37 => ?_)
        · skip
          refine lv_iconst (v := 0) S.1 S.2.1 dX2_covers_44 (by decide) ?_
          exact hm_zret S hG hr hlk (by decide) (⟨by simp_all [covF, bI], rfl, rfl⟩) (Nat.le_of_ble_eq_true rfl) (Nat.le_of_ble_eq_true rfl) dX2_covers_45
        · skip
          refine lv_iconst (v := 1) S.1 S.2.1 dX2_covers_40 (by decide) ?_
          refine lv_goto (tgt := 45) S.1 S.2.1 dX2_covers_41 (by decide) ?_
          exact hm_zret S hG hr hlk (by decide) (⟨by simp_all [covF, bI], rfl, rfl⟩) (Nat.le_of_ble_eq_true rfl) (Nat.le_of_ble_eq_true rfl) dX2_covers_45
    · skip
      refine lv_aload_n S.1 S.2.1 dX2_covers_16 rfl (lv_at hl 0 rfl) ?_
      refine hm_get (k := 0) S hE hG h1 rfl rfl hi_X20 (by decide) hb_310 rfl rfl dX2_covers_17 ?_
      refine lv_iload_n S.1 S.2.1 dX2_covers_20 rfl (lv_at hl 1 rfl) ?_
      refine lv_icmp_ne (tgt := 44) S.1 S.2.1 dX2_covers_21 (by decide) (fun c21 => ?_) (fun c21 => ?_)
      · skip
        refine lv_iconst (v := 0) S.1 S.2.1 dX2_covers_44 (by decide) ?_
        exact hm_zret S hG hr hlk (by decide) (⟨by simp_all [covF, bI], rfl, rfl⟩) (Nat.le_of_ble_eq_true rfl) (Nat.le_of_ble_eq_true rfl) dX2_covers_45
      · skip
        refine lv_aload_n S.1 S.2.1 dX2_covers_24 rfl (lv_at hl 0 rfl) ?_
        refine hm_get (k := 1) S hE hG h1 rfl rfl hi_X20 (by decide) hb_311 rfl rfl dX2_covers_25 ?_
        refine lv_iconst (v := (-1)) S.1 S.2.1 dX2_covers_28 (by decide) ?_
        refine lv_icmp_eq (tgt := 40) S.1 S.2.1 dX2_covers_29 (by decide) (fun c29 => ?_) (fun c29 => ?_)
        · skip
          refine lv_iconst (v := 1) S.1 S.2.1 dX2_covers_40 (by decide) ?_
          refine lv_goto (tgt := 45) S.1 S.2.1 dX2_covers_41 (by decide) ?_
          exact hm_zret S hG hr hlk (by decide) (⟨by simp_all [covF, bI], rfl, rfl⟩) (Nat.le_of_ble_eq_true rfl) (Nat.le_of_ble_eq_true rfl) dX2_covers_45
        · skip
          refine lv_aload_n S.1 S.2.1 dX2_covers_32 rfl (lv_at hl 0 rfl) ?_
          refine hm_get (k := 1) S hE hG h1 rfl rfl hi_X20 (by decide) hb_311 rfl rfl dX2_covers_33 ?_
          refine lv_iload_n S.1 S.2.1 dX2_covers_36 rfl (lv_at hl 2 rfl) ?_
          refine lv_icmp_ne (tgt := 44) S.1 S.2.1 dX2_covers_37 (by decide) (fun c37 => ?_) (fun c37 => ?_)
          · skip
            refine lv_iconst (v := 0) S.1 S.2.1 dX2_covers_44 (by decide) ?_
            exact hm_zret S hG hr hlk (by decide) (⟨by simp_all [covF, bI], rfl, rfl⟩) (Nat.le_of_ble_eq_true rfl) (Nat.le_of_ble_eq_true rfl) dX2_covers_45
          · skip
            refine lv_iconst (v := 1) S.1 S.2.1 dX2_covers_40 (by decide) ?_
            refine lv_goto (tgt := 45) S.1 S.2.1 dX2_covers_41 (by decide) ?_
            exact hm_zret S hG hr hlk (by decide) (⟨by simp_all [covF, bI], rfl, rfl⟩) (Nat.le_of_ble_eq_true rfl) (Nat.le_of_ble_eq_true rfl) dX2_covers_45

abbrev rm_Jx4a65c_size_8abf5 : Room := { frames := 0, cells := 0, slots := 0, locals := 0 }
set_option maxHeartbeats 4000000 in
set_option maxRecDepth 100000 in
theorem c_Jx4a65c_size_8abf5 (l : Launch) (g : GV) (ad : AD) (M : CT) (t : TG) (mc : Int32) (q n : Nat) (h1 : M t = some (liE mc q n)) : hm_Met l yJx4a65c_size_8abf5 cJx4a65c_size_8abf5 1 (some .int) rm_Jx4a65c_size_8abf5 g ad M [.ref (ad t)] (hm_pU ad M (some (.int (nI n)))) := by
  refine hm_start (own := RJx4a65c) (by decide) rfl (Nat.le_of_ble_eq_true rfl) ?_
  intro p e s m args below meth c S hr hlk hnm hE hG ls hl
  have hl : lv_has ls 1 [(0, .ref (ad t))] := hl
  refine lv_aload_n S.1 S.2.1 dJx4a65c_size_8abf5_0 rfl (lv_at hl 0 rfl) ?_
  refine hm_get (k := 2) S hE hG h1 rfl rfl hi_Jx4a65c0 (by decide) hb_101 rfl rfl dJx4a65c_size_8abf5_1 ?_
  exact hm_iret S hG hr hlk (⟨rfl, rfl, rfl⟩) (Nat.le_of_ble_eq_true rfl) (Nat.le_of_ble_eq_true rfl) dJx4a65c_size_8abf5_4

abbrev rm_J3_checkIndex_8e157 : Room := { frames := 0, cells := 0, slots := 0, locals := 0 }
set_option maxHeartbeats 4000000 in
set_option maxRecDepth 100000 in
theorem c_J3_checkIndex_8e157 (l : Launch) (g : GV) (ad : AD) (M : CT) (i n : Nat) (h1 : i < n) (h2 : n < 2 ^ 31) : hm_Met l yJ3_checkIndex_8e157 cJ3_checkIndex_8e157 3 (some .int) rm_J3_checkIndex_8e157 g ad M [.int (nI i), .int (nI n), .null] (hm_pU ad M (some (.int (nI i)))) := by
  refine hm_start (own := RJ3) (by decide) rfl (Nat.le_of_ble_eq_true rfl) ?_
  intro p e s m args below meth c S hr hlk hnm hE hG ls hl
  have hl : lv_has ls 3 [(0, .int (nI i)), (1, .int (nI n)), (2, .null)] := hl
  refine lv_iload_n S.1 S.2.1 dJ3_checkIndex_8e157_0 rfl (lv_at hl 0 rfl) ?_
  refine lv_if_lt (tgt := 9) S.1 S.2.1 dJ3_checkIndex_8e157_1 (by decide) (fun h9 => absurd h9 (nI_pos (by omega))) (fun _ => ?_)
  refine lv_iload_n S.1 S.2.1 dJ3_checkIndex_8e157_4 rfl (lv_at hl 0 rfl) ?_
  refine lv_iload_n S.1 S.2.1 dJ3_checkIndex_8e157_5 rfl (lv_at hl 1 rfl) ?_
  refine lv_icmp_lt (tgt := 16) S.1 S.2.1 dJ3_checkIndex_8e157_6 (by decide) (fun _ => ?_) (fun h9 => absurd (nI_lt h1 h2) h9)
  refine lv_iload_n S.1 S.2.1 dJ3_checkIndex_8e157_16 rfl (lv_at hl 0 rfl) ?_
  exact hm_iret S hG hr hlk (⟨rfl, rfl, rfl⟩) (Nat.le_of_ble_eq_true rfl) (Nat.le_of_ble_eq_true rfl) dJ3_checkIndex_8e157_17

abbrev rm_J15_checkIndex_7cf53 : Room := { frames := 1, cells := 0, slots := 0, locals := 22 }
set_option maxHeartbeats 4000000 in
set_option maxRecDepth 100000 in
theorem c_J15_checkIndex_7cf53 (l : Launch) (g : GV) (ad : AD) (M : CT) (i n : Nat) (h1 : i < n) (h2 : n < 2 ^ 31) : hm_Met l yJ15_checkIndex_7cf53 cJ15_checkIndex_7cf53 2 (some .int) rm_J15_checkIndex_7cf53 g ad M [.int (nI i), .int (nI n)] (hm_pU ad M (some (.int (nI i)))) := by
  refine hm_start (own := RJ15) (by decide) rfl (Nat.le_of_ble_eq_true rfl) ?_
  intro p e s m args below meth c S hr hlk hnm hE hG ls hl
  have hl : lv_has ls 2 [(0, .int (nI i)), (1, .int (nI n))] := hl
  refine lv_iload_n S.1 S.2.1 dJ15_checkIndex_7cf53_0 rfl (lv_at hl 0 rfl) ?_
  refine lv_iload_n S.1 S.2.1 dJ15_checkIndex_7cf53_1 rfl (lv_at hl 1 rfl) ?_
  refine lv_null S.1 S.2.1 dJ15_checkIndex_7cf53_2 ?_
  refine hm_uS (As := [.int (nI i), .int (nI n), .null]) (rest := []) (st1 := [.int (nI i)]) S hE hG (c_J3_checkIndex_8e157 l g ad M i n h1 h2) (hm_gS hb_216 hb_217 hb_218 hb_219) hd_J3_checkIndex_8e157 ⟨Nat.le_of_ble_eq_true rfl, Nat.le_of_ble_eq_true rfl⟩ rfl hl.1 rfl (Nat.le_of_ble_eq_true rfl) dJ15_checkIndex_7cf53_3 ⟨Nat.le_of_ble_eq_true rfl, Nat.le_of_ble_eq_true rfl⟩ rfl (fun H locs hG => ?_)
  exact hm_iret S hG hr hlk (⟨rfl, rfl, rfl⟩) (Nat.le_of_ble_eq_true rfl) (Nat.le_of_ble_eq_true rfl) dJ15_checkIndex_7cf53_6

abbrev rm_Jx4a65c_elementData_915e3 : Room := { frames := 0, cells := 0, slots := 0, locals := 0 }
set_option maxHeartbeats 4000000 in
set_option maxRecDepth 100000 in
theorem c_Jx4a65c_elementData_915e3 (l : Launch) (g : GV) (ad : AD) (M : CT) (t : TG) (mc : Int32) (q n : Nat) (h1 : M t = some (liE mc q n)) (tq : TG) (f : Nat → Option Nat) (i r : Nat) (ha : ad tq = q) (h2 : M tq = some (hm_ra g 3 10 f)) (hi : i < n) (hn : n ≤ 10) (hrr : f i = some r) : hm_Met l yJx4a65c_elementData_915e3 cJx4a65c_elementData_915e3 2 (some (.object "java/lang/Object")) rm_Jx4a65c_elementData_915e3 g ad M [.ref (ad t), .int (nI i)] (hm_pU ad M (some (.ref r))) := by
  refine hm_start (own := RJx4a65c) (by decide) rfl (Nat.le_of_ble_eq_true rfl) ?_
  intro p e s m args below meth c S hr hlk hnm hE hG ls hl
  have hl : lv_has ls 2 [(0, .ref (ad t)), (1, .int (nI i))] := hl
  refine lv_aload_n S.1 S.2.1 dJx4a65c_elementData_915e3_0 rfl (lv_at hl 0 rfl) ?_
  refine hm_get (k := 1) S hE hG h1 rfl rfl hi_Jx4a65c0 (by decide) hb_38 rfl rfl dJx4a65c_elementData_915e3_1 ?_
  refine lv_iload_n S.1 S.2.1 dJx4a65c_elementData_915e3_4 rfl (lv_at hl 1 rfl) ?_
  refine hm_aldq (q := r) S hE hG h2 ha rfl (vp_in_nI (n := i) (by omega) (by decide)) (by rw [nI_clamp (by omega)]; exact hrr) dJx4a65c_elementData_915e3_5 ?_
  exact hm_aret S hG hr (Or.inl ⟨_, rfl⟩) hlk (⟨rfl, rfl, rfl⟩) (Nat.le_of_ble_eq_true rfl) (Nat.le_of_ble_eq_true rfl) dJx4a65c_elementData_915e3_6

abbrev rm_Jx4a65c_get_915e3 : Room := { frames := 2, cells := 0, slots := 0, locals := 43 }
set_option maxHeartbeats 4000000 in
set_option maxRecDepth 100000 in
theorem c_Jx4a65c_get_915e3 (l : Launch) (g : GV) (ad : AD) (M : CT) (t : TG) (mc : Int32) (q n : Nat) (h1 : M t = some (liE mc q n)) (tq : TG) (f : Nat → Option Nat) (i r : Nat) (ha : ad tq = q) (h2 : M tq = some (hm_ra g 3 10 f)) (hi : i < n) (hn : n ≤ 10) (hrr : f i = some r) : hm_Met l yJx4a65c_get_915e3 cJx4a65c_get_915e3 2 (some (.object "java/lang/Object")) rm_Jx4a65c_get_915e3 g ad M [.ref (ad t), .int (nI i)] (hm_pU ad M (some (.ref r))) := by
  refine hm_start (own := RJx4a65c) (by decide) rfl (Nat.le_of_ble_eq_true rfl) ?_
  intro p e s m args below meth c S hr hlk hnm hE hG ls hl
  have hl : lv_has ls 2 [(0, .ref (ad t)), (1, .int (nI i))] := hl
  refine lv_iload_n S.1 S.2.1 dJx4a65c_get_915e3_0 rfl (lv_at hl 1 rfl) ?_
  refine lv_aload_n S.1 S.2.1 dJx4a65c_get_915e3_1 rfl (lv_at hl 0 rfl) ?_
  refine hm_get (k := 2) S hE hG h1 rfl rfl hi_Jx4a65c0 (by decide) hb_101 rfl rfl dJx4a65c_get_915e3_2 ?_
  refine hm_uS (As := [.int (nI i), .int (nI n)]) (rest := []) (st1 := [.int (nI i)]) S hE hG (c_J15_checkIndex_7cf53 l g ad M i n hi (by omega)) (hm_gS hb_212 hb_213 hb_214 hb_215) hd_J15_checkIndex_7cf53 ⟨Nat.le_of_ble_eq_true rfl, Nat.le_of_ble_eq_true rfl⟩ rfl hl.1 rfl (Nat.le_of_ble_eq_true rfl) dJx4a65c_get_915e3_5 ⟨Nat.le_of_ble_eq_true rfl, Nat.le_of_ble_eq_true rfl⟩ rfl (fun H locs hG => ?_)
  refine lv_pop S.1 S.2.1 dJx4a65c_get_915e3_8 rfl ?_
  refine lv_aload_n S.1 S.2.1 dJx4a65c_get_915e3_9 rfl (lv_at hl 0 rfl) ?_
  refine lv_iload_n S.1 S.2.1 dJx4a65c_get_915e3_10 rfl (lv_at hl 1 rfl) ?_
  refine hm_uV (As := [.int (nI i)]) (rest := []) (st1 := [.ref r]) S hE hG (c_Jx4a65c_elementData_915e3 l g ad M t mc q n h1 tq f i r ha h2 hi hn hrr) (hm_gV hb_220 hb_221 hb_222 hb_15 hb_223) hd_Jx4a65c_elementData_915e3 rfl h1 rfl rfl ⟨Nat.le_of_ble_eq_true rfl, Nat.le_of_ble_eq_true rfl⟩ rfl hl.1 rfl (Nat.le_of_ble_eq_true rfl) dJx4a65c_get_915e3_11 ⟨Nat.le_of_ble_eq_true rfl, Nat.le_of_ble_eq_true rfl⟩ rfl (fun H locs hG => ?_)
  exact hm_aret S hG hr (Or.inl ⟨_, rfl⟩) hlk (⟨rfl, rfl, rfl⟩) (Nat.le_of_ble_eq_true rfl) (Nat.le_of_ble_eq_true rfl) dJx4a65c_get_915e3_14
