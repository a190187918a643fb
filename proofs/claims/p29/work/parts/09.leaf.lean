abbrev rm_X6_isOutside : Room := { frames := 0, cells := 0, slots := 0, locals := 0 }
set_option maxHeartbeats 4000000 in
set_option maxRecDepth 100000 in
theorem c_X6_isOutside (l : Launch) (g : GV) (ad : AD) (M : CT) (x lo hi : Int32) : hm_Met l yX6_isOutside cX6_isOutside 3 (some .boolean) rm_X6_isOutside g ad M [.int x, .int lo, .int hi] (hm_pU ad M (some (.int (bI (decide (x < lo) || decide (hi < x)))))) := by
  refine hm_start (own := RX6) (by decide) rfl (Nat.le_of_ble_eq_true rfl) ?_
  intro p e s m args below meth c S hr hlk hnm hE hG ls hl
  have hl : lv_has ls 3 [(0, .int x), (1, .int lo), (2, .int hi)] := hl
  refine lv_iload_n S.1 S.2.1 dX6_isOutside_0 rfl (lv_at hl 0 rfl) ?_
  refine lv_iload_n S.1 S.2.1 dX6_isOutside_1 rfl (lv_at hl 1 rfl) ?_
  refine lv_icmp_lt (tgt := 10) S.1 S.2.1 dX6_isOutside_2 (by decide) (fun c2 => ?_) (fun c2 => ?_)
  · skip
    refine lv_iconst (v := 1) S.1 S.2.1 dX6_isOutside_10 (by decide) ?_
    refine lv_goto (tgt := 15) S.1 S.2.1 dX6_isOutside_11 (by decide) ?_
    exact hm_zret S hG hr hlk (by decide) (⟨by simp [bI, *], rfl, rfl⟩) (Nat.le_of_ble_eq_true rfl) (Nat.le_of_ble_eq_true rfl) dX6_isOutside_15
  · skip
    refine lv_iload_n S.1 S.2.1 dX6_isOutside_5 rfl (lv_at hl 0 rfl) ?_
    refine lv_iload_n S.1 S.2.1 dX6_isOutside_6 rfl (lv_at hl 2 rfl) ?_
    refine lv_icmp_le (tgt := 14) S.1 S.2.1 dX6_isOutside_7 (by decide) (fun c7 => ?_) (fun c7 => ?_)
    · skip
      refine lv_iconst (v := 0) S.1 S.2.1 dX6_isOutside_14 (by decide) ?_
      exact hm_zret S hG hr hlk (by decide) (⟨by simp [bI, *], rfl, rfl⟩) (Nat.le_of_ble_eq_true rfl) (Nat.le_of_ble_eq_true rfl) dX6_isOutside_15
    · skip
      refine lv_iconst (v := 1) S.1 S.2.1 dX6_isOutside_10 (by decide) ?_
      refine lv_goto (tgt := 15) S.1 S.2.1 dX6_isOutside_11 (by decide) ?_
      exact hm_zret S hG hr hlk (by decide) (⟨by simp [bI, *], rfl, rfl⟩) (Nat.le_of_ble_eq_true rfl) (Nat.le_of_ble_eq_true rfl) dX6_isOutside_15

abbrev rm_X6_requireMetric : Room := { frames := 1, cells := 0, slots := 0, locals := 22 }
set_option maxHeartbeats 4000000 in
set_option maxRecDepth 100000 in
theorem c_X6_requireMetric (l : Launch) (g : GV) (ad : AD) (M : CT) (x : Int32) (h1 : ¬ x < 0) (h2 : ¬ 5 < x) : hm_Met l yX6_requireMetric cX6_requireMetric 1 none rm_X6_requireMetric g ad M [.int x] (hm_pU ad M none) := by
  refine hm_start (own := RX6) (by decide) rfl (Nat.le_of_ble_eq_true rfl) ?_
  intro p e s m args below meth c S hr hlk hnm hE hG ls hl
  have hl : lv_has ls 1 [(0, .int x)] := hl
  refine lv_iload_n S.1 S.2.1 dX6_requireMetric_0 rfl (lv_at hl 0 rfl) ?_
  refine lv_iconst (v := 0) S.1 S.2.1 dX6_requireMetric_1 (by decide) ?_
  refine lv_iconst (v := 5) S.1 S.2.1 dX6_requireMetric_2 (by decide) ?_
  refine hm_uS (As := [.int x, .int 0, .int 5]) (rest := []) (st1 := [.int (bI (decide (x < 0) || decide (5 < x)))]) S hE hG (c_X6_isOutside l g ad M x 0 5) (hm_gS hb_91 hb_92 hb_2 hb_93) hd_X6_isOutside ⟨Nat.le_of_ble_eq_true rfl, Nat.le_of_ble_eq_true rfl⟩ rfl hl.1 rfl (Nat.le_of_ble_eq_true rfl) dX6_requireMetric_3 ⟨Nat.le_of_ble_eq_true rfl, Nat.le_of_ble_eq_true rfl⟩ rfl (fun H locs hG => ?_)
  refine lv_if_eq (tgt := 20) S.1 S.2.1 dX6_requireMetric_6 (by decide) (fun _ => ?_) (fun h9 => absurd (by simp [bI, h1, h2]) h9)
  exact hm_vret S hG hr hlk (⟨rfl, rfl, rfl⟩) (Nat.le_of_ble_eq_true rfl) (Nat.le_of_ble_eq_true rfl) dX6_requireMetric_20

abbrev rm_X6_requireLook : Room := { frames := 1, cells := 0, slots := 0, locals := 22 }
set_option maxHeartbeats 4000000 in
set_option maxRecDepth 100000 in
theorem c_X6_requireLook (l : Launch) (g : GV) (ad : AD) (M : CT) (x : Int32) (h1 : ¬ x < 0) (h2 : ¬ 8 < x) : hm_Met l yX6_requireLook cX6_requireLook 1 none rm_X6_requireLook g ad M [.int x] (hm_pU ad M none) := by
  refine hm_start (own := RX6) (by decide) rfl (Nat.le_of_ble_eq_true rfl) ?_
  intro p e s m args below meth c S hr hlk hnm hE hG ls hl
  have hl : lv_has ls 1 [(0, .int x)] := hl
  refine lv_iload_n S.1 S.2.1 dX6_requireLook_0 rfl (lv_at hl 0 rfl) ?_
  refine lv_iconst (v := 0) S.1 S.2.1 dX6_requireLook_1 (by decide) ?_
  refine lv_bipush (v := 8) S.1 S.2.1 dX6_requireLook_2 (by decide) ?_
  refine hm_uS (As := [.int x, .int 0, .int 8]) (rest := []) (st1 := [.int (bI (decide (x < 0) || decide (8 < x)))]) S hE hG (c_X6_isOutside l g ad M x 0 8) (hm_gS hb_91 hb_92 hb_2 hb_93) hd_X6_isOutside ⟨Nat.le_of_ble_eq_true rfl, Nat.le_of_ble_eq_true rfl⟩ rfl hl.1 rfl (Nat.le_of_ble_eq_true rfl) dX6_requireLook_4 ⟨Nat.le_of_ble_eq_true rfl, Nat.le_of_ble_eq_true rfl⟩ rfl (fun H locs hG => ?_)
  refine lv_if_eq (tgt := 21) S.1 S.2.1 dX6_requireLook_7 (by decide) (fun _ => ?_) (fun h9 => absurd (by simp [bI, h1, h2]) h9)
  exact hm_vret S hG hr hlk (⟨rfl, rfl, rfl⟩) (Nat.le_of_ble_eq_true rfl) (Nat.le_of_ble_eq_true rfl) dX6_requireLook_21

abbrev rm_X6_requireW : Room := { frames := 1, cells := 0, slots := 0, locals := 22 }
set_option maxHeartbeats 4000000 in
set_option maxRecDepth 100000 in
theorem c_X6_requireW (l : Launch) (g : GV) (ad : AD) (M : CT) (x : Int32) (h1 : ¬ x < 1) (h2 : ¬ 12 < x) : hm_Met l yX6_requireW cX6_requireW 1 none rm_X6_requireW g ad M [.int x] (hm_pU ad M none) := by
  refine hm_start (own := RX6) (by decide) rfl (Nat.le_of_ble_eq_true rfl) ?_
  intro p e s m args below meth c S hr hlk hnm hE hG ls hl
  have hl : lv_has ls 1 [(0, .int x)] := hl
  refine lv_iload_n S.1 S.2.1 dX6_requireW_0 rfl (lv_at hl 0 rfl) ?_
  refine lv_iconst (v := 1) S.1 S.2.1 dX6_requireW_1 (by decide) ?_
  refine lv_bipush (v := 12) S.1 S.2.1 dX6_requireW_2 (by decide) ?_
  refine hm_uS (As := [.int x, .int 1, .int 12]) (rest := []) (st1 := [.int (bI (decide (x < 1) || decide (12 < x)))]) S hE hG (c_X6_isOutside l g ad M x 1 12) (hm_gS hb_91 hb_92 hb_2 hb_93) hd_X6_isOutside ⟨Nat.le_of_ble_eq_true rfl, Nat.le_of_ble_eq_true rfl⟩ rfl hl.1 rfl (Nat.le_of_ble_eq_true rfl) dX6_requireW_4 ⟨Nat.le_of_ble_eq_true rfl, Nat.le_of_ble_eq_true rfl⟩ rfl (fun H locs hG => ?_)
  refine lv_if_eq (tgt := 21) S.1 S.2.1 dX6_requireW_7 (by decide) (fun _ => ?_) (fun h9 => absurd (by simp [bI, h1, h2]) h9)
  exact hm_vret S hG hr hlk (⟨rfl, rfl, rfl⟩) (Nat.le_of_ble_eq_true rfl) (Nat.le_of_ble_eq_true rfl) dX6_requireW_21

abbrev rm_X6_requireLimit : Room := { frames := 1, cells := 0, slots := 0, locals := 22 }
set_option maxHeartbeats 4000000 in
set_option maxRecDepth 100000 in
theorem c_X6_requireLimit (l : Launch) (g : GV) (ad : AD) (M : CT) (x : Int32) (h1 : ¬ x < (-10000)) (h2 : ¬ 10000 < x) : hm_Met l yX6_requireLimit cX6_requireLimit 1 none rm_X6_requireLimit g ad M [.int x] (hm_pU ad M none) := by
  refine hm_start (own := RX6) (by decide) rfl (Nat.le_of_ble_eq_true rfl) ?_
  intro p e s m args below meth c S hr hlk hnm hE hG ls hl
  have hl : lv_has ls 1 [(0, .int x)] := hl
  refine lv_iload_n S.1 S.2.1 dX6_requireLimit_0 rfl (lv_at hl 0 rfl) ?_
  refine lv_sipush (v := (-10000)) S.1 S.2.1 dX6_requireLimit_1 (by decide) ?_
  refine lv_sipush (v := 10000) S.1 S.2.1 dX6_requireLimit_4 (by decide) ?_
  refine hm_uS (As := [.int x, .int (-10000), .int 10000]) (rest := []) (st1 := [.int (bI (decide (x < (-10000)) || decide (10000 < x)))]) S hE hG (c_X6_isOutside l g ad M x (-10000) 10000) (hm_gS hb_91 hb_92 hb_2 hb_93) hd_X6_isOutside ⟨Nat.le_of_ble_eq_true rfl, Nat.le_of_ble_eq_true rfl⟩ rfl hl.1 rfl (Nat.le_of_ble_eq_true rfl) dX6_requireLimit_7 ⟨Nat.le_of_ble_eq_true rfl, Nat.le_of_ble_eq_true rfl⟩ rfl (fun H locs hG => ?_)
  refine lv_if_eq (tgt := 24) S.1 S.2.1 dX6_requireLimit_10 (by decide) (fun _ => ?_) (fun h9 => absurd (by simp [bI, h1, h2]) h9)
  exact hm_vret S hG hr hlk (⟨rfl, rfl, rfl⟩) (Nat.le_of_ble_eq_true rfl) (Nat.le_of_ble_eq_true rfl) dX6_requireLimit_24

abbrev rm_X6_requireTicks : Room := { frames := 1, cells := 0, slots := 0, locals := 22 }
set_option maxHeartbeats 4000000 in
set_option maxRecDepth 100000 in
theorem c_X6_requireTicks (l : Launch) (g : GV) (ad : AD) (M : CT) (x : Int32) (h1 : ¬ x < 1) (h2 : ¬ 10 < x) : hm_Met l yX6_requireTicks cX6_requireTicks 1 none rm_X6_requireTicks g ad M [.int x] (hm_pU ad M none) := by
  refine hm_start (own := RX6) (by decide) rfl (Nat.le_of_ble_eq_true rfl) ?_
  intro p e s m args below meth c S hr hlk hnm hE hG ls hl
  have hl : lv_has ls 1 [(0, .int x)] := hl
  refine lv_iload_n S.1 S.2.1 dX6_requireTicks_0 rfl (lv_at hl 0 rfl) ?_
  refine lv_iconst (v := 1) S.1 S.2.1 dX6_requireTicks_1 (by decide) ?_
  refine lv_bipush (v := 10) S.1 S.2.1 dX6_requireTicks_2 (by decide) ?_
  refine hm_uS (As := [.int x, .int 1, .int 10]) (rest := []) (st1 := [.int (bI (decide (x < 1) || decide (10 < x)))]) S hE hG (c_X6_isOutside l g ad M x 1 10) (hm_gS hb_91 hb_92 hb_2 hb_93) hd_X6_isOutside ⟨Nat.le_of_ble_eq_true rfl, Nat.le_of_ble_eq_true rfl⟩ rfl hl.1 rfl (Nat.le_of_ble_eq_true rfl) dX6_requireTicks_4 ⟨Nat.le_of_ble_eq_true rfl, Nat.le_of_ble_eq_true rfl⟩ rfl (fun H locs hG => ?_)
  refine lv_if_eq (tgt := 21) S.1 S.2.1 dX6_requireTicks_7 (by decide) (fun _ => ?_) (fun h9 => absurd (by simp [bI, h1, h2]) h9)
  exact hm_vret S hG hr hlk (⟨rfl, rfl, rfl⟩) (Nat.le_of_ble_eq_true rfl) (Nat.le_of_ble_eq_true rfl) dX6_requireTicks_21

abbrev rm_X0_rise : Room := { frames := 0, cells := 0, slots := 0, locals := 0 }
set_option maxHeartbeats 4000000 in
set_option maxRecDepth 100000 in
theorem c_X0_rise (l : Launch) (g : GV) (ad : AD) (M : CT) (t : TG) (a : AlD) (wait clk : Int32) (h1 : M t = some (alE a)) : hm_Met l yX0_rise cX0_rise 3 none rm_X0_rise g ad M [.ref (ad t), .int wait, .int clk] (hm_pU ad (hm_up M t (alE (riseF a wait clk))) none) := by
  refine hm_start (own := RX0) (by decide) rfl (Nat.le_of_ble_eq_true rfl) ?_
  intro p e s m args below meth c S hr hlk hnm hE hG ls hl
  have hl : lv_has ls 3 [(0, .ref (ad t)), (1, .int wait), (2, .int clk)] := hl
  refine lv_aload_n S.1 S.2.1 dX0_rise_0 rfl (lv_at hl 0 rfl) ?_
  refine lv_iconst (v := 0) S.1 S.2.1 dX0_rise_1 (by decide) ?_
  refine hm_put (k := 2) (fs' := [.int a.1, .int a.2.1, .int 0]) S hE hG h1 rfl rfl hi_X00 tyX0_ok nmX0 (by decide) hb_70 rfl rfl (by rfl) (by rfl) (Nat.le_of_ble_eq_true rfl) rfl dX0_rise_2 (fun H locs hG => ?_)
  obtain ⟨M_1, eM_1⟩ : ∃ z, z = hm_up M t (.inr (1, [.int a.1, .int a.2.1, .int 0])) := ⟨_, rfl⟩
  rw [← eM_1] at hG
  have h_2 : M_1 t = some (.inr (1, [.int a.1, .int a.2.1, .int 0])) := by rw [eM_1]; exact hm_up_s
  refine lv_aload_n S.1 S.2.1 dX0_rise_5 rfl (lv_at hl 0 rfl) ?_
  refine hm_get (k := 0) S hE hG h_2 rfl rfl hi_X00 (by decide) hb_68 rfl rfl dX0_rise_6 ?_
  refine lv_if_ne (tgt := 22) S.1 S.2.1 dX0_rise_9 (by decide) (fun c9 => ?_) (fun c9 => ?_)
  · skip
    refine lv_aload_n S.1 S.2.1 dX0_rise_22 rfl (lv_at hl 0 rfl) ?_
    refine hm_get (k := 0) S hE hG h_2 rfl rfl hi_X00 (by decide) hb_68 rfl rfl dX0_rise_23 ?_
    refine lv_iconst (v := 1) S.1 S.2.1 dX0_rise_26 (by decide) ?_
    refine lv_icmp_ne (tgt := 50) S.1 S.2.1 dX0_rise_27 (by decide) (fun c27 => ?_) (fun c27 => ?_)
    · skip
      exact hm_vret S hG hr hlk (⟨rfl, rfl, by simp_all [hm_up_up, riseF, riseA]⟩) (Nat.le_of_ble_eq_true rfl) (Nat.le_of_ble_eq_true rfl) dX0_rise_50
    · skip
      refine lv_iload_n S.1 S.2.1 dX0_rise_30 rfl (lv_at hl 2 rfl) ?_
      refine lv_aload_n S.1 S.2.1 dX0_rise_31 rfl (lv_at hl 0 rfl) ?_
      refine hm_get (k := 1) S hE hG h_2 rfl rfl hi_X00 (by decide) hb_69 rfl rfl dX0_rise_32 ?_
      refine lv_isub S.1 S.2.1 dX0_rise_35 ?_
      refine lv_iload_n S.1 S.2.1 dX0_rise_36 rfl (lv_at hl 1 rfl) ?_
      refine lv_icmp_lt (tgt := 50) S.1 S.2.1 dX0_rise_37 (by decide) (fun c37 => ?_) (fun c37 => ?_)
      · skip
        exact hm_vret S hG hr hlk (⟨rfl, rfl, by simp_all [hm_up_up, riseF, riseA]⟩) (Nat.le_of_ble_eq_true rfl) (Nat.le_of_ble_eq_true rfl) dX0_rise_50
      · skip
        refine lv_aload_n S.1 S.2.1 dX0_rise_40 rfl (lv_at hl 0 rfl) ?_
        refine lv_iconst (v := 2) S.1 S.2.1 dX0_rise_41 (by decide) ?_
        refine hm_put (k := 0) (fs' := [.int 2, .int a.2.1, .int 0]) S hE hG h_2 rfl rfl hi_X00 tyX0_ok nmX0 (by decide) hb_68 rfl rfl (by rfl) (by rfl) (Nat.le_of_ble_eq_true rfl) rfl dX0_rise_42 (fun H locs hG => ?_)
        obtain ⟨M_3, eM_3⟩ : ∃ z, z = hm_up M_1 t (.inr (1, [.int 2, .int a.2.1, .int 0])) := ⟨_, rfl⟩
        rw [← eM_3] at hG
        have h_4 : M_3 t = some (.inr (1, [.int 2, .int a.2.1, .int 0])) := by rw [eM_3]; exact hm_up_s
        refine lv_aload_n S.1 S.2.1 dX0_rise_45 rfl (lv_at hl 0 rfl) ?_
        refine lv_iload_n S.1 S.2.1 dX0_rise_46 rfl (lv_at hl 2 rfl) ?_
        refine hm_put (k := 1) (fs' := [.int 2, .int clk, .int 0]) S hE hG h_4 rfl rfl hi_X00 tyX0_ok nmX0 (by decide) hb_69 rfl rfl (by rfl) (by rfl) (Nat.le_of_ble_eq_true rfl) rfl dX0_rise_47 (fun H locs hG => ?_)
        obtain ⟨M_5, eM_5⟩ : ∃ z, z = hm_up M_3 t (.inr (1, [.int 2, .int clk, .int 0])) := ⟨_, rfl⟩
        rw [← eM_5] at hG
        have h_6 : M_5 t = some (.inr (1, [.int 2, .int clk, .int 0])) := by rw [eM_5]; exact hm_up_s
        exact hm_vret S hG hr hlk (⟨rfl, rfl, by simp_all [hm_up_up, riseF, riseA]⟩) (Nat.le_of_ble_eq_true rfl) (Nat.le_of_ble_eq_true rfl) dX0_rise_50
  · skip
    refine lv_aload_n S.1 S.2.1 dX0_rise_12 rfl (lv_at hl 0 rfl) ?_
    refine lv_iconst (v := 1) S.1 S.2.1 dX0_rise_13 (by decide) ?_
    refine hm_put (k := 0) (fs' := [.int 1, .int a.2.1, .int 0]) S hE hG h_2 rfl rfl hi_X00 tyX0_ok nmX0 (by decide) hb_68 rfl rfl (by rfl) (by rfl) (Nat.le_of_ble_eq_true rfl) rfl dX0_rise_14 (fun H locs hG => ?_)
    obtain ⟨M_7, eM_7⟩ : ∃ z, z = hm_up M_1 t (.inr (1, [.int 1, .int a.2.1, .int 0])) := ⟨_, rfl⟩
    rw [← eM_7] at hG
    have h_8 : M_7 t = some (.inr (1, [.int 1, .int a.2.1, .int 0])) := by rw [eM_7]; exact hm_up_s
    refine lv_aload_n S.1 S.2.1 dX0_rise_17 rfl (lv_at hl 0 rfl) ?_
    refine lv_iload_n S.1 S.2.1 dX0_rise_18 rfl (lv_at hl 2 rfl) ?_
    refine hm_put (k := 1) (fs' := [.int 1, .int clk, .int 0]) S hE hG h_8 rfl rfl hi_X00 tyX0_ok nmX0 (by decide) hb_69 rfl rfl (by rfl) (by rfl) (Nat.le_of_ble_eq_true rfl) rfl dX0_rise_19 (fun H locs hG => ?_)
    obtain ⟨M_9, eM_9⟩ : ∃ z, z = hm_up M_7 t (.inr (1, [.int 1, .int clk, .int 0])) := ⟨_, rfl⟩
    rw [← eM_9] at hG
    have h_10 : M_9 t = some (.inr (1, [.int 1, .int clk, .int 0])) := by rw [eM_9]; exact hm_up_s
    refine lv_aload_n S.1 S.2.1 dX0_rise_22 rfl (lv_at hl 0 rfl) ?_
    refine hm_get (k := 0) S hE hG h_10 rfl rfl hi_X00 (by decide) hb_68 rfl rfl dX0_rise_23 ?_
    refine lv_iconst (v := 1) S.1 S.2.1 dX0_rise_26 (by decide) ?_
    refine lv_icmp_ne (tgt := 50) S.1 S.2.1 dX0_rise_27 (by decide) (fun h9 => absurd h9 (by decide)) (fun _ => ?_)
    refine lv_iload_n S.1 S.2.1 dX0_rise_30 rfl (lv_at hl 2 rfl) ?_
    refine lv_aload_n S.1 S.2.1 dX0_rise_31 rfl (lv_at hl 0 rfl) ?_
    refine hm_get (k := 1) S hE hG h_10 rfl rfl hi_X00 (by decide) hb_69 rfl rfl dX0_rise_32 ?_
    refine lv_isub S.1 S.2.1 dX0_rise_35 ?_
    refine lv_iload_n S.1 S.2.1 dX0_rise_36 rfl (lv_at hl 1 rfl) ?_
    refine lv_icmp_lt (tgt := 50) S.1 S.2.1 dX0_rise_37 (by decide) (fun c37 => ?_) (fun c37 => ?_)
    · skip
      exact hm_vret S hG hr hlk (⟨rfl, rfl, by simp_all [hm_up_up, riseF, riseA]⟩) (Nat.le_of_ble_eq_true rfl) (Nat.le_of_ble_eq_true rfl) dX0_rise_50
    · skip
      refine lv_aload_n S.1 S.2.1 dX0_rise_40 rfl (lv_at hl 0 rfl) ?_
      refine lv_iconst (v := 2) S.1 S.2.1 dX0_rise_41 (by decide) ?_
      refine hm_put (k := 0) (fs' := [.int 2, .int clk, .int 0]) S hE hG h_10 rfl rfl hi_X00 tyX0_ok nmX0 (by decide) hb_68 rfl rfl (by rfl) (by rfl) (Nat.le_of_ble_eq_true rfl) rfl dX0_rise_42 (fun H locs hG => ?_)
      obtain ⟨M_11, eM_11⟩ : ∃ z, z = hm_up M_9 t (.inr (1, [.int 2, .int clk, .int 0])) := ⟨_, rfl⟩
      rw [← eM_11] at hG
      have h_12 : M_11 t = some (.inr (1, [.int 2, .int clk, .int 0])) := by rw [eM_11]; exact hm_up_s
      refine lv_aload_n S.1 S.2.1 dX0_rise_45 rfl (lv_at hl 0 rfl) ?_
      refine lv_iload_n S.1 S.2.1 dX0_rise_46 rfl (lv_at hl 2 rfl) ?_
      refine hm_put (k := 1) (fs' := [.int 2, .int clk, .int 0]) S hE hG h_12 rfl rfl hi_X00 tyX0_ok nmX0 (by decide) hb_69 rfl rfl (by rfl) (by rfl) (Nat.le_of_ble_eq_true rfl) rfl dX0_rise_47 (fun H locs hG => ?_)
      obtain ⟨M_13, eM_13⟩ : ∃ z, z = hm_up M_11 t (.inr (1, [.int 2, .int clk, .int 0])) := ⟨_, rfl⟩
      rw [← eM_13] at hG
      have h_14 : M_13 t = some (.inr (1, [.int 2, .int clk, .int 0])) := by rw [eM_13]; exact hm_up_s
      exact hm_vret S hG hr hlk (⟨rfl, rfl, by simp_all [hm_up_up, riseF, riseA]⟩) (Nat.le_of_ble_eq_true rfl) (Nat.le_of_ble_eq_true rfl) dX0_rise_50

abbrev rm_X0_fall : Room := { frames := 0, cells := 0, slots := 0, locals := 0 }
set_option maxHeartbeats 4000000 in
set_option maxRecDepth 100000 in
theorem c_X0_fall (l : Launch) (g : GV) (ad : AD) (M : CT) (t : TG) (a : AlD) (h1 : M t = some (alE a)) : hm_Met l yX0_fall cX0_fall 1 none rm_X0_fall g ad M [.ref (ad t)] (hm_pU ad (hm_up M t (alE (fallF a))) none) := by
  refine hm_start (own := RX0) (by decide) rfl (Nat.le_of_ble_eq_true rfl) ?_
  intro p e s m args below meth c S hr hlk hnm hE hG ls hl
  have hl : lv_has ls 1 [(0, .ref (ad t))] := hl
  refine lv_aload_n S.1 S.2.1 dX0_fall_0 rfl (lv_at hl 0 rfl) ?_
  refine lv_dup S.1 S.2.1 dX0_fall_1 rfl ?_
  refine hm_get (k := 2) S hE hG h1 rfl rfl hi_X00 (by decide) hb_70 rfl rfl dX0_fall_2 ?_
  refine lv_iconst (v := 1) S.1 S.2.1 dX0_fall_5 (by decide) ?_
  refine lv_iadd S.1 S.2.1 dX0_fall_6 ?_
  refine hm_put (k := 2) (fs' := [.int a.1, .int a.2.1, .int (a.2.2 + 1)]) S hE hG h1 rfl rfl hi_X00 tyX0_ok nmX0 (by decide) hb_70 rfl rfl (by rfl) (by rfl) (Nat.le_of_ble_eq_true rfl) rfl dX0_fall_7 (fun H locs hG => ?_)
  obtain ⟨M_1, eM_1⟩ : ∃ z, z = hm_up M t (.inr (1, [.int a.1, .int a.2.1, .int (a.2.2 + 1)])) := ⟨_, rfl⟩
  rw [← eM_1] at hG
  have h_2 : M_1 t = some (.inr (1, [.int a.1, .int a.2.1, .int (a.2.2 + 1)])) := by rw [eM_1]; exact hm_up_s
  refine lv_aload_n S.1 S.2.1 dX0_fall_10 rfl (lv_at hl 0 rfl) ?_
  refine hm_get (k := 0) S hE hG h_2 rfl rfl hi_X00 (by decide) hb_68 rfl rfl dX0_fall_11 ?_
  refine lv_iconst (v := 2) S.1 S.2.1 dX0_fall_14 (by decide) ?_
  refine lv_icmp_ne (tgt := 26) S.1 S.2.1 dX0_fall_15 (by decide) (fun c15 => ?_) (fun c15 => ?_)
  · skip
    refine lv_aload_n S.1 S.2.1 dX0_fall_26 rfl (lv_at hl 0 rfl) ?_
    refine lv_iconst (v := 0) S.1 S.2.1 dX0_fall_27 (by decide) ?_
    refine hm_put (k := 0) (fs' := [.int 0, .int a.2.1, .int (a.2.2 + 1)]) S hE hG h_2 rfl rfl hi_X00 tyX0_ok nmX0 (by decide) hb_68 rfl rfl (by rfl) (by rfl) (Nat.le_of_ble_eq_true rfl) rfl dX0_fall_28 (fun H locs hG => ?_)
    obtain ⟨M_3, eM_3⟩ : ∃ z, z = hm_up M_1 t (.inr (1, [.int 0, .int a.2.1, .int (a.2.2 + 1)])) := ⟨_, rfl⟩
    rw [← eM_3] at hG
    have h_4 : M_3 t = some (.inr (1, [.int 0, .int a.2.1, .int (a.2.2 + 1)])) := by rw [eM_3]; exact hm_up_s
    refine lv_aload_n S.1 S.2.1 dX0_fall_31 rfl (lv_at hl 0 rfl) ?_
    refine lv_iconst (v := (-1)) S.1 S.2.1 dX0_fall_32 (by decide) ?_
    refine hm_put (k := 1) (fs' := [.int 0, .int (-1), .int (a.2.2 + 1)]) S hE hG h_4 rfl rfl hi_X00 tyX0_ok nmX0 (by decide) hb_69 rfl rfl (by rfl) (by rfl) (Nat.le_of_ble_eq_true rfl) rfl dX0_fall_33 (fun H locs hG => ?_)
    obtain ⟨M_5, eM_5⟩ : ∃ z, z = hm_up M_3 t (.inr (1, [.int 0, .int (-1), .int (a.2.2 + 1)])) := ⟨_, rfl⟩
    rw [← eM_5] at hG
    have h_6 : M_5 t = some (.inr (1, [.int 0, .int (-1), .int (a.2.2 + 1)])) := by rw [eM_5]; exact hm_up_s
    exact hm_vret S hG hr hlk (⟨rfl, rfl, by simp_all [hm_up_up, fallF]⟩) (Nat.le_of_ble_eq_true rfl) (Nat.le_of_ble_eq_true rfl) dX0_fall_36
  · skip
    refine lv_aload_n S.1 S.2.1 dX0_fall_18 rfl (lv_at hl 0 rfl) ?_
    refine hm_get (k := 2) S hE hG h_2 rfl rfl hi_X00 (by decide) hb_70 rfl rfl dX0_fall_19 ?_
    refine lv_iconst (v := 3) S.1 S.2.1 dX0_fall_22 (by decide) ?_
    refine lv_icmp_lt (tgt := 36) S.1 S.2.1 dX0_fall_23 (by decide) (fun c23 => ?_) (fun c23 => ?_)
    · skip
      exact hm_vret S hG hr hlk (⟨rfl, rfl, by simp_all [hm_up_up, fallF]⟩) (Nat.le_of_ble_eq_true rfl) (Nat.le_of_ble_eq_true rfl) dX0_fall_36
    · skip
      refine lv_aload_n S.1 S.2.1 dX0_fall_26 rfl (lv_at hl 0 rfl) ?_
      refine lv_iconst (v := 0) S.1 S.2.1 dX0_fall_27 (by decide) ?_
      refine hm_put (k := 0) (fs' := [.int 0, .int a.2.1, .int (a.2.2 + 1)]) S hE hG h_2 rfl rfl hi_X00 tyX0_ok nmX0 (by decide) hb_68 rfl rfl (by rfl) (by rfl) (Nat.le_of_ble_eq_true rfl) rfl dX0_fall_28 (fun H locs hG => ?_)
      obtain ⟨M_7, eM_7⟩ : ∃ z, z = hm_up M_1 t (.inr (1, [.int 0, .int a.2.1, .int (a.2.2 + 1)])) := ⟨_, rfl⟩
      rw [← eM_7] at hG
      have h_8 : M_7 t = some (.inr (1, [.int 0, .int a.2.1, .int (a.2.2 + 1)])) := by rw [eM_7]; exact hm_up_s
      refine lv_aload_n S.1 S.2.1 dX0_fall_31 rfl (lv_at hl 0 rfl) ?_
      refine lv_iconst (v := (-1)) S.1 S.2.1 dX0_fall_32 (by decide) ?_
      refine hm_put (k := 1) (fs' := [.int 0, .int (-1), .int (a.2.2 + 1)]) S hE hG h_8 rfl rfl hi_X00 tyX0_ok nmX0 (by decide) hb_69 rfl rfl (by rfl) (by rfl) (Nat.le_of_ble_eq_true rfl) rfl dX0_fall_33 (fun H locs hG => ?_)
      obtain ⟨M_9, eM_9⟩ : ∃ z, z = hm_up M_7 t (.inr (1, [.int 0, .int (-1), .int (a.2.2 + 1)])) := ⟨_, rfl⟩
      rw [← eM_9] at hG
      have h_10 : M_9 t = some (.inr (1, [.int 0, .int (-1), .int (a.2.2 + 1)])) := by rw [eM_9]; exact hm_up_s
      exact hm_vret S hG hr hlk (⟨rfl, rfl, by simp_all [hm_up_up, fallF]⟩) (Nat.le_of_ble_eq_true rfl) (Nat.le_of_ble_eq_true rfl) dX0_fall_36
