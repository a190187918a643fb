abbrev rm_X5_past : Room := { frames := 0, cells := 0, slots := 0, locals := 0 }
set_option maxHeartbeats 4000000 in
set_option maxRecDepth 100000 in
theorem c_X5_past (l : Launch) (g : GV) (ad : AD) (M : CT) (i : Nat) (s0 : SeD) (hs : hasSe g ad M i s0) (k b a : Nat) (hk : k < 6) (hb : b < 1000) (ha : a < 1000) : hm_Met l yX5_past cX5_past 5 (some .int) rm_X5_past g ad M [.ref (ad (10, i, 0)), .int (nI k), .int (nI b), .int (nI a)] (hm_pU ad M (some (.int (pastF s0 k b a)))) := by
  refine hm_start (own := RX5) (by decide) rfl (Nat.le_of_ble_eq_true rfl) ?_
  intro p e s m args below meth c S hr hlk hnm hE hG ls hl
  have hl : lv_has ls 5 [(0, .ref (ad (10, i, 0))), (1, .int (nI k)), (2, .int (nI b)), (3, .int (nI a))] := hl
  obtain ⟨h10, h11, h12, h13, hla, hhe, hi⟩ := hs
  refine lv_iload_n S.1 S.2.1 dX5_past_0 rfl (lv_at hl 2 rfl) ?_
  refine lv_iload_n S.1 S.2.1 dX5_past_1 rfl (lv_at hl 3 rfl) ?_
  refine lv_icmp_ge (tgt := 12) S.1 S.2.1 dX5_past_2 (by decide) (fun c2 => ?_) (fun c2 => ?_)
  · skip
    have e2 : a ≤ b := hm_leI (by omega) (by omega) c2
    refine lv_iload_n S.1 S.2.1 dX5_past_12 rfl (lv_at hl 2 rfl) ?_
    refine lv_iload_n S.1 S.2.1 dX5_past_13 rfl (lv_at hl 3 rfl) ?_
    refine lv_isub S.1 S.2.1 dX5_past_14 ?_
    refine hm_top (z := nI (b - a)) (pk_sub e2) ?_
    refine lv_istore (lv' := [(4, .int (nI (b - a))), (0, .ref (ad (10, i, 0))), (1, .int (nI k)), (2, .int (nI b)), (3, .int (nI a))]) S.1 S.2.1 dX5_past_15 hl (by decide) rfl (fun ls hl => ?_)
    refine lv_iload S.1 S.2.1 dX5_past_17 (lv_at hl 0 rfl) ?_
    refine lv_aload_n S.1 S.2.1 dX5_past_19 rfl (lv_at hl 1 rfl) ?_
    refine hm_get (k := 7) S hE hG h10 rfl rfl hi_X50 (by decide) hb_110 rfl rfl dX5_past_20 ?_
    refine lv_icmp_lt (tgt := 28) S.1 S.2.1 dX5_past_23 (by decide) (fun c23 => ?_) (fun c23 => ?_)
    · skip
      have e23 : b - a < sHe s0 := hm_ltI (by omega) (by omega) c23
      refine lv_aload_n S.1 S.2.1 dX5_past_28 rfl (lv_at hl 1 rfl) ?_
      refine hm_get (k := 5) S hE hG h10 rfl rfl hi_X50 (by decide) hb_108 rfl rfl dX5_past_29 ?_
      refine lv_aload_n S.1 S.2.1 dX5_past_32 rfl (lv_at hl 1 rfl) ?_
      refine hm_get (k := 6) S hE hG h10 rfl rfl hi_X50 (by decide) hb_109 rfl rfl dX5_past_33 ?_
      refine lv_iload S.1 S.2.1 dX5_past_36 (lv_at hl 0 rfl) ?_
      refine lv_isub S.1 S.2.1 dX5_past_38 ?_
      refine lv_bipush (v := 13) S.1 S.2.1 dX5_past_39 (by decide) ?_
      refine lv_iadd S.1 S.2.1 dX5_past_41 ?_
      refine hm_top (z := nI (sLa s0 + 13 - (b - a))) (hm_sub13 (by omega)) ?_
      refine lv_bipush (v := 13) S.1 S.2.1 dX5_past_42 (by decide) ?_
      refine lv_irem S.1 S.2.1 dX5_past_44 (by decide) ?_
      refine hm_top (z := nI ((sLa s0 + 13 - (b - a)) % 13)) (hm_rem13 (by omega)) ?_
      refine hm_aldA (q := (ad (13, i, ((sLa s0 + 13 - (b - a)) % 13)))) S hE hG h12 rfl (vp_in_nI (Nat.mod_lt _ (by decide)) (by decide)) (by rw [nI_clamp (Nat.lt_trans (Nat.mod_lt _ (by decide)) (by decide))]; exact if_pos (Nat.mod_lt _ (by decide))) dX5_past_45 ?_
      refine lv_iload_n S.1 S.2.1 dX5_past_46 rfl (lv_at hl 2 rfl) ?_
      refine hm_iald (x := (sRo s0 ((sLa s0 + 13 - (b - a)) % 13)) k) S hE hG (h13 ((sLa s0 + 13 - (b - a)) % 13) (Nat.mod_lt _ (by decide))) rfl (vp_in_nI (hk) (by decide)) (congrArg (sRo s0 ((sLa s0 + 13 - (b - a)) % 13)) (nI_clamp (Nat.lt_trans (hk) (by decide)))) dX5_past_47 ?_
      exact hm_iret S hG hr hlk (⟨by rw [pastF, if_neg (by omega), if_neg (by omega)], rfl, rfl⟩) (Nat.le_of_ble_eq_true rfl) (Nat.le_of_ble_eq_true rfl) dX5_past_48
    · skip
      have e23 : sHe s0 ≤ b - a := hm_nltI (by omega) (by omega) c23
      refine lv_iconst (v := 0) S.1 S.2.1 dX5_past_26 (by decide) ?_
      exact hm_iret S hG hr hlk (⟨by rw [pastF, if_neg (by omega), if_pos e23], rfl, rfl⟩) (Nat.le_of_ble_eq_true rfl) (Nat.le_of_ble_eq_true rfl) dX5_past_27
  · skip
    have e2 : b < a := hm_nleI (by omega) (by omega) c2
    refine lv_aload_n S.1 S.2.1 dX5_past_5 rfl (lv_at hl 0 rfl) ?_
    refine hm_get (k := 4) S hE hG h10 rfl rfl hi_X50 (by decide) hb_106 rfl rfl dX5_past_6 ?_
    refine lv_iload_n S.1 S.2.1 dX5_past_9 rfl (lv_at hl 1 rfl) ?_
    refine hm_iald (x := (sPr s0) k) S hE hG h11 rfl (vp_in_nI (hk) (by decide)) (congrArg (sPr s0) (nI_clamp (Nat.lt_trans (hk) (by decide)))) dX5_past_10 ?_
    exact hm_iret S hG hr hlk (⟨by rw [pastF, if_pos e2], rfl, rfl⟩) (Nat.le_of_ble_eq_true rfl) (Nat.le_of_ble_eq_true rfl) dX5_past_11
