abbrev rm_X6_tell : Room := { frames := 4, cells := 0, slots := 0, locals := 85 }
set_option maxHeartbeats 4000000 in
set_option maxRecDepth 100000 in
theorem c_X6_tell (l : Launch) (g : GV) (ad : AD) (M0 : CT) (z : XD) (hx : hasX g ad M0 z) (i : Nat) (hi9 : i < xS z) (v : Int32) (h1 : ¬ v < 0) (h2 : ¬ 1000 < v) : hm_Met l yX6_tell cX6_tell 5 (some .int) rm_X6_tell g ad M0 [.ref (ad (0, 0, 0)), .int (nI i), .int v] (hm_pX g ad M0 (setSe z i (wPr (xSe z i) (takeP (xSe z i) v))) (some (.int (takeP (xSe z i) v 0)))) := by
  refine hm_start (own := RX6) (by decide) rfl (Nat.le_of_ble_eq_true rfl) ?_
  intro p e s m args below meth c S hr hlk hnm hE hG ls hl
  have hl : lv_has ls 5 [(0, .ref (ad (0, 0, 0))), (1, .int (nI i)), (2, .int v)] := hl
  have hfr : ∀ t : TG, 80 ≤ t.1 → M0 t = M0 t := fun _ _ => rfl
  obtain ⟨hX, hLs, hLr, hLh, h7, hLg, h70, hSe, hRu, hHu, hGr, hS6, hR6, hH5⟩ := id hx
  obtain ⟨fs1, hb1⟩ := hLs.ob
  obtain ⟨fs2, hb2⟩ := hLr.ob
  obtain ⟨fs3, hb3⟩ := hLh.ob
  have h3 : ¬ v < -1000 := fun h => h1 (Int32.lt_trans h (by decide))
  refine lv_aload_n S.1 S.2.1 dX6_tell_0 rfl (lv_at hl 0 rfl) ?_
  refine lv_iload_n S.1 S.2.1 dX6_tell_1 rfl (lv_at hl 1 rfl) ?_
  refine hm_uV (As := [.int (nI i)]) (rest := []) (st1 := [.ref (ad (10, i, 0))]) S hE hG (c_X6_requireSeries l g ad M0 z hx i hi9) (hm_gV hb_242 hb_243 hb_244 hb_2 hb_245) hd_X6_requireSeries rfl hX rfl rfl ⟨Nat.le_of_ble_eq_true rfl, Nat.le_of_ble_eq_true rfl⟩ rfl hl.1 rfl (Nat.le_of_ble_eq_true rfl) dX6_tell_2 ⟨Nat.le_of_ble_eq_true rfl, Nat.le_of_ble_eq_true rfl⟩ rfl (fun H locs hG => ?_)
  refine lv_astore_n (lv' := [(3, .ref (ad (10, i, 0))), (0, .ref (ad (0, 0, 0))), (1, .int (nI i)), (2, .int v)]) S.1 S.2.1 dX6_tell_5 rfl hl (by decide) rfl (fun ls hl => ?_)
  refine lv_aload_n S.1 S.2.1 dX6_tell_6 rfl (lv_at hl 0 rfl) ?_
  refine hm_get (k := 1) S hE hG (hSe i hi9).1 rfl rfl hi_X50 (by decide) hb_240 rfl rfl dX6_tell_7 ?_
  refine lv_iconst (v := 1) S.1 S.2.1 dX6_tell_10 (by decide) ?_
  refine lv_icmp_ne (tgt := 20) S.1 S.2.1 dX6_tell_11 (by decide) (fun c11 => ?_) (fun c11 => ?_)
  · skip
    refine lv_iconst (v := 0) S.1 S.2.1 dX6_tell_20 (by decide) ?_
    refine lv_istore (lv' := [(4, .int 0), (3, .ref (ad (10, i, 0))), (0, .ref (ad (0, 0, 0))), (1, .int (nI i)), (2, .int v)]) S.1 S.2.1 dX6_tell_21 hl (by decide) rfl (fun ls hl => ?_)
    refine lv_iload_n S.1 S.2.1 dX6_tell_23 rfl (lv_at hl 4 rfl) ?_
    refine lv_iload S.1 S.2.1 dX6_tell_24 (lv_at hl 0 rfl) ?_
    refine lv_sipush (v := 1000) S.1 S.2.1 dX6_tell_26 (by decide) ?_
    refine hm_uS (As := [.int v, .int 0, .int 1000]) (rest := []) (st1 := [.int (bI (decide (v < 0) || decide (1000 < v)))]) S hE hG (c_X6_isOutside l g ad M0 v 0 1000) (hm_gS hb_91 hb_92 hb_2 hb_93) hd_X6_isOutside ⟨Nat.le_of_ble_eq_true rfl, Nat.le_of_ble_eq_true rfl⟩ rfl hl.1 rfl (Nat.le_of_ble_eq_true rfl) dX6_tell_29 ⟨Nat.le_of_ble_eq_true rfl, Nat.le_of_ble_eq_true rfl⟩ rfl (fun H locs hG => ?_)
    refine lv_if_eq (tgt := 45) S.1 S.2.1 dX6_tell_32 (by decide) (fun _ => ?_) (fun h9 => absurd (hm_in0' h1 h2) h9)
    refine lv_aload_n S.1 S.2.1 dX6_tell_45 rfl (lv_at hl 1 rfl) ?_
    refine lv_iload_n S.1 S.2.1 dX6_tell_46 rfl (lv_at hl 4 rfl) ?_
    have hso := (hSe i hi9).1
    refine hm_uV (As := [.int v]) (rest := []) (st1 := []) S hE hG (c_X5_take l g ad M0 i (xSe z i) (hSe i hi9) v) (hm_gV hb_247 hb_248 hb_249 hb_90 hb_250) hd_X5_take rfl (hSe i hi9).1 rfl rfl ⟨Nat.le_of_ble_eq_true rfl, Nat.le_of_ble_eq_true rfl⟩ rfl hl.1 rfl (Nat.le_of_ble_eq_true rfl) dX6_tell_47 ⟨Nat.le_of_ble_eq_true rfl, Nat.le_of_ble_eq_true rfl⟩ rfl (fun H locs hG => ?_)
    obtain ⟨M_1, eM_1⟩ : ∃ q9, q9 = hm_up M0 (11, i, 0) (hm_ia g 6 (takeP (xSe z i) v)) := ⟨_, rfl⟩
    have hG : hm_G g ad M_1 s.heap H locs := by rw [eM_1]; exact hG
    have hx : hasX g ad M_1 (setSe z i (wPr (xSe z i) (takeP (xSe z i) v))) := by rw [eM_1]; exact hx.ser i _ (fun h => pres_has _ (hSe i h)) (fun t h1 h2 h3 => hm_up_n h2)
    have hfr : ∀ t : TG, 80 ≤ t.1 → M_1 t = M0 t := fun t ht => by rw [eM_1]; exact (cl_up (by simp) ht).trans (hfr t ht)
    obtain ⟨hX, hLs, hLr, hLh, h7, hLg, h70, hSe, hRu, hHu, hGr, hS6, hR6, hH5⟩ := id hx
    obtain ⟨fs1, hb1⟩ := hLs.ob
    obtain ⟨fs2, hb2⟩ := hLr.ob
    obtain ⟨fs3, hb3⟩ := hLh.ob
    have hpr : M_1 (11, i, 0) = some (hm_ia g 6 (takeP (xSe z i) v)) := by rw [eM_1]; exact hm_up_s
    have hso : M_1 (10, i, 0) = some (seE ad i (xSe z i)) := by rw [eM_1]; exact (hm_up_n (by simp)).trans hso
    refine lv_aload_n S.1 S.2.1 dX6_tell_50 rfl (lv_at hl 1 rfl) ?_
    refine hm_get (k := 4) S hE hG hso rfl rfl hi_X50 (by decide) hb_241 rfl rfl dX6_tell_51 ?_
    refine lv_iconst (v := 0) S.1 S.2.1 dX6_tell_54 (by decide) ?_
    refine hm_iald (x := (takeP (xSe z i) v) 0) S hE hG hpr rfl (by unfold vp_in; decide) (congrArg (takeP (xSe z i) v) (by decide)) dX6_tell_55 ?_
    exact hm_iret S hG hr hlk (⟨rfl, rfl, hx, hfr⟩) (Nat.le_of_ble_eq_true rfl) (Nat.le_of_ble_eq_true rfl) dX6_tell_56
  · skip
    refine lv_sipush (v := (-1000)) S.1 S.2.1 dX6_tell_14 (by decide) ?_
    refine lv_goto (tgt := 21) S.1 S.2.1 dX6_tell_17 (by decide) ?_
    refine lv_istore (lv' := [(4, .int (-1000)), (3, .ref (ad (10, i, 0))), (0, .ref (ad (0, 0, 0))), (1, .int (nI i)), (2, .int v)]) S.1 S.2.1 dX6_tell_21 hl (by decide) rfl (fun ls hl => ?_)
    refine lv_iload_n S.1 S.2.1 dX6_tell_23 rfl (lv_at hl 4 rfl) ?_
    refine lv_iload S.1 S.2.1 dX6_tell_24 (lv_at hl 0 rfl) ?_
    refine lv_sipush (v := 1000) S.1 S.2.1 dX6_tell_26 (by decide) ?_
    refine hm_uS (As := [.int v, .int (-1000), .int 1000]) (rest := []) (st1 := [.int (bI (decide (v < (-1000)) || decide (1000 < v)))]) S hE hG (c_X6_isOutside l g ad M0 v (-1000) 1000) (hm_gS hb_91 hb_92 hb_2 hb_93) hd_X6_isOutside ⟨Nat.le_of_ble_eq_true rfl, Nat.le_of_ble_eq_true rfl⟩ rfl hl.1 rfl (Nat.le_of_ble_eq_true rfl) dX6_tell_29 ⟨Nat.le_of_ble_eq_true rfl, Nat.le_of_ble_eq_true rfl⟩ rfl (fun H locs hG => ?_)
    refine lv_if_eq (tgt := 45) S.1 S.2.1 dX6_tell_32 (by decide) (fun _ => ?_) (fun h9 => absurd (hm_in0' h3 h2) h9)
    refine lv_aload_n S.1 S.2.1 dX6_tell_45 rfl (lv_at hl 1 rfl) ?_
    refine lv_iload_n S.1 S.2.1 dX6_tell_46 rfl (lv_at hl 4 rfl) ?_
    have hso := (hSe i hi9).1
    refine hm_uV (As := [.int v]) (rest := []) (st1 := []) S hE hG (c_X5_take l g ad M0 i (xSe z i) (hSe i hi9) v) (hm_gV hb_247 hb_248 hb_249 hb_90 hb_250) hd_X5_take rfl (hSe i hi9).1 rfl rfl ⟨Nat.le_of_ble_eq_true rfl, Nat.le_of_ble_eq_true rfl⟩ rfl hl.1 rfl (Nat.le_of_ble_eq_true rfl) dX6_tell_47 ⟨Nat.le_of_ble_eq_true rfl, Nat.le_of_ble_eq_true rfl⟩ rfl (fun H locs hG => ?_)
    obtain ⟨M_2, eM_2⟩ : ∃ q9, q9 = hm_up M0 (11, i, 0) (hm_ia g 6 (takeP (xSe z i) v)) := ⟨_, rfl⟩
    have hG : hm_G g ad M_2 s.heap H locs := by rw [eM_2]; exact hG
    have hx : hasX g ad M_2 (setSe z i (wPr (xSe z i) (takeP (xSe z i) v))) := by rw [eM_2]; exact hx.ser i _ (fun h => pres_has _ (hSe i h)) (fun t h1 h2 h3 => hm_up_n h2)
    have hfr : ∀ t : TG, 80 ≤ t.1 → M_2 t = M0 t := fun t ht => by rw [eM_2]; exact (cl_up (by simp) ht).trans (hfr t ht)
    obtain ⟨hX, hLs, hLr, hLh, h7, hLg, h70, hSe, hRu, hHu, hGr, hS6, hR6, hH5⟩ := id hx
    obtain ⟨fs1, hb1⟩ := hLs.ob
    obtain ⟨fs2, hb2⟩ := hLr.ob
    obtain ⟨fs3, hb3⟩ := hLh.ob
    have hpr : M_2 (11, i, 0) = some (hm_ia g 6 (takeP (xSe z i) v)) := by rw [eM_2]; exact hm_up_s
    have hso : M_2 (10, i, 0) = some (seE ad i (xSe z i)) := by rw [eM_2]; exact (hm_up_n (by simp)).trans hso
    refine lv_aload_n S.1 S.2.1 dX6_tell_50 rfl (lv_at hl 1 rfl) ?_
    refine hm_get (k := 4) S hE hG hso rfl rfl hi_X50 (by decide) hb_241 rfl rfl dX6_tell_51 ?_
    refine lv_iconst (v := 0) S.1 S.2.1 dX6_tell_54 (by decide) ?_
    refine hm_iald (x := (takeP (xSe z i) v) 0) S hE hG hpr rfl (by unfold vp_in; decide) (congrArg (takeP (xSe z i) v) (by decide)) dX6_tell_55 ?_
    exact hm_iret S hG hr hlk (⟨rfl, rfl, hx, hfr⟩) (Nat.le_of_ble_eq_true rfl) (Nat.le_of_ble_eq_true rfl) dX6_tell_56

abbrev rm_X6_reset : Room := { frames := 4, cells := 0, slots := 0, locals := 85 }
set_option maxHeartbeats 4000000 in
set_option maxRecDepth 100000 in
theorem c_X6_reset (l : Launch) (g : GV) (ad : AD) (M0 : CT) (z : XD) (hx : hasX g ad M0 z) (i : Nat) (hi9 : i < xS z) : hm_Met l yX6_reset cX6_reset 4 (some .int) rm_X6_reset g ad M0 [.ref (ad (0, 0, 0)), .int (nI i)] (hm_pX g ad M0 (setSe z i (wPr (xSe z i) (zeroP (sPr (xSe z i))))) (some (.int (sPr (xSe z i) 0)))) := by
  refine hm_start (own := RX6) (by decide) rfl (Nat.le_of_ble_eq_true rfl) ?_
  intro p e s m args below meth c S hr hlk hnm hE hG ls hl
  have hl : lv_has ls 4 [(0, .ref (ad (0, 0, 0))), (1, .int (nI i))] := hl
  have hfr : ∀ t : TG, 80 ≤ t.1 → M0 t = M0 t := fun _ _ => rfl
  obtain ⟨hX, hLs, hLr, hLh, h7, hLg, h70, hSe, hRu, hHu, hGr, hS6, hR6, hH5⟩ := id hx
  obtain ⟨fs1, hb1⟩ := hLs.ob
  obtain ⟨fs2, hb2⟩ := hLr.ob
  obtain ⟨fs3, hb3⟩ := hLh.ob
  refine lv_aload_n S.1 S.2.1 dX6_reset_0 rfl (lv_at hl 0 rfl) ?_
  refine lv_iload_n S.1 S.2.1 dX6_reset_1 rfl (lv_at hl 1 rfl) ?_
  refine hm_uV (As := [.int (nI i)]) (rest := []) (st1 := [.ref (ad (10, i, 0))]) S hE hG (c_X6_requireSeries l g ad M0 z hx i hi9) (hm_gV hb_242 hb_243 hb_244 hb_2 hb_245) hd_X6_requireSeries rfl hX rfl rfl ⟨Nat.le_of_ble_eq_true rfl, Nat.le_of_ble_eq_true rfl⟩ rfl hl.1 rfl (Nat.le_of_ble_eq_true rfl) dX6_reset_2 ⟨Nat.le_of_ble_eq_true rfl, Nat.le_of_ble_eq_true rfl⟩ rfl (fun H locs hG => ?_)
  refine lv_astore_n (lv' := [(2, .ref (ad (10, i, 0))), (0, .ref (ad (0, 0, 0))), (1, .int (nI i))]) S.1 S.2.1 dX6_reset_5 rfl hl (by decide) rfl (fun ls hl => ?_)
  refine lv_aload_n S.1 S.2.1 dX6_reset_6 rfl (lv_at hl 0 rfl) ?_
  refine hm_get (k := 4) S hE hG (hSe i hi9).1 rfl rfl hi_X50 (by decide) hb_241 rfl rfl dX6_reset_7 ?_
  refine lv_iconst (v := 0) S.1 S.2.1 dX6_reset_10 (by decide) ?_
  refine hm_iald (x := (sPr (xSe z i)) 0) S hE hG (hSe i hi9).2.1 rfl (by unfold vp_in; decide) (congrArg (sPr (xSe z i)) (by decide)) dX6_reset_11 ?_
  refine lv_istore_n (lv' := [(3, .int ((sPr (xSe z i)) 0)), (2, .ref (ad (10, i, 0))), (0, .ref (ad (0, 0, 0))), (1, .int (nI i))]) S.1 S.2.1 dX6_reset_12 rfl hl (by decide) rfl (fun ls hl => ?_)
  refine lv_aload_n S.1 S.2.1 dX6_reset_13 rfl (lv_at hl 1 rfl) ?_
  refine hm_uV (As := []) (rest := []) (st1 := []) S hE hG (c_X5_beginAnew l g ad M0 i (xSe z i) (hSe i hi9)) (hm_gV hb_258 hb_259 hb_260 hb_90 hb_261) hd_X5_beginAnew rfl (hSe i hi9).1 rfl rfl ⟨Nat.le_of_ble_eq_true rfl, Nat.le_of_ble_eq_true rfl⟩ rfl hl.1 rfl (Nat.le_of_ble_eq_true rfl) dX6_reset_14 ⟨Nat.le_of_ble_eq_true rfl, Nat.le_of_ble_eq_true rfl⟩ rfl (fun H locs hG => ?_)
  obtain ⟨M_1, eM_1⟩ : ∃ q9, q9 = hm_up M0 (11, i, 0) (hm_ia g 6 (zeroP (sPr (xSe z i)))) := ⟨_, rfl⟩
  have hG : hm_G g ad M_1 s.heap H locs := by rw [eM_1]; exact hG
  have hx : hasX g ad M_1 (setSe z i (wPr (xSe z i) (zeroP (sPr (xSe z i))))) := by rw [eM_1]; exact hx.ser i _ (fun h => pres_has _ (hSe i h)) (fun t h1 h2 h3 => hm_up_n h2)
  have hfr : ∀ t : TG, 80 ≤ t.1 → M_1 t = M0 t := fun t ht => by rw [eM_1]; exact (cl_up (by simp) ht).trans (hfr t ht)
  obtain ⟨hX, hLs, hLr, hLh, h7, hLg, h70, hSe, hRu, hHu, hGr, hS6, hR6, hH5⟩ := id hx
  obtain ⟨fs1, hb1⟩ := hLs.ob
  obtain ⟨fs2, hb2⟩ := hLr.ob
  obtain ⟨fs3, hb3⟩ := hLh.ob
  refine lv_iload_n S.1 S.2.1 dX6_reset_17 rfl (lv_at hl 0 rfl) ?_
  exact hm_iret S hG hr hlk (⟨rfl, rfl, hx, hfr⟩) (Nat.le_of_ble_eq_true rfl) (Nat.le_of_ble_eq_true rfl) dX6_reset_18

abbrev rm_X6_setRule : Room := { frames := 4, cells := 0, slots := 0, locals := 85 }
set_option maxHeartbeats 4000000 in
set_option maxRecDepth 100000 in
theorem c_X6_setRule (l : Launch) (g : GV) (ad : AD) (M0 : CT) (z : XD) (hx : hasX g ad M0 z) (r : Nat) (hr9 : r < xR z) (v1 v2 v3 : Int32) (h1 : ¬ v1 < -10000) (h2 : ¬ 10000 < v1) (h3 : ¬ v2 < 0) (h4 : ¬ 20 < v2) (h5 : ¬ v3 < 0) (h6 : ¬ 3 < v3) : hm_Met l yX6_setRule cX6_setRule 7 (some .int) rm_X6_setRule g ad M0 [.ref (ad (0, 0, 0)), .int (nI r), .int v1, .int v2, .int v3] (hm_pX g ad M0 (setRu z r (wLi (xRu z r) v1 v2 v3)) (some (.int (rLi (xRu z r))))) := by
  refine hm_start (own := RX6) (by decide) rfl (Nat.le_of_ble_eq_true rfl) ?_
  intro p e s m args below meth c S hr hlk hnm hE hG ls hl
  have hl : lv_has ls 7 [(0, .ref (ad (0, 0, 0))), (1, .int (nI r)), (2, .int v1), (3, .int v2), (4, .int v3)] := hl
  have hfr : ∀ t : TG, 80 ≤ t.1 → M0 t = M0 t := fun _ _ => rfl
  obtain ⟨hX, hLs, hLr, hLh, h7, hLg, h70, hSe, hRu, hHu, hGr, hS6, hR6, hH5⟩ := id hx
  obtain ⟨fs1, hb1⟩ := hLs.ob
  obtain ⟨fs2, hb2⟩ := hLr.ob
  obtain ⟨fs3, hb3⟩ := hLh.ob
  refine lv_aload_n S.1 S.2.1 dX6_setRule_0 rfl (lv_at hl 0 rfl) ?_
  refine lv_iload_n S.1 S.2.1 dX6_setRule_1 rfl (lv_at hl 1 rfl) ?_
  refine hm_uV (As := [.int (nI r)]) (rest := []) (st1 := [.ref (ad (20, r, 0))]) S hE hG (c_X6_requireRule l g ad M0 z hx r hr9) (hm_gV hb_201 hb_202 hb_203 hb_2 hb_204) hd_X6_requireRule rfl hX rfl rfl ⟨Nat.le_of_ble_eq_true rfl, Nat.le_of_ble_eq_true rfl⟩ rfl hl.1 rfl (Nat.le_of_ble_eq_true rfl) dX6_setRule_2 ⟨Nat.le_of_ble_eq_true rfl, Nat.le_of_ble_eq_true rfl⟩ rfl (fun H locs hG => ?_)
  refine lv_astore (lv' := [(5, .ref (ad (20, r, 0))), (0, .ref (ad (0, 0, 0))), (1, .int (nI r)), (2, .int v1), (3, .int v2), (4, .int v3)]) S.1 S.2.1 dX6_setRule_5 hl (by decide) rfl (fun ls hl => ?_)
  refine lv_iload_n S.1 S.2.1 dX6_setRule_7 rfl (lv_at hl 3 rfl) ?_
  refine hm_uS (As := [.int v1]) (rest := []) (st1 := []) S hE hG (c_X6_requireLimit l g ad M0 v1 (h1) (h2)) (hm_gS hb_179 hb_180 hb_2 hb_181) hd_X6_requireLimit ⟨Nat.le_of_ble_eq_true rfl, Nat.le_of_ble_eq_true rfl⟩ rfl hl.1 rfl (Nat.le_of_ble_eq_true rfl) dX6_setRule_8 ⟨Nat.le_of_ble_eq_true rfl, Nat.le_of_ble_eq_true rfl⟩ rfl (fun H locs hG => ?_)
  refine lv_iload_n S.1 S.2.1 dX6_setRule_11 rfl (lv_at hl 4 rfl) ?_
  refine lv_iconst (v := 0) S.1 S.2.1 dX6_setRule_12 (by decide) ?_
  refine lv_bipush (v := 20) S.1 S.2.1 dX6_setRule_13 (by decide) ?_
  refine hm_uS (As := [.int v2, .int 0, .int 20]) (rest := []) (st1 := [.int (bI (decide (v2 < 0) || decide (20 < v2)))]) S hE hG (c_X6_isOutside l g ad M0 v2 0 20) (hm_gS hb_91 hb_92 hb_2 hb_93) hd_X6_isOutside ⟨Nat.le_of_ble_eq_true rfl, Nat.le_of_ble_eq_true rfl⟩ rfl hl.1 rfl (Nat.le_of_ble_eq_true rfl) dX6_setRule_15 ⟨Nat.le_of_ble_eq_true rfl, Nat.le_of_ble_eq_true rfl⟩ rfl (fun H locs hG => ?_)
  refine lv_if_eq (tgt := 31) S.1 S.2.1 dX6_setRule_18 (by decide) (fun _ => ?_) (fun h9 => absurd (hm_in0' h3 h4) h9)
  refine lv_iload S.1 S.2.1 dX6_setRule_31 (lv_at hl 5 rfl) ?_
  refine lv_iconst (v := 0) S.1 S.2.1 dX6_setRule_33 (by decide) ?_
  refine lv_iconst (v := 3) S.1 S.2.1 dX6_setRule_34 (by decide) ?_
  refine hm_uS (As := [.int v3, .int 0, .int 3]) (rest := []) (st1 := [.int (bI (decide (v3 < 0) || decide (3 < v3)))]) S hE hG (c_X6_isOutside l g ad M0 v3 0 3) (hm_gS hb_91 hb_92 hb_2 hb_93) hd_X6_isOutside ⟨Nat.le_of_ble_eq_true rfl, Nat.le_of_ble_eq_true rfl⟩ rfl hl.1 rfl (Nat.le_of_ble_eq_true rfl) dX6_setRule_35 ⟨Nat.le_of_ble_eq_true rfl, Nat.le_of_ble_eq_true rfl⟩ rfl (fun H locs hG => ?_)
  refine lv_if_eq (tgt := 51) S.1 S.2.1 dX6_setRule_38 (by decide) (fun _ => ?_) (fun h9 => absurd (hm_in0' h5 h6) h9)
  refine lv_aload S.1 S.2.1 dX6_setRule_51 (lv_at hl 0 rfl) ?_
  refine hm_get (k := 6) S hE hG (hRu r hr9).1 rfl rfl hi_X40 (by decide) hb_171 rfl rfl dX6_setRule_53 ?_
  refine lv_istore (lv' := [(6, .int (rLi (xRu z r))), (5, .ref (ad (20, r, 0))), (0, .ref (ad (0, 0, 0))), (1, .int (nI r)), (2, .int v1), (3, .int v2), (4, .int v3)]) S.1 S.2.1 dX6_setRule_56 hl (by decide) rfl (fun ls hl => ?_)
  refine lv_aload S.1 S.2.1 dX6_setRule_58 (lv_at hl 1 rfl) ?_
  refine lv_iload_n S.1 S.2.1 dX6_setRule_60 rfl (lv_at hl 4 rfl) ?_
  refine hm_put (k := 6) (fs' := [.int (nI r), .int (rMe (xRu z r)), .int (nI (rLo (xRu z r))), .int (nI (rW (xRu z r))), .int (nI (rWa (xRu z r))), .int (bI (rAb (xRu z r))), .int v1, .int (rWt (xRu z r)), .int (rRk (xRu z r)), .ref (ad (21, r, 0))]) S hE hG (hRu r hr9).1 rfl rfl hi_X40 tyX4_ok nmX4 (by decide) hb_171 rfl rfl (by rfl) (by rfl) (Nat.le_of_ble_eq_true rfl) rfl dX6_setRule_61 (fun H locs hG => ?_)
  obtain ⟨M_1, eM_1⟩ : ∃ q9, q9 = hm_up M0 (20, r, 0) (.inr (5, [.int (nI r), .int (rMe (xRu z r)), .int (nI (rLo (xRu z r))), .int (nI (rW (xRu z r))), .int (nI (rWa (xRu z r))), .int (bI (rAb (xRu z r))), .int v1, .int (rWt (xRu z r)), .int (rRk (xRu z r)), .ref (ad (21, r, 0))])) := ⟨_, rfl⟩
  rw [← eM_1] at hG
  have h_2 : M_1 (0, 0, 0) = some (.inr (7, [.ref (ad (1, 0, 0)), .ref (ad (2, 0, 0)), .ref (ad (3, 0, 0)), .ref (ad (7, 0, 0)), .ref (ad (8, 0, 0)), .ref (ad (70, 0, 0)), .int (nI (xC z)), .int (nI (xG z)), .int (nI (xP z))])) := by rw [eM_1]; exact (hm_up_n (by simp)).trans hX
  have h_3 : M_1 (1, 0, 0) = some (.inr (0, fs1)) := by rw [eM_1]; exact (hm_up_n (by simp)).trans hb1
  have h_4 : M_1 (2, 0, 0) = some (.inr (0, fs2)) := by rw [eM_1]; exact (hm_up_n (by simp)).trans hb2
  have h_5 : M_1 (3, 0, 0) = some (.inr (0, fs3)) := by rw [eM_1]; exact (hm_up_n (by simp)).trans hb3
  have h_6 : M_1 (7, 0, 0) = some (hm_ra g 1 7 (grpA ad)) := by rw [eM_1]; exact (hm_up_n (by simp)).trans h7
  have h_7 : M_1 (8, 0, 0) = some (.inr (4, [.ref (ad (9, 0, 0)), .int (nI (lLa (xL z))), .int (nI (lHe (xL z))), .int (nI (lEv (xL z)))])) := by rw [eM_1]; exact (hm_up_n (by simp)).trans hLg.1
  have h_8 : M_1 (20, r, 0) = some (.inr (5, [.int (nI r), .int (rMe (xRu z r)), .int (nI (rLo (xRu z r))), .int (nI (rW (xRu z r))), .int (nI (rWa (xRu z r))), .int (bI (rAb (xRu z r))), .int v1, .int (rWt (xRu z r)), .int (rRk (xRu z r)), .ref (ad (21, r, 0))])) := by rw [eM_1]; exact hm_up_s
  refine lv_aload S.1 S.2.1 dX6_setRule_64 (lv_at hl 1 rfl) ?_
  refine lv_iload_n S.1 S.2.1 dX6_setRule_66 rfl (lv_at hl 5 rfl) ?_
  refine hm_put (k := 7) (fs' := [.int (nI r), .int (rMe (xRu z r)), .int (nI (rLo (xRu z r))), .int (nI (rW (xRu z r))), .int (nI (rWa (xRu z r))), .int (bI (rAb (xRu z r))), .int v1, .int v2, .int (rRk (xRu z r)), .ref (ad (21, r, 0))]) S hE hG h_8 rfl rfl hi_X40 tyX4_ok nmX4 (by decide) hb_199 rfl rfl (by rfl) (by rfl) (Nat.le_of_ble_eq_true rfl) rfl dX6_setRule_67 (fun H locs hG => ?_)
  obtain ⟨M_9, eM_9⟩ : ∃ q9, q9 = hm_up M_1 (20, r, 0) (.inr (5, [.int (nI r), .int (rMe (xRu z r)), .int (nI (rLo (xRu z r))), .int (nI (rW (xRu z r))), .int (nI (rWa (xRu z r))), .int (bI (rAb (xRu z r))), .int v1, .int v2, .int (rRk (xRu z r)), .ref (ad (21, r, 0))])) := ⟨_, rfl⟩
  rw [← eM_9] at hG
  have h_10 : M_9 (0, 0, 0) = some (.inr (7, [.ref (ad (1, 0, 0)), .ref (ad (2, 0, 0)), .ref (ad (3, 0, 0)), .ref (ad (7, 0, 0)), .ref (ad (8, 0, 0)), .ref (ad (70, 0, 0)), .int (nI (xC z)), .int (nI (xG z)), .int (nI (xP z))])) := by rw [eM_9]; exact (hm_up_n (by simp)).trans h_2
  have h_11 : M_9 (1, 0, 0) = some (.inr (0, fs1)) := by rw [eM_9]; exact (hm_up_n (by simp)).trans h_3
  have h_12 : M_9 (2, 0, 0) = some (.inr (0, fs2)) := by rw [eM_9]; exact (hm_up_n (by simp)).trans h_4
  have h_13 : M_9 (3, 0, 0) = some (.inr (0, fs3)) := by rw [eM_9]; exact (hm_up_n (by simp)).trans h_5
  have h_14 : M_9 (7, 0, 0) = some (hm_ra g 1 7 (grpA ad)) := by rw [eM_9]; exact (hm_up_n (by simp)).trans h_6
  have h_15 : M_9 (8, 0, 0) = some (.inr (4, [.ref (ad (9, 0, 0)), .int (nI (lLa (xL z))), .int (nI (lHe (xL z))), .int (nI (lEv (xL z)))])) := by rw [eM_9]; exact (hm_up_n (by simp)).trans h_7
  have h_16 : M_9 (20, r, 0) = some (.inr (5, [.int (nI r), .int (rMe (xRu z r)), .int (nI (rLo (xRu z r))), .int (nI (rW (xRu z r))), .int (nI (rWa (xRu z r))), .int (bI (rAb (xRu z r))), .int v1, .int v2, .int (rRk (xRu z r)), .ref (ad (21, r, 0))])) := by rw [eM_9]; exact hm_up_s
  refine lv_aload S.1 S.2.1 dX6_setRule_70 (lv_at hl 1 rfl) ?_
  refine lv_iload S.1 S.2.1 dX6_setRule_72 (lv_at hl 6 rfl) ?_
  refine hm_put (k := 8) (fs' := [.int (nI r), .int (rMe (xRu z r)), .int (nI (rLo (xRu z r))), .int (nI (rW (xRu z r))), .int (nI (rWa (xRu z r))), .int (bI (rAb (xRu z r))), .int v1, .int v2, .int v3, .ref (ad (21, r, 0))]) S hE hG h_16 rfl rfl hi_X40 tyX4_ok nmX4 (by decide) hb_200 rfl rfl (by rfl) (by rfl) (Nat.le_of_ble_eq_true rfl) rfl dX6_setRule_74 (fun H locs hG => ?_)
  obtain ⟨M_17, eM_17⟩ : ∃ q9, q9 = hm_up M_9 (20, r, 0) (.inr (5, [.int (nI r), .int (rMe (xRu z r)), .int (nI (rLo (xRu z r))), .int (nI (rW (xRu z r))), .int (nI (rWa (xRu z r))), .int (bI (rAb (xRu z r))), .int v1, .int v2, .int v3, .ref (ad (21, r, 0))])) := ⟨_, rfl⟩
  rw [← eM_17] at hG
  have h_18 : M_17 (0, 0, 0) = some (.inr (7, [.ref (ad (1, 0, 0)), .ref (ad (2, 0, 0)), .ref (ad (3, 0, 0)), .ref (ad (7, 0, 0)), .ref (ad (8, 0, 0)), .ref (ad (70, 0, 0)), .int (nI (xC z)), .int (nI (xG z)), .int (nI (xP z))])) := by rw [eM_17]; exact (hm_up_n (by simp)).trans h_10
  have h_19 : M_17 (1, 0, 0) = some (.inr (0, fs1)) := by rw [eM_17]; exact (hm_up_n (by simp)).trans h_11
  have h_20 : M_17 (2, 0, 0) = some (.inr (0, fs2)) := by rw [eM_17]; exact (hm_up_n (by simp)).trans h_12
  have h_21 : M_17 (3, 0, 0) = some (.inr (0, fs3)) := by rw [eM_17]; exact (hm_up_n (by simp)).trans h_13
  have h_22 : M_17 (7, 0, 0) = some (hm_ra g 1 7 (grpA ad)) := by rw [eM_17]; exact (hm_up_n (by simp)).trans h_14
  have h_23 : M_17 (8, 0, 0) = some (.inr (4, [.ref (ad (9, 0, 0)), .int (nI (lLa (xL z))), .int (nI (lHe (xL z))), .int (nI (lEv (xL z)))])) := by rw [eM_17]; exact (hm_up_n (by simp)).trans h_15
  have h_24 : M_17 (20, r, 0) = some (.inr (5, [.int (nI r), .int (rMe (xRu z r)), .int (nI (rLo (xRu z r))), .int (nI (rW (xRu z r))), .int (nI (rWa (xRu z r))), .int (bI (rAb (xRu z r))), .int v1, .int v2, .int v3, .ref (ad (21, r, 0))])) := by rw [eM_17]; exact hm_up_s
  refine lv_iload S.1 S.2.1 dX6_setRule_77 (lv_at hl 0 rfl) ?_
  exact hm_iret S hG hr hlk (⟨rfl, rfl, by subst_vars; simp only [hm_up_up]; exact hx.rul r (wLi (xRu z r) v1 v2 v3) (hRu r hr9).2.2.2.2.1 (hRu r hr9).2.2.2.2.2.1 (hRu r hr9).2.2.2.2.2.2, fun t ht => by subst_vars; simp only [hm_up_up]; exact cl_up (by simp) ht⟩) (Nat.le_of_ble_eq_true rfl) (Nat.le_of_ble_eq_true rfl) dX6_setRule_79

abbrev rm_X6_forgetGroups : Room := { frames := 1, cells := 0, slots := 0, locals := 21 }
set_option maxHeartbeats 4000000 in
set_option maxRecDepth 100000 in
theorem c_X6_forgetGroups (l : Launch) (g : GV) (ad : AD) (M0 : CT) (z : XD) (hx : hasX g ad M0 z) : hm_Met l yX6_forgetGroups cX6_forgetGroups 2 none rm_X6_forgetGroups g ad M0 [.ref (ad (0, 0, 0))] (hm_pX g ad M0 (wGr z (gc z fgF 7)) none) := by
  refine hm_start (own := RX6) (by decide) rfl (Nat.le_of_ble_eq_true rfl) ?_
  intro p e s m args below meth c S hr hlk hnm hE hG ls hl
  have hl : lv_has ls 2 [(0, .ref (ad (0, 0, 0)))] := hl
  have hfr : ∀ t : TG, 80 ≤ t.1 → M0 t = M0 t := fun _ _ => rfl
  obtain ⟨hX, hLs, hLr, hLh, h7, hLg, h70, hSe, hRu, hHu, hGr, hS6, hR6, hH5⟩ := id hx
  obtain ⟨fs1, hb1⟩ := hLs.ob
  obtain ⟨fs2, hb2⟩ := hLr.ob
  obtain ⟨fs3, hb3⟩ := hLh.ob
  refine lv_iconst (v := 0) S.1 S.2.1 dX6_forgetGroups_0 (by decide) ?_
  refine lv_istore_n (lv' := [(1, .int 0), (0, .ref (ad (0, 0, 0)))]) S.1 S.2.1 dX6_forgetGroups_1 rfl hl (by decide) rfl (fun ls hl => ?_)
  have L2_0 : ∀ (n : Nat) (j : Nat) (Mk : CT), n + j = 7 → hasX g ad Mk (wGr z (gc z fgF j)) → (∀ t : TG, 80 ≤ t.1 → Mk t = M0 t) → ∀ (H : Heap) (locs : List Loc) (ls : Array Slot), hm_G g ad Mk s.heap H locs → lv_has ls 2 [(0, .ref (ad (0, 0, 0))), (1, .int (nI j))] → W p l e rm_X6_forgetGroups s m args below meth c H locs 0 0 (MQ below (hm_Q g (hm_pX g ad M0 (wGr z (gc z fgF 7)) none)) args s rm_X6_forgetGroups.cells rm_X6_forgetGroups.slots (hm_A g)) (F0 m 2 ls []) := by
    intro n
    induction n with
    | zero =>
      intro j Mk hj0 hx hfr H locs ls hG hl
      obtain ⟨hX, hLs, hLr, hLh, h7, hLg, h70, hSe, hRu, hHu, hGr, hS6, hR6, hH5⟩ := id hx
      obtain ⟨fs1, hb1⟩ := hLs.ob
      obtain ⟨fs2, hb2⟩ := hLr.ob
      obtain ⟨fs3, hb3⟩ := hLh.ob
      obtain rfl : j = 7 := by omega
      refine lv_iload_n S.1 S.2.1 dX6_forgetGroups_2 rfl (lv_at hl 1 rfl) ?_
      refine lv_bipush (v := 7) S.1 S.2.1 dX6_forgetGroups_3 (by decide) ?_
      refine lv_icmp_ge (tgt := 23) S.1 S.2.1 dX6_forgetGroups_5 (by decide) (fun _ => ?_) (fun h9 => absurd (by decide) h9)
      exact hm_vret S hG hr hlk (⟨rfl, rfl, hx, hfr⟩) (Nat.le_of_ble_eq_true rfl) (Nat.le_of_ble_eq_true rfl) dX6_forgetGroups_23
    | succ n ih2 =>
      intro j Mk hj0 hx hfr H locs ls hG hl
      obtain ⟨hX, hLs, hLr, hLh, h7, hLg, h70, hSe, hRu, hHu, hGr, hS6, hR6, hH5⟩ := id hx
      obtain ⟨fs1, hb1⟩ := hLs.ob
      obtain ⟨fs2, hb2⟩ := hLr.ob
      obtain ⟨fs3, hb3⟩ := hLh.ob
      have hj9 : j < 7 := by omega
      refine lv_iload_n S.1 S.2.1 dX6_forgetGroups_2 rfl (lv_at hl 1 rfl) ?_
      refine lv_bipush (v := 7) S.1 S.2.1 dX6_forgetGroups_3 (by decide) ?_
      refine lv_icmp_ge (tgt := 23) S.1 S.2.1 dX6_forgetGroups_5 (by decide) (fun h9 => absurd h9 (nI_ge (b := 7) hj9 (by decide))) (fun _ => ?_)
      refine lv_aload_n S.1 S.2.1 dX6_forgetGroups_8 rfl (lv_at hl 0 rfl) ?_
      refine hm_get (k := 3) S hE hG hX rfl rfl hi_X60 (by decide) hb_20 rfl rfl dX6_forgetGroups_9 ?_
      refine lv_iload_n S.1 S.2.1 dX6_forgetGroups_12 rfl (lv_at hl 1 rfl) ?_
      refine hm_aldq (q := (ad (60, j, 0))) S hE hG h7 rfl rfl (vp_in_nI hj9 (by decide)) (by rw [nI_clamp (Nat.lt_trans hj9 (by decide))]; exact if_pos hj9) dX6_forgetGroups_13 ?_
      refine hm_uV (As := []) (rest := []) (st1 := []) S hE hG (c_X1_forget l g ad Mk j (xGr (wGr z (gc z fgF j)) j) (hGr j hj9)) (hm_gV hb_232 hb_233 hb_234 hb_22 hb_235) hd_X1_forget rfl (hGr j hj9).1 rfl rfl ⟨Nat.le_of_ble_eq_true rfl, Nat.le_of_ble_eq_true rfl⟩ rfl hl.1 rfl (Nat.le_of_ble_eq_true rfl) dX6_forgetGroups_14 ⟨Nat.le_of_ble_eq_true rfl, Nat.le_of_ble_eq_true rfl⟩ rfl (fun H locs hG => ?_)
      obtain ⟨M_2, eM_2⟩ : ∃ q9, q9 = hm_up (hm_up Mk (62, j, 0) (hm_ia g 6 (gTo (fgF (xGr (wGr z (gc z fgF j)) j))))) (60, j, 0) (grE ad j (fgF (xGr (wGr z (gc z fgF j)) j))) := ⟨_, rfl⟩
      have hG : hm_G g ad M_2 s.heap H locs := by rw [eM_2]; exact hG
      have hx : hasX g ad M_2 (setGr (wGr z (gc z fgF j)) j (fgF (xGr (wGr z (gc z fgF j)) j))) := by rw [eM_2]; exact hx.gro j _ (fun h => fg_has (hGr j h)) (fun t h1 h2 h3 => (hm_up_n h1).trans (hm_up_n h3))
      have hfr : ∀ t : TG, 80 ≤ t.1 → M_2 t = M0 t := fun t ht => by rw [eM_2]; exact ((cl_up (by simp) ht).trans (cl_up (by simp) ht)).trans (hfr t ht)
      obtain ⟨hX, hLs, hLr, hLh, h7, hLg, h70, hSe, hRu, hHu, hGr, hS6, hR6, hH5⟩ := id hx
      obtain ⟨fs1, hb1⟩ := hLs.ob
      obtain ⟨fs2, hb2⟩ := hLr.ob
      obtain ⟨fs3, hb3⟩ := hLh.ob
      refine lv_iinc (v := nI (j + 1)) (lv' := [(1, .int (nI (j + 1))), (0, .ref (ad (0, 0, 0)))]) S.1 S.2.1 dX6_forgetGroups_17 hl (k := 1) rfl (nI_1 j) (by decide) rfl (fun ls hl => ?_)
      refine lv_goto (tgt := 2) S.1 S.2.1 dX6_forgetGroups_20 (by decide) ?_
      exact ih2 (j + 1) _ (by omega) (gc_1 z fgF j ▸ hx) hfr _ _ _ hG (lv_sub hl [1, 0] rfl)
  exact L2_0 7 0 M0 rfl ((gc_0 z fgF).symm ▸ hx) hfr _ _ _ hG (lv_sub hl [1, 0] rfl)

abbrev rm_X6_group : Room := { frames := 2, cells := 0, slots := 0, locals := 42 }
set_option maxHeartbeats 4000000 in
set_option maxRecDepth 100000 in
theorem c_X6_group (l : Launch) (g : GV) (ad : AD) (M0 : CT) (z : XD) (hx : hasX g ad M0 z) (gr rp : Nat) (hgr : gr < 3) (hg0 : xG z < 3) (hrp1 : 5 ≤ rp) (hrp2 : rp ≤ 50) : hm_Met l yX6_group cX6_group 4 (some .int) rm_X6_group g ad M0 [.ref (ad (0, 0, 0)), .int (nI gr), .int (nI rp)] (hm_pX g ad M0 (gpX z gr rp) (some (.int (nI (xG z))))) := by
  refine hm_start (own := RX6) (by decide) rfl (Nat.le_of_ble_eq_true rfl) ?_
  intro p e s m args below meth c S hr hlk hnm hE hG ls hl
  have hl : lv_has ls 4 [(0, .ref (ad (0, 0, 0))), (1, .int (nI gr)), (2, .int (nI rp))] := hl
  have hfr : ∀ t : TG, 80 ≤ t.1 → M0 t = M0 t := fun _ _ => rfl
  obtain ⟨hX, hLs, hLr, hLh, h7, hLg, h70, hSe, hRu, hHu, hGr, hS6, hR6, hH5⟩ := id hx
  obtain ⟨fs1, hb1⟩ := hLs.ob
  obtain ⟨fs2, hb2⟩ := hLr.ob
  obtain ⟨fs3, hb3⟩ := hLh.ob
  refine lv_iload_n S.1 S.2.1 dX6_group_0 rfl (lv_at hl 1 rfl) ?_
  refine lv_iconst (v := 0) S.1 S.2.1 dX6_group_1 (by decide) ?_
  refine lv_iconst (v := 2) S.1 S.2.1 dX6_group_2 (by decide) ?_
  refine hm_uS (As := [.int (nI gr), .int 0, .int 2]) (rest := []) (st1 := [.int (bI (decide ((nI gr) < 0) || decide (2 < (nI gr))))]) S hE hG (c_X6_isOutside l g ad M0 (nI gr) 0 2) (hm_gS hb_91 hb_92 hb_2 hb_93) hd_X6_isOutside ⟨Nat.le_of_ble_eq_true rfl, Nat.le_of_ble_eq_true rfl⟩ rfl hl.1 rfl (Nat.le_of_ble_eq_true rfl) dX6_group_3 ⟨Nat.le_of_ble_eq_true rfl, Nat.le_of_ble_eq_true rfl⟩ rfl (fun H locs hG => ?_)
  refine lv_if_eq (tgt := 19) S.1 S.2.1 dX6_group_6 (by decide) (fun _ => ?_) (fun h9 => absurd (hm_in0 (b := 2) (by omega) (by decide)) h9)
  refine lv_iload_n S.1 S.2.1 dX6_group_19 rfl (lv_at hl 2 rfl) ?_
  refine lv_iconst (v := 5) S.1 S.2.1 dX6_group_20 (by decide) ?_
  refine lv_bipush (v := 50) S.1 S.2.1 dX6_group_21 (by decide) ?_
  refine hm_uS (As := [.int (nI rp), .int 5, .int 50]) (rest := []) (st1 := [.int (bI (decide ((nI rp) < 5) || decide (50 < (nI rp))))]) S hE hG (c_X6_isOutside l g ad M0 (nI rp) 5 50) (hm_gS hb_91 hb_92 hb_2 hb_93) hd_X6_isOutside ⟨Nat.le_of_ble_eq_true rfl, Nat.le_of_ble_eq_true rfl⟩ rfl hl.1 rfl (Nat.le_of_ble_eq_true rfl) dX6_group_23 ⟨Nat.le_of_ble_eq_true rfl, Nat.le_of_ble_eq_true rfl⟩ rfl (fun H locs hG => ?_)
  refine lv_if_eq (tgt := 39) S.1 S.2.1 dX6_group_26 (by decide) (fun _ => ?_) (fun h9 => absurd (hm_in0' (nI_nlt (b := 5) hrp1 (by omega)) (nI_nlt (a := 50) hrp2 (by decide))) h9)
  refine lv_aload_n S.1 S.2.1 dX6_group_39 rfl (lv_at hl 0 rfl) ?_
  refine hm_get (k := 7) S hE hG hX rfl rfl hi_X60 (by decide) hb_32 rfl rfl dX6_group_40 ?_
  refine lv_istore_n (lv' := [(3, .int (nI (xG z))), (0, .ref (ad (0, 0, 0))), (1, .int (nI gr)), (2, .int (nI rp))]) S.1 S.2.1 dX6_group_43 rfl hl (by decide) rfl (fun ls hl => ?_)
  refine lv_aload_n S.1 S.2.1 dX6_group_44 rfl (lv_at hl 1 rfl) ?_
  refine lv_iload_n S.1 S.2.1 dX6_group_45 rfl (lv_at hl 3 rfl) ?_
  refine hm_put (k := 8) (fs' := [.ref (ad (1, 0, 0)), .ref (ad (2, 0, 0)), .ref (ad (3, 0, 0)), .ref (ad (7, 0, 0)), .ref (ad (8, 0, 0)), .ref (ad (70, 0, 0)), .int (nI (xC z)), .int (nI (xG z)), .int (nI rp)]) S hE hG hX rfl rfl hi_X60 tyX6_ok nmX6 (by decide) hb_33 rfl rfl (by rfl) (by rfl) (Nat.le_of_ble_eq_true rfl) rfl dX6_group_46 (fun H locs hG => ?_)
  obtain ⟨M_1, eM_1⟩ : ∃ q9, q9 = hm_up M0 (0, 0, 0) (.inr (7, [.ref (ad (1, 0, 0)), .ref (ad (2, 0, 0)), .ref (ad (3, 0, 0)), .ref (ad (7, 0, 0)), .ref (ad (8, 0, 0)), .ref (ad (70, 0, 0)), .int (nI (xC z)), .int (nI (xG z)), .int (nI rp)])) := ⟨_, rfl⟩
  rw [← eM_1] at hG
  have h_2 : M_1 (0, 0, 0) = some (.inr (7, [.ref (ad (1, 0, 0)), .ref (ad (2, 0, 0)), .ref (ad (3, 0, 0)), .ref (ad (7, 0, 0)), .ref (ad (8, 0, 0)), .ref (ad (70, 0, 0)), .int (nI (xC z)), .int (nI (xG z)), .int (nI rp)])) := by rw [eM_1]; exact hm_up_s
  have h_3 : M_1 (1, 0, 0) = some (.inr (0, fs1)) := by rw [eM_1]; exact (hm_up_n (by simp)).trans hb1
  have h_4 : M_1 (2, 0, 0) = some (.inr (0, fs2)) := by rw [eM_1]; exact (hm_up_n (by simp)).trans hb2
  have h_5 : M_1 (3, 0, 0) = some (.inr (0, fs3)) := by rw [eM_1]; exact (hm_up_n (by simp)).trans hb3
  have h_6 : M_1 (7, 0, 0) = some (hm_ra g 1 7 (grpA ad)) := by rw [eM_1]; exact (hm_up_n (by simp)).trans h7
  have h_7 : M_1 (8, 0, 0) = some (.inr (4, [.ref (ad (9, 0, 0)), .int (nI (lLa (xL z))), .int (nI (lHe (xL z))), .int (nI (lEv (xL z)))])) := by rw [eM_1]; exact (hm_up_n (by simp)).trans hLg.1
  refine lv_iload_n S.1 S.2.1 dX6_group_49 rfl (lv_at hl 2 rfl) ?_
  refine lv_iload_n S.1 S.2.1 dX6_group_50 rfl (lv_at hl 0 rfl) ?_
  refine lv_icmp_eq (tgt := 63) S.1 S.2.1 dX6_group_51 (by decide) (fun c51 => ?_) (fun c51 => ?_)
  · skip
    have e51 : gr = xG z := hm_eqI (by omega) (by omega) c51
    refine lv_iload_n S.1 S.2.1 dX6_group_63 rfl (lv_at hl 0 rfl) ?_
    exact hm_iret S hG hr hlk (⟨rfl, rfl, by rw [gpX, if_pos e51]; subst_vars; exact hx.fld (setP z rp) rfl rfl rfl rfl rfl rfl rfl rfl rfl, fun t ht => by subst_vars; exact cl_up (by simp) ht⟩) (Nat.le_of_ble_eq_true rfl) (Nat.le_of_ble_eq_true rfl) dX6_group_64
  · skip
    have e51 : ¬ gr = xG z := fun h => c51 (by rw [h])
    refine lv_aload_n S.1 S.2.1 dX6_group_54 rfl (lv_at hl 1 rfl) ?_
    refine lv_iload_n S.1 S.2.1 dX6_group_55 rfl (lv_at hl 2 rfl) ?_
    refine hm_put (k := 7) (fs' := [.ref (ad (1, 0, 0)), .ref (ad (2, 0, 0)), .ref (ad (3, 0, 0)), .ref (ad (7, 0, 0)), .ref (ad (8, 0, 0)), .ref (ad (70, 0, 0)), .int (nI (xC z)), .int (nI gr), .int (nI rp)]) S hE hG h_2 rfl rfl hi_X60 tyX6_ok nmX6 (by decide) hb_32 rfl rfl (by rfl) (by rfl) (Nat.le_of_ble_eq_true rfl) rfl dX6_group_56 (fun H locs hG => ?_)
    obtain ⟨M_8, eM_8⟩ : ∃ q9, q9 = hm_up M_1 (0, 0, 0) (.inr (7, [.ref (ad (1, 0, 0)), .ref (ad (2, 0, 0)), .ref (ad (3, 0, 0)), .ref (ad (7, 0, 0)), .ref (ad (8, 0, 0)), .ref (ad (70, 0, 0)), .int (nI (xC z)), .int (nI gr), .int (nI rp)])) := ⟨_, rfl⟩
    rw [← eM_8] at hG
    have h_9 : M_8 (0, 0, 0) = some (.inr (7, [.ref (ad (1, 0, 0)), .ref (ad (2, 0, 0)), .ref (ad (3, 0, 0)), .ref (ad (7, 0, 0)), .ref (ad (8, 0, 0)), .ref (ad (70, 0, 0)), .int (nI (xC z)), .int (nI gr), .int (nI rp)])) := by rw [eM_8]; exact hm_up_s
    have h_10 : M_8 (1, 0, 0) = some (.inr (0, fs1)) := by rw [eM_8]; exact (hm_up_n (by simp)).trans h_3
    have h_11 : M_8 (2, 0, 0) = some (.inr (0, fs2)) := by rw [eM_8]; exact (hm_up_n (by simp)).trans h_4
    have h_12 : M_8 (3, 0, 0) = some (.inr (0, fs3)) := by rw [eM_8]; exact (hm_up_n (by simp)).trans h_5
    have h_13 : M_8 (7, 0, 0) = some (hm_ra g 1 7 (grpA ad)) := by rw [eM_8]; exact (hm_up_n (by simp)).trans h_6
    have h_14 : M_8 (8, 0, 0) = some (.inr (4, [.ref (ad (9, 0, 0)), .int (nI (lLa (xL z))), .int (nI (lHe (xL z))), .int (nI (lEv (xL z)))])) := by rw [eM_8]; exact (hm_up_n (by simp)).trans h_7
    have hx : hasX g ad M_8 (setG (setP z rp) gr) := by subst_vars; simp only [hm_up_up]; exact hx.fld (setG (setP z rp) gr) rfl rfl rfl rfl rfl rfl rfl rfl rfl
    have hfr : ∀ t : TG, 80 ≤ t.1 → M_8 t = M0 t := fun t ht => by subst_vars; simp only [hm_up_up]; exact cl_up (by simp) ht
    obtain ⟨hX, hLs, hLr, hLh, h7, hLg, h70, hSe, hRu, hHu, hGr, hS6, hR6, hH5⟩ := id hx
    obtain ⟨fs1, hb1⟩ := hLs.ob
    obtain ⟨fs2, hb2⟩ := hLr.ob
    obtain ⟨fs3, hb3⟩ := hLh.ob
    refine lv_aload_n S.1 S.2.1 dX6_group_59 rfl (lv_at hl 1 rfl) ?_
    refine hm_xV (As := []) (rest := []) (st1 := []) S hE hG (c_X6_forgetGroups l g ad M_8 (setG (setP z rp) gr) hx) (hm_gV hb_228 hb_229 hb_230 hb_2 hb_231) hd_X6_forgetGroups rfl hX rfl rfl ⟨Nat.le_of_ble_eq_true rfl, Nat.le_of_ble_eq_true rfl⟩ rfl hl.1 rfl (Nat.le_of_ble_eq_true rfl) dX6_group_60 ⟨Nat.le_of_ble_eq_true rfl, Nat.le_of_ble_eq_true rfl⟩ rfl (fun M_15 H locs hx hfr1 hG => ?_)
    have hfr : ∀ t : TG, 80 ≤ t.1 → M_15 t = M0 t := fun t ht => (hfr1 t ht).trans (hfr t ht)
    obtain ⟨hX, hLs, hLr, hLh, h7, hLg, h70, hSe, hRu, hHu, hGr, hS6, hR6, hH5⟩ := id hx
    obtain ⟨fs1, hb1⟩ := hLs.ob
    obtain ⟨fs2, hb2⟩ := hLr.ob
    obtain ⟨fs3, hb3⟩ := hLh.ob
    refine lv_iload_n S.1 S.2.1 dX6_group_63 rfl (lv_at hl 0 rfl) ?_
    exact hm_iret S hG hr hlk (⟨rfl, rfl, by rw [gpX, if_neg e51]; exact hx, hfr⟩) (Nat.le_of_ble_eq_true rfl) (Nat.le_of_ble_eq_true rfl) dX6_group_64

abbrev rm_X6_stepAlerts : Room := { frames := 5, cells := 0, slots := 0, locals := 129 }
set_option maxHeartbeats 4000000 in
set_option maxRecDepth 100000 in
theorem c_X6_stepAlerts (l : Launch) (g : GV) (ad : AD) (M0 : CT) (z : XD) (hx : hasX g ad M0 z) (r : Nat) (hr9 : r < xR z) : hm_Met l yX6_stepAlerts cX6_stepAlerts 4 none rm_X6_stepAlerts g ad M0 [.ref (ad (0, 0, 0)), .ref (ad (20, r, 0))] (hm_pX g ad M0 (wAl z (sa z r 12)) none) := by
  refine hm_start (own := RX6) (by decide) rfl (Nat.le_of_ble_eq_true rfl) ?_
  intro p e s m args below meth c S hr hlk hnm hE hG ls hl
  have hl : lv_has ls 4 [(0, .ref (ad (0, 0, 0))), (1, .ref (ad (20, r, 0)))] := hl
  have hfr : ∀ t : TG, 80 ≤ t.1 → M0 t = M0 t := fun _ _ => rfl
  obtain ⟨hX, hLs, hLr, hLh, h7, hLg, h70, hSe, hRu, hHu, hGr, hS6, hR6, hH5⟩ := id hx
  obtain ⟨fs1, hb1⟩ := hLs.ob
  obtain ⟨fs2, hb2⟩ := hLr.ob
  obtain ⟨fs3, hb3⟩ := hLh.ob
  refine lv_iconst (v := 0) S.1 S.2.1 dX6_stepAlerts_0 (by decide) ?_
  refine lv_istore_n (lv' := [(2, .int 0), (0, .ref (ad (0, 0, 0))), (1, .ref (ad (20, r, 0)))]) S.1 S.2.1 dX6_stepAlerts_1 rfl hl (by decide) rfl (fun ls hl => ?_)
  have L2_0 : ∀ (n : Nat) (k : Nat) (Mk : CT), n + k = 12 → hasX g ad Mk (wAl z (sa z r k)) → (∀ t : TG, 80 ≤ t.1 → Mk t = M0 t) → ∀ (H : Heap) (locs : List Loc) (ls : Array Slot), hm_G g ad Mk s.heap H locs → lv_has ls 4 [(0, .ref (ad (0, 0, 0))), (1, .ref (ad (20, r, 0))), (2, .int (nI k))] → W p l e rm_X6_stepAlerts s m args below meth c H locs 0 0 (MQ below (hm_Q g (hm_pX g ad M0 (wAl z (sa z r 12)) none)) args s rm_X6_stepAlerts.cells rm_X6_stepAlerts.slots (hm_A g)) (F0 m 2 ls []) := by
    intro n
    induction n with
    | zero =>
      intro k Mk hk0 hx hfr H locs ls hG hl
      obtain ⟨hX, hLs, hLr, hLh, h7, hLg, h70, hSe, hRu, hHu, hGr, hS6, hR6, hH5⟩ := id hx
      obtain ⟨fs1, hb1⟩ := hLs.ob
      obtain ⟨fs2, hb2⟩ := hLr.ob
      obtain ⟨fs3, hb3⟩ := hLh.ob
      obtain rfl : k = 12 := by omega
      refine lv_iload_n S.1 S.2.1 dX6_stepAlerts_2 rfl (lv_at hl 2 rfl) ?_
      refine lv_bipush (v := 12) S.1 S.2.1 dX6_stepAlerts_3 (by decide) ?_
      refine lv_icmp_ge (tgt := 60) S.1 S.2.1 dX6_stepAlerts_5 (by decide) (fun _ => ?_) (fun h9 => absurd (by decide) h9)
      exact hm_vret S hG hr hlk (⟨rfl, rfl, hx, hfr⟩) (Nat.le_of_ble_eq_true rfl) (Nat.le_of_ble_eq_true rfl) dX6_stepAlerts_60
    | succ n ih2 =>
      intro k Mk hk0 hx hfr H locs ls hG hl
      obtain ⟨hX, hLs, hLr, hLh, h7, hLg, h70, hSe, hRu, hHu, hGr, hS6, hR6, hH5⟩ := id hx
      obtain ⟨fs1, hb1⟩ := hLs.ob
      obtain ⟨fs2, hb2⟩ := hLr.ob
      obtain ⟨fs3, hb3⟩ := hLh.ob
      have hk : k < 12 := by omega
      refine lv_iload_n S.1 S.2.1 dX6_stepAlerts_2 rfl (lv_at hl 2 rfl) ?_
      refine lv_bipush (v := 12) S.1 S.2.1 dX6_stepAlerts_3 (by decide) ?_
      refine lv_icmp_ge (tgt := 60) S.1 S.2.1 dX6_stepAlerts_5 (by decide) (fun h9 => absurd h9 (nI_ge (b := 12) hk (by decide))) (fun _ => ?_)
      refine lv_aload_n S.1 S.2.1 dX6_stepAlerts_8 rfl (lv_at hl 1 rfl) ?_
      refine lv_iload_n S.1 S.2.1 dX6_stepAlerts_9 rfl (lv_at hl 2 rfl) ?_
      refine hm_uV (As := [.int (nI k)]) (rest := []) (st1 := [.ref (ad (22, r, k))]) S hE hG (c_X4_alertOf l g ad Mk r (xRu (wAl z (sa z r k)) r) (xAl (wAl z (sa z r k)) r) (hRu r hr9) k hk) (hm_gV hb_338 hb_290 hb_291 hb_170 hb_292) hd_X4_alertOf rfl (hRu r hr9).1 rfl rfl ⟨Nat.le_of_ble_eq_true rfl, Nat.le_of_ble_eq_true rfl⟩ rfl hl.1 rfl (Nat.le_of_ble_eq_true rfl) dX6_stepAlerts_10 ⟨Nat.le_of_ble_eq_true rfl, Nat.le_of_ble_eq_true rfl⟩ rfl (fun H locs hG => ?_)
      refine lv_astore_n (lv' := [(3, .ref (ad (22, r, k))), (0, .ref (ad (0, 0, 0))), (1, .ref (ad (20, r, 0))), (2, .int (nI k))]) S.1 S.2.1 dX6_stepAlerts_13 rfl hl (by decide) rfl (fun ls hl => ?_)
      refine lv_aload_n S.1 S.2.1 dX6_stepAlerts_14 rfl (lv_at hl 0 rfl) ?_
      refine lv_ifnull S.1 S.2.1 dX6_stepAlerts_15 ?_
      refine lv_aload_n S.1 S.2.1 dX6_stepAlerts_18 rfl (lv_at hl 1 rfl) ?_
      refine lv_aload_n S.1 S.2.1 dX6_stepAlerts_19 rfl (lv_at hl 2 rfl) ?_
      refine lv_iload_n S.1 S.2.1 dX6_stepAlerts_20 rfl (lv_at hl 3 rfl) ?_
      refine hm_uV (As := [.ref (ad (20, r, 0)), .int (nI k)]) (rest := []) (st1 := [.int (bI (hkF (wAl z (sa z r k)) (xRu (wAl z (sa z r k)) r) k))]) S hE hG (c_X6_hasKey l g ad Mk (wAl z (sa z r k)) hx r hr9 k hk) (hm_gV hb_339 hb_340 hb_341 hb_2 hb_342) hd_X6_hasKey rfl hX rfl rfl ⟨Nat.le_of_ble_eq_true rfl, Nat.le_of_ble_eq_true rfl⟩ rfl hl.1 rfl (Nat.le_of_ble_eq_true rfl) dX6_stepAlerts_21 ⟨Nat.le_of_ble_eq_true rfl, Nat.le_of_ble_eq_true rfl⟩ rfl (fun H locs hG => ?_)
      refine lv_if_eq (tgt := 54) S.1 S.2.1 dX6_stepAlerts_24 (by decide) (fun c24 => ?_) (fun c24 => ?_)
      · skip
        refine lv_iinc (v := nI (k + 1)) (lv' := [(2, .int (nI (k + 1))), (3, .ref (ad (22, r, k))), (0, .ref (ad (0, 0, 0))), (1, .ref (ad (20, r, 0)))]) S.1 S.2.1 dX6_stepAlerts_54 hl (k := 3) rfl (nI_1 k) (by decide) rfl (fun ls hl => ?_)
        refine lv_goto (tgt := 2) S.1 S.2.1 dX6_stepAlerts_57 (by decide) ?_
        exact ih2 (k + 1) _ (by omega) (sa_no z r k (bI_0.mp c24) ▸ hx) hfr _ _ _ hG (lv_sub hl [2, 3, 0] rfl)
      · skip
        refine lv_aload_n S.1 S.2.1 dX6_stepAlerts_27 rfl (lv_at hl 0 rfl) ?_
        refine lv_aload_n S.1 S.2.1 dX6_stepAlerts_28 rfl (lv_at hl 2 rfl) ?_
        refine lv_aload_n S.1 S.2.1 dX6_stepAlerts_29 rfl (lv_at hl 1 rfl) ?_
        refine lv_aload_n S.1 S.2.1 dX6_stepAlerts_30 rfl (lv_at hl 2 rfl) ?_
        refine lv_iload_n S.1 S.2.1 dX6_stepAlerts_31 rfl (lv_at hl 3 rfl) ?_
        refine lv_iconst (v := 0) S.1 S.2.1 dX6_stepAlerts_32 (by decide) ?_
        refine hm_uV (As := [.ref (ad (20, r, 0)), .int (nI k), .int 0]) (rest := [.ref (ad (20, r, 0)), .ref (ad (22, r, k))]) (st1 := [.int (laF (wAl z (sa z r k)) (xRu (wAl z (sa z r k)) r) k 0), .ref (ad (20, r, 0)), .ref (ad (22, r, k))]) S hE hG (c_X6_lookedAt l g ad Mk (wAl z (sa z r k)) hx r hr9 k hk 0 (by omega)) (hm_gV hb_354 hb_355 hb_356 hb_2 hb_357) hd_X6_lookedAt rfl hX rfl rfl ⟨Nat.le_of_ble_eq_true rfl, Nat.le_of_ble_eq_true rfl⟩ rfl hl.1 rfl (Nat.le_of_ble_eq_true rfl) dX6_stepAlerts_33 ⟨Nat.le_of_ble_eq_true rfl, Nat.le_of_ble_eq_true rfl⟩ rfl (fun H locs hG => ?_)
        refine lv_aload_n S.1 S.2.1 dX6_stepAlerts_36 rfl (lv_at hl 2 rfl) ?_
        refine hm_get (k := 6) S hE hG (hRu r hr9).1 rfl rfl hi_X40 (by decide) hb_171 rfl rfl dX6_stepAlerts_37 ?_
        refine hm_uV (As := [.int (laF (wAl z (sa z r k)) (xRu (wAl z (sa z r k)) r) k 0), .int (rLi (xRu (wAl z (sa z r k)) r))]) (rest := [.ref (ad (22, r, k))]) (st1 := [.int (bI (byF (xRu (wAl z (sa z r k)) r) (laF (wAl z (sa z r k)) (xRu (wAl z (sa z r k)) r) k 0) (rLi (xRu (wAl z (sa z r k)) r)))), .ref (ad (22, r, k))]) S hE hG (c_X4_isBeyond l g ad Mk r (xRu (wAl z (sa z r k)) r) (xAl (wAl z (sa z r k)) r) (hRu r hr9) (laF (wAl z (sa z r k)) (xRu (wAl z (sa z r k)) r) k 0) (rLi (xRu (wAl z (sa z r k)) r))) (hm_gV hb_386 hb_387 hb_388 hb_170 hb_389) hd_X4_isBeyond rfl (hRu r hr9).1 rfl rfl ⟨Nat.le_of_ble_eq_true rfl, Nat.le_of_ble_eq_true rfl⟩ rfl hl.1 rfl (Nat.le_of_ble_eq_true rfl) dX6_stepAlerts_40 ⟨Nat.le_of_ble_eq_true rfl, Nat.le_of_ble_eq_true rfl⟩ rfl (fun H locs hG => ?_)
        refine lv_aload_n S.1 S.2.1 dX6_stepAlerts_43 rfl (lv_at hl 2 rfl) ?_
        refine hm_get (k := 7) S hE hG (hRu r hr9).1 rfl rfl hi_X40 (by decide) hb_199 rfl rfl dX6_stepAlerts_44 ?_
        refine lv_aload_n S.1 S.2.1 dX6_stepAlerts_47 rfl (lv_at hl 1 rfl) ?_
        refine hm_get (k := 6) S hE hG hX rfl rfl hi_X60 (by decide) hb_31 rfl rfl dX6_stepAlerts_48 ?_
        refine hm_uV (As := [.int (bI (byF (xRu (wAl z (sa z r k)) r) (laF (wAl z (sa z r k)) (xRu (wAl z (sa z r k)) r) k 0) (rLi (xRu (wAl z (sa z r k)) r)))), .int (rWt (xRu (wAl z (sa z r k)) r)), .int (nI (xC (wAl z (sa z r k))))]) (rest := []) (st1 := []) S hE hG (c_X0_step l g ad Mk (22, r, k) (xAl (wAl z (sa z r k)) r k) (byF (xRu (wAl z (sa z r k)) r) (laF (wAl z (sa z r k)) (xRu (wAl z (sa z r k)) r) k 0) (rLi (xRu (wAl z (sa z r k)) r))) (rWt (xRu (wAl z (sa z r k)) r)) (nI (xC (wAl z (sa z r k)))) ((hRu r hr9).2.2.1 k hk)) (hm_gV hb_391 hb_392 hb_393 hb_29 hb_394) hd_X0_step rfl ((hRu r hr9).2.2.1 k hk) rfl rfl ⟨Nat.le_of_ble_eq_true rfl, Nat.le_of_ble_eq_true rfl⟩ rfl hl.1 rfl (Nat.le_of_ble_eq_true rfl) dX6_stepAlerts_51 ⟨Nat.le_of_ble_eq_true rfl, Nat.le_of_ble_eq_true rfl⟩ rfl (fun H locs hG => ?_)
        obtain ⟨M_2, eM_2⟩ : ∃ q9, q9 = hm_up Mk (22, r, k) (alE (stepF (xAl (wAl z (sa z r k)) r k) (byF (xRu (wAl z (sa z r k)) r) (laF (wAl z (sa z r k)) (xRu (wAl z (sa z r k)) r) k 0) (rLi (xRu (wAl z (sa z r k)) r))) (rWt (xRu (wAl z (sa z r k)) r)) (nI (xC (wAl z (sa z r k)))))) := ⟨_, rfl⟩
        have hG : hm_G g ad M_2 s.heap H locs := by rw [eM_2]; exact hG
        have hx : hasX g ad M_2 (setAl (wAl z (sa z r k)) r k (stepF (xAl (wAl z (sa z r k)) r k) (byF (xRu (wAl z (sa z r k)) r) (laF (wAl z (sa z r k)) (xRu (wAl z (sa z r k)) r) k 0) (rLi (xRu (wAl z (sa z r k)) r))) (rWt (xRu (wAl z (sa z r k)) r)) (nI (xC (wAl z (sa z r k)))))) := by rw [eM_2]; exact hx.alt r k _
        have hfr : ∀ t : TG, 80 ≤ t.1 → M_2 t = M0 t := fun t ht => by rw [eM_2]; exact (cl_up (by simp) ht).trans (hfr t ht)
        obtain ⟨hX, hLs, hLr, hLh, h7, hLg, h70, hSe, hRu, hHu, hGr, hS6, hR6, hH5⟩ := id hx
        obtain ⟨fs1, hb1⟩ := hLs.ob
        obtain ⟨fs2, hb2⟩ := hLr.ob
        obtain ⟨fs3, hb3⟩ := hLh.ob
        have hx2 : hasX g ad M_2 (wAl z (sa z r (k + 1))) := by rw [← sa_yes z r k (bI_ne.mp c24)]; rw [← laF_eq (x := (wAl z (sa z r k))) (y := z) rfl rfl]; exact hx
        refine lv_iinc (v := nI (k + 1)) (lv' := [(2, .int (nI (k + 1))), (3, .ref (ad (22, r, k))), (0, .ref (ad (0, 0, 0))), (1, .ref (ad (20, r, 0)))]) S.1 S.2.1 dX6_stepAlerts_54 hl (k := 3) rfl (nI_1 k) (by decide) rfl (fun ls hl => ?_)
        refine lv_goto (tgt := 2) S.1 S.2.1 dX6_stepAlerts_57 (by decide) ?_
        exact ih2 (k + 1) _ (by omega) hx2 hfr _ _ _ hG (lv_sub hl [2, 3, 0] rfl)
  exact L2_0 12 0 M0 rfl ((sa_0 z r).symm ▸ hx) hfr _ _ _ hG (lv_sub hl [1, 2, 0] rfl)

abbrev rm_X6_wouldBurn : Room := { frames := 5, cells := 0, slots := 0, locals := 129 }
set_option maxHeartbeats 4000000 in
set_option maxRecDepth 100000 in
theorem c_X6_wouldBurn (l : Launch) (g : GV) (ad : AD) (M0 : CT) (z : XD) (hx : hasX g ad M0 z) (r : Nat) (hr9 : r < xR z) (k : Nat) (hk : k < 12) (nt : Nat) (hnt : nt < 50) : hm_Met l yX6_wouldBurn cX6_wouldBurn 6 (some .boolean) rm_X6_wouldBurn g ad M0 [.ref (ad (0, 0, 0)), .ref (ad (20, r, 0)), .int (nI k), .int (nI nt)] (hm_pX g ad M0 (z) (some (.int (bI (wbF z nt r k))))) := by
  refine hm_start (own := RX6) (by decide) rfl (Nat.le_of_ble_eq_true rfl) ?_
  intro p e s m args below meth c S hr hlk hnm hE hG ls hl
  have hl : lv_has ls 6 [(0, .ref (ad (0, 0, 0))), (1, .ref (ad (20, r, 0))), (2, .int (nI k)), (3, .int (nI nt))] := hl
  have hfr : ∀ t : TG, 80 ≤ t.1 → M0 t = M0 t := fun _ _ => rfl
  obtain ⟨hX, hLs, hLr, hLh, h7, hLg, h70, hSe, hRu, hHu, hGr, hS6, hR6, hH5⟩ := id hx
  obtain ⟨fs1, hb1⟩ := hLs.ob
  obtain ⟨fs2, hb2⟩ := hLr.ob
  obtain ⟨fs3, hb3⟩ := hLh.ob
  refine lv_aload_n S.1 S.2.1 dX6_wouldBurn_0 rfl (lv_at hl 1 rfl) ?_
  refine lv_iload_n S.1 S.2.1 dX6_wouldBurn_1 rfl (lv_at hl 2 rfl) ?_
  refine hm_uV (As := [.int (nI k)]) (rest := []) (st1 := [.ref (ad (22, r, k))]) S hE hG (c_X4_alertOf l g ad M0 r (xRu z r) (xAl z r) (hRu r hr9) k hk) (hm_gV hb_338 hb_290 hb_291 hb_170 hb_292) hd_X4_alertOf rfl (hRu r hr9).1 rfl rfl ⟨Nat.le_of_ble_eq_true rfl, Nat.le_of_ble_eq_true rfl⟩ rfl hl.1 rfl (Nat.le_of_ble_eq_true rfl) dX6_wouldBurn_2 ⟨Nat.le_of_ble_eq_true rfl, Nat.le_of_ble_eq_true rfl⟩ rfl (fun H locs hG => ?_)
  refine lv_astore (lv' := [(4, .ref (ad (22, r, k))), (0, .ref (ad (0, 0, 0))), (1, .ref (ad (20, r, 0))), (2, .int (nI k)), (3, .int (nI nt))]) S.1 S.2.1 dX6_wouldBurn_5 hl (by decide) rfl (fun ls hl => ?_)
  refine lv_aload S.1 S.2.1 dX6_wouldBurn_7 (lv_at hl 0 rfl) ?_
  refine lv_ifnull S.1 S.2.1 dX6_wouldBurn_9 ?_
  refine lv_aload_n S.1 S.2.1 dX6_wouldBurn_12 rfl (lv_at hl 1 rfl) ?_
  refine lv_aload_n S.1 S.2.1 dX6_wouldBurn_13 rfl (lv_at hl 2 rfl) ?_
  refine lv_iload_n S.1 S.2.1 dX6_wouldBurn_14 rfl (lv_at hl 3 rfl) ?_
  refine hm_uV (As := [.ref (ad (20, r, 0)), .int (nI k)]) (rest := []) (st1 := [.int (bI (hkF z (xRu z r) k))]) S hE hG (c_X6_hasKey l g ad M0 z hx r hr9 k hk) (hm_gV hb_339 hb_340 hb_341 hb_2 hb_342) hd_X6_hasKey rfl hX rfl rfl ⟨Nat.le_of_ble_eq_true rfl, Nat.le_of_ble_eq_true rfl⟩ rfl hl.1 rfl (Nat.le_of_ble_eq_true rfl) dX6_wouldBurn_15 ⟨Nat.le_of_ble_eq_true rfl, Nat.le_of_ble_eq_true rfl⟩ rfl (fun H locs hG => ?_)
  refine lv_if_ne (tgt := 23) S.1 S.2.1 dX6_wouldBurn_18 (by decide) (fun c18 => ?_) (fun c18 => ?_)
  · skip
    refine lv_aload_n S.1 S.2.1 dX6_wouldBurn_23 rfl (lv_at hl 1 rfl) ?_
    refine hm_get (k := 5) S hE hG hX rfl rfl hi_X60 (by decide) hb_30 rfl rfl dX6_wouldBurn_24 ?_
    refine lv_aload S.1 S.2.1 dX6_wouldBurn_27 (lv_at hl 0 rfl) ?_
    obtain ⟨qq, h70⟩ := id h70
    refine hm_uV (As := [.ref (ad (22, r, k))]) (rest := []) (st1 := []) S hE hG (c_X0_become l g ad M0 (70, 0, 0) (22, r, k) qq (xAl z r k) (by simp) h70 ((hRu r hr9).2.2.1 k hk)) (hm_gV hb_350 hb_351 hb_352 hb_29 hb_353) hd_X0_become rfl h70 rfl rfl ⟨Nat.le_of_ble_eq_true rfl, Nat.le_of_ble_eq_true rfl⟩ rfl hl.1 rfl (Nat.le_of_ble_eq_true rfl) dX6_wouldBurn_29 ⟨Nat.le_of_ble_eq_true rfl, Nat.le_of_ble_eq_true rfl⟩ rfl (fun H locs hG => ?_)
    obtain ⟨M_1, eM_1⟩ : ∃ q9, q9 = hm_up M0 (70, 0, 0) (alE (xAl z r k)) := ⟨_, rfl⟩
    have hG : hm_G g ad M_1 s.heap H locs := by rw [eM_1]; exact hG
    have hx : hasX g ad M_1 z := by rw [eM_1]; exact hx.reh _
    have hfr : ∀ t : TG, 80 ≤ t.1 → M_1 t = M0 t := fun t ht => by rw [eM_1]; exact (cl_up (by simp) ht).trans (hfr t ht)
    obtain ⟨hX, hLs, hLr, hLh, h7, hLg, h70, hSe, hRu, hHu, hGr, hS6, hR6, hH5⟩ := id hx
    obtain ⟨fs1, hb1⟩ := hLs.ob
    obtain ⟨fs2, hb2⟩ := hLr.ob
    obtain ⟨fs3, hb3⟩ := hLh.ob
    have h71 : M_1 (70, 0, 0) = some (alE (rb z r k 0)) := by rw [eM_1]; exact hm_up_s
    refine lv_iconst (v := 1) S.1 S.2.1 dX6_wouldBurn_32 (by decide) ?_
    refine lv_istore (lv' := [(5, .int 1), (4, .ref (ad (22, r, k))), (0, .ref (ad (0, 0, 0))), (1, .ref (ad (20, r, 0))), (2, .int (nI k)), (3, .int (nI nt))]) S.1 S.2.1 dX6_wouldBurn_33 hl (by decide) rfl (fun ls hl => ?_)
    have L35_1 : ∀ (n : Nat) (t : Nat) (Mk : CT), n + t = nt → Mk (70, 0, 0) = some (alE (rb z r k t)) → hasX g ad Mk z → (∀ t : TG, 80 ≤ t.1 → Mk t = M0 t) → ∀ (H : Heap) (locs : List Loc) (ls : Array Slot), hm_G g ad Mk s.heap H locs → lv_has ls 6 [(0, .ref (ad (0, 0, 0))), (1, .ref (ad (20, r, 0))), (2, .int (nI k)), (3, .int (nI nt)), (5, .int (nI (t + 1)))] → W p l e rm_X6_wouldBurn s m args below meth c H locs 0 0 (MQ below (hm_Q g (hm_pX g ad M0 (z) (some (.int (bI (wbF z nt r k)))))) args s rm_X6_wouldBurn.cells rm_X6_wouldBurn.slots (hm_A g)) (F0 m 35 ls []) := by
      intro n
      induction n with
      | zero =>
        intro t Mk ht0 h71 hx hfr H locs ls hG hl
        obtain ⟨hX, hLs, hLr, hLh, h7, hLg, h70, hSe, hRu, hHu, hGr, hS6, hR6, hH5⟩ := id hx
        obtain ⟨fs1, hb1⟩ := hLs.ob
        obtain ⟨fs2, hb2⟩ := hLr.ob
        obtain ⟨fs3, hb3⟩ := hLh.ob
        obtain rfl : t = nt := by omega
        refine lv_iload S.1 S.2.1 dX6_wouldBurn_35 (lv_at hl 4 rfl) ?_
        refine lv_iload_n S.1 S.2.1 dX6_wouldBurn_37 rfl (lv_at hl 3 rfl) ?_
        refine lv_icmp_gt (tgt := 81) S.1 S.2.1 dX6_wouldBurn_38 (by decide) (fun _ => ?_) (fun h9 => absurd (nI_lt (by omega) (by omega)) h9)
        refine lv_aload_n S.1 S.2.1 dX6_wouldBurn_81 rfl (lv_at hl 0 rfl) ?_
        refine hm_get (k := 5) S hE hG hX rfl rfl hi_X60 (by decide) hb_30 rfl rfl dX6_wouldBurn_82 ?_
        refine hm_get (k := 0) S hE hG h71 rfl rfl hi_X00 (by decide) hb_337 rfl rfl dX6_wouldBurn_85 ?_
        refine lv_iconst (v := 2) S.1 S.2.1 dX6_wouldBurn_88 (by decide) ?_
        refine lv_icmp_ne (tgt := 96) S.1 S.2.1 dX6_wouldBurn_89 (by decide) (fun c89 => ?_) (fun c89 => ?_)
        · skip
          refine lv_iconst (v := 0) S.1 S.2.1 dX6_wouldBurn_96 (by decide) ?_
          exact hm_zret S hG hr hlk (by decide) (⟨by rw [wbF, bI_ne.mp c18, decide_eq_false (show ¬ (rb z r k t).1 = 2 from c89)]; rfl, rfl, hx, hfr⟩) (Nat.le_of_ble_eq_true rfl) (Nat.le_of_ble_eq_true rfl) dX6_wouldBurn_97
        · skip
          refine lv_iconst (v := 1) S.1 S.2.1 dX6_wouldBurn_92 (by decide) ?_
          refine lv_goto (tgt := 97) S.1 S.2.1 dX6_wouldBurn_93 (by decide) ?_
          exact hm_zret S hG hr hlk (by decide) (⟨by rw [wbF, bI_ne.mp c18, decide_eq_true (show (rb z r k t).1 = 2 from c89)]; rfl, rfl, hx, hfr⟩) (Nat.le_of_ble_eq_true rfl) (Nat.le_of_ble_eq_true rfl) dX6_wouldBurn_97
      | succ n ih35 =>
        intro t Mk ht0 h71 hx hfr H locs ls hG hl
        obtain ⟨hX, hLs, hLr, hLh, h7, hLg, h70, hSe, hRu, hHu, hGr, hS6, hR6, hH5⟩ := id hx
        obtain ⟨fs1, hb1⟩ := hLs.ob
        obtain ⟨fs2, hb2⟩ := hLr.ob
        obtain ⟨fs3, hb3⟩ := hLh.ob
        refine lv_iload S.1 S.2.1 dX6_wouldBurn_35 (lv_at hl 4 rfl) ?_
        refine lv_iload_n S.1 S.2.1 dX6_wouldBurn_37 rfl (lv_at hl 3 rfl) ?_
        refine lv_icmp_gt (tgt := 81) S.1 S.2.1 dX6_wouldBurn_38 (by decide) (fun h9 => absurd h9 (nI_nlt (by omega) (by omega))) (fun _ => ?_)
        refine lv_aload_n S.1 S.2.1 dX6_wouldBurn_41 rfl (lv_at hl 0 rfl) ?_
        refine hm_get (k := 5) S hE hG hX rfl rfl hi_X60 (by decide) hb_30 rfl rfl dX6_wouldBurn_42 ?_
        refine lv_aload_n S.1 S.2.1 dX6_wouldBurn_45 rfl (lv_at hl 1 rfl) ?_
        refine lv_aload_n S.1 S.2.1 dX6_wouldBurn_46 rfl (lv_at hl 0 rfl) ?_
        refine lv_aload_n S.1 S.2.1 dX6_wouldBurn_47 rfl (lv_at hl 1 rfl) ?_
        refine lv_iload_n S.1 S.2.1 dX6_wouldBurn_48 rfl (lv_at hl 2 rfl) ?_
        refine lv_iload S.1 S.2.1 dX6_wouldBurn_49 (lv_at hl 4 rfl) ?_
        refine hm_uV (As := [.ref (ad (20, r, 0)), .int (nI k), .int (nI (t + 1))]) (rest := [.ref (ad (20, r, 0)), .ref (ad (70, 0, 0))]) (st1 := [.int (laF z (xRu z r) k (t + 1)), .ref (ad (20, r, 0)), .ref (ad (70, 0, 0))]) S hE hG (c_X6_lookedAt l g ad Mk z hx r hr9 k hk (t + 1) (by omega)) (hm_gV hb_354 hb_355 hb_356 hb_2 hb_357) hd_X6_lookedAt rfl hX rfl rfl ⟨Nat.le_of_ble_eq_true rfl, Nat.le_of_ble_eq_true rfl⟩ rfl hl.1 rfl (Nat.le_of_ble_eq_true rfl) dX6_wouldBurn_51 ⟨Nat.le_of_ble_eq_true rfl, Nat.le_of_ble_eq_true rfl⟩ rfl (fun H locs hG => ?_)
        refine lv_aload_n S.1 S.2.1 dX6_wouldBurn_54 rfl (lv_at hl 1 rfl) ?_
        refine hm_get (k := 6) S hE hG (hRu r hr9).1 rfl rfl hi_X40 (by decide) hb_171 rfl rfl dX6_wouldBurn_55 ?_
        refine hm_uV (As := [.int (laF z (xRu z r) k (t + 1)), .int (rLi (xRu z r))]) (rest := [.ref (ad (70, 0, 0))]) (st1 := [.int (bI (byF (xRu z r) (laF z (xRu z r) k (t + 1)) (rLi (xRu z r)))), .ref (ad (70, 0, 0))]) S hE hG (c_X4_isBeyond l g ad Mk r (xRu z r) (xAl z r) (hRu r hr9) (laF z (xRu z r) k (t + 1)) (rLi (xRu z r))) (hm_gV hb_386 hb_387 hb_388 hb_170 hb_389) hd_X4_isBeyond rfl (hRu r hr9).1 rfl rfl ⟨Nat.le_of_ble_eq_true rfl, Nat.le_of_ble_eq_true rfl⟩ rfl hl.1 rfl (Nat.le_of_ble_eq_true rfl) dX6_wouldBurn_58 ⟨Nat.le_of_ble_eq_true rfl, Nat.le_of_ble_eq_true rfl⟩ rfl (fun H locs hG => ?_)
        refine lv_aload_n S.1 S.2.1 dX6_wouldBurn_61 rfl (lv_at hl 1 rfl) ?_
        refine hm_get (k := 7) S hE hG (hRu r hr9).1 rfl rfl hi_X40 (by decide) hb_199 rfl rfl dX6_wouldBurn_62 ?_
        refine lv_aload_n S.1 S.2.1 dX6_wouldBurn_65 rfl (lv_at hl 0 rfl) ?_
        refine hm_get (k := 6) S hE hG hX rfl rfl hi_X60 (by decide) hb_31 rfl rfl dX6_wouldBurn_66 ?_
        refine lv_iload S.1 S.2.1 dX6_wouldBurn_69 (lv_at hl 4 rfl) ?_
        refine lv_iadd S.1 S.2.1 dX6_wouldBurn_71 ?_
        refine hm_uV (As := [.int (bI (byF (xRu z r) (laF z (xRu z r) k (t + 1)) (rLi (xRu z r)))), .int (rWt (xRu z r)), .int ((nI (xC z)) + (nI (t + 1)))]) (rest := []) (st1 := []) S hE hG (c_X0_step l g ad Mk (70, 0, 0) (rb z r k t) (byF (xRu z r) (laF z (xRu z r) k (t + 1)) (rLi (xRu z r))) (rWt (xRu z r)) (nI (xC z) + nI (t + 1)) h71) (hm_gV hb_391 hb_392 hb_393 hb_29 hb_394) hd_X0_step rfl h71 rfl rfl ⟨Nat.le_of_ble_eq_true rfl, Nat.le_of_ble_eq_true rfl⟩ rfl hl.1 rfl (Nat.le_of_ble_eq_true rfl) dX6_wouldBurn_72 ⟨Nat.le_of_ble_eq_true rfl, Nat.le_of_ble_eq_true rfl⟩ rfl (fun H locs hG => ?_)
        obtain ⟨M_3, eM_3⟩ : ∃ q9, q9 = hm_up Mk (70, 0, 0) (alE (rb z r k (t + 1))) := ⟨_, rfl⟩
        have hG : hm_G g ad M_3 s.heap H locs := by rw [eM_3]; exact hG
        have hx : hasX g ad M_3 z := by rw [eM_3]; exact hx.reh _
        have hfr : ∀ t : TG, 80 ≤ t.1 → M_3 t = M0 t := fun t ht => by rw [eM_3]; exact (cl_up (by simp) ht).trans (hfr t ht)
        obtain ⟨hX, hLs, hLr, hLh, h7, hLg, h70, hSe, hRu, hHu, hGr, hS6, hR6, hH5⟩ := id hx
        obtain ⟨fs1, hb1⟩ := hLs.ob
        obtain ⟨fs2, hb2⟩ := hLr.ob
        obtain ⟨fs3, hb3⟩ := hLh.ob
        have h71 : M_3 (70, 0, 0) = some (alE (rb z r k (t + 1))) := by rw [eM_3]; exact hm_up_s
        refine lv_iinc (v := nI (t + 1 + 1)) (lv' := [(5, .int (nI (t + 1 + 1))), (0, .ref (ad (0, 0, 0))), (1, .ref (ad (20, r, 0))), (2, .int (nI k)), (3, .int (nI nt))]) S.1 S.2.1 dX6_wouldBurn_75 hl (k := 4) rfl (nI_1 (t + 1)) (by decide) rfl (fun ls hl => ?_)
        refine lv_goto (tgt := 35) S.1 S.2.1 dX6_wouldBurn_78 (by decide) ?_
        exact ih35 (t + 1) _ (by omega) h71 hx hfr _ _ _ hG (lv_sub hl [1, 2, 3, 4, 0] rfl)
    exact L35_1 nt 0 M_1 rfl h71 hx hfr _ _ _ hG (lv_sub hl [2, 3, 4, 5, 0] rfl)
  · skip
    refine lv_iconst (v := 0) S.1 S.2.1 dX6_wouldBurn_21 (by decide) ?_
    exact hm_zret S hG hr hlk (by decide) (⟨by rw [wbF, bI_0.mp c18]; rfl, rfl, hx, hfr⟩) (Nat.le_of_ble_eq_true rfl) (Nat.le_of_ble_eq_true rfl) dX6_wouldBurn_22

abbrev rm_X6_burningIn : Room := { frames := 6, cells := 0, slots := 0, locals := 154 }
set_option maxHeartbeats 4000000 in
set_option maxRecDepth 100000 in
theorem c_X6_burningIn (l : Launch) (g : GV) (ad : AD) (M0 : CT) (z : XD) (hx : hasX g ad M0 z) (nt : Nat) (h1 : 1 ≤ nt) (h2 : nt ≤ 10) : hm_Met l yX6_burningIn cX6_burningIn 6 (some .int) rm_X6_burningIn g ad M0 [.ref (ad (0, 0, 0)), .int (nI nt)] (hm_pX g ad M0 (z) (some (.int (nI (biX z nt))))) := by
  refine hm_start (own := RX6) (by decide) rfl (Nat.le_of_ble_eq_true rfl) ?_
  intro p e s m args below meth c S hr hlk hnm hE hG ls hl
  have hl : lv_has ls 6 [(0, .ref (ad (0, 0, 0))), (1, .int (nI nt))] := hl
  have hfr : ∀ t : TG, 80 ≤ t.1 → M0 t = M0 t := fun _ _ => rfl
  obtain ⟨hX, hLs, hLr, hLh, h7, hLg, h70, hSe, hRu, hHu, hGr, hS6, hR6, hH5⟩ := id hx
  obtain ⟨fs1, hb1⟩ := hLs.ob
  obtain ⟨fs2, hb2⟩ := hLr.ob
  obtain ⟨fs3, hb3⟩ := hLh.ob
  refine lv_iload_n S.1 S.2.1 dX6_burningIn_0 rfl (lv_at hl 1 rfl) ?_
  refine hm_uS (As := [.int (nI nt)]) (rest := []) (st1 := []) S hE hG (c_X6_requireTicks l g ad M0 (nI nt) (nI_nlt (b := 1) h1 (by omega)) (nI_nlt (a := 10) h2 (by decide))) (hm_gS hb_330 hb_331 hb_2 hb_332) hd_X6_requireTicks ⟨Nat.le_of_ble_eq_true rfl, Nat.le_of_ble_eq_true rfl⟩ rfl hl.1 rfl (Nat.le_of_ble_eq_true rfl) dX6_burningIn_1 ⟨Nat.le_of_ble_eq_true rfl, Nat.le_of_ble_eq_true rfl⟩ rfl (fun H locs hG => ?_)
  refine lv_iconst (v := 0) S.1 S.2.1 dX6_burningIn_4 (by decide) ?_
  refine lv_istore_n (lv' := [(2, .int 0), (0, .ref (ad (0, 0, 0))), (1, .int (nI nt))]) S.1 S.2.1 dX6_burningIn_5 rfl hl (by decide) rfl (fun ls hl => ?_)
  refine lv_iconst (v := 0) S.1 S.2.1 dX6_burningIn_6 (by decide) ?_
  refine lv_istore_n (lv' := [(3, .int 0), (2, .int 0), (0, .ref (ad (0, 0, 0))), (1, .int (nI nt))]) S.1 S.2.1 dX6_burningIn_7 rfl hl (by decide) rfl (fun ls hl => ?_)
  have L8_0 : ∀ (n : Nat) (i : Nat) (Mk : CT), n + i = xR z → hasX g ad Mk z → (∀ t : TG, 80 ≤ t.1 → Mk t = M0 t) → ∀ (H : Heap) (locs : List Loc) (ls : Array Slot), hm_G g ad Mk s.heap H locs → lv_has ls 6 [(0, .ref (ad (0, 0, 0))), (1, .int (nI nt)), (2, .int (nI (biN z nt i))), (3, .int (nI i))] → W p l e rm_X6_burningIn s m args below meth c H locs 0 0 (MQ below (hm_Q g (hm_pX g ad M0 (z) (some (.int (nI (biX z nt)))))) args s rm_X6_burningIn.cells rm_X6_burningIn.slots (hm_A g)) (F0 m 8 ls []) := by
    intro n
    induction n with
    | zero =>
      intro i Mk hi0 hx hfr H locs ls hG hl
      obtain ⟨hX, hLs, hLr, hLh, h7, hLg, h70, hSe, hRu, hHu, hGr, hS6, hR6, hH5⟩ := id hx
      obtain ⟨fs1, hb1⟩ := hLs.ob
      obtain ⟨fs2, hb2⟩ := hLr.ob
      obtain ⟨fs3, hb3⟩ := hLh.ob
      obtain rfl : i = xR z := by omega
      refine lv_iload_n S.1 S.2.1 dX6_burningIn_8 rfl (lv_at hl 3 rfl) ?_
      refine lv_aload_n S.1 S.2.1 dX6_burningIn_9 rfl (lv_at hl 0 rfl) ?_
      refine hm_get (k := 1) S hE hG hX rfl rfl hi_X60 (by decide) hb_17 rfl rfl dX6_burningIn_10 ?_
      refine hm_uV (As := []) (rest := [.int (nI (xR z))]) (st1 := [.int (nI (xR z)), .int (nI (xR z))]) S hE hG (c_size l hLr) (hm_gV hb_97 hb_98 hb_99 hb_15 hb_100) hd_Jx4a65c_size_8abf5 rfl hb2 rfl rfl ⟨Nat.le_of_ble_eq_true rfl, Nat.le_of_ble_eq_true rfl⟩ rfl hl.1 rfl (Nat.le_of_ble_eq_true rfl) dX6_burningIn_13 ⟨Nat.le_of_ble_eq_true rfl, Nat.le_of_ble_eq_true rfl⟩ rfl (fun H locs hG => ?_)
      refine lv_icmp_ge (tgt := 69) S.1 S.2.1 dX6_burningIn_16 (by decide) (fun _ => ?_) (fun h9 => absurd (nI_le (Nat.le_refl _) (by omega)) h9)
      refine lv_iload_n S.1 S.2.1 dX6_burningIn_69 rfl (lv_at hl 2 rfl) ?_
      exact hm_iret S hG hr hlk (⟨rfl, rfl, hx, hfr⟩) (Nat.le_of_ble_eq_true rfl) (Nat.le_of_ble_eq_true rfl) dX6_burningIn_70
    | succ n ih8 =>
      intro i Mk hi0 hx hfr H locs ls hG hl
      obtain ⟨hX, hLs, hLr, hLh, h7, hLg, h70, hSe, hRu, hHu, hGr, hS6, hR6, hH5⟩ := id hx
      obtain ⟨fs1, hb1⟩ := hLs.ob
      obtain ⟨fs2, hb2⟩ := hLr.ob
      obtain ⟨fs3, hb3⟩ := hLh.ob
      have hi9 : i < xR z := by omega
      refine lv_iload_n S.1 S.2.1 dX6_burningIn_8 rfl (lv_at hl 3 rfl) ?_
      refine lv_aload_n S.1 S.2.1 dX6_burningIn_9 rfl (lv_at hl 0 rfl) ?_
      refine hm_get (k := 1) S hE hG hX rfl rfl hi_X60 (by decide) hb_17 rfl rfl dX6_burningIn_10 ?_
      refine hm_uV (As := []) (rest := [.int (nI i)]) (st1 := [.int (nI (xR z)), .int (nI i)]) S hE hG (c_size l hLr) (hm_gV hb_97 hb_98 hb_99 hb_15 hb_100) hd_Jx4a65c_size_8abf5 rfl hb2 rfl rfl ⟨Nat.le_of_ble_eq_true rfl, Nat.le_of_ble_eq_true rfl⟩ rfl hl.1 rfl (Nat.le_of_ble_eq_true rfl) dX6_burningIn_13 ⟨Nat.le_of_ble_eq_true rfl, Nat.le_of_ble_eq_true rfl⟩ rfl (fun H locs hG => ?_)
      refine lv_icmp_ge (tgt := 69) S.1 S.2.1 dX6_burningIn_16 (by decide) (fun h9 => absurd h9 (nI_ge hi9 (by omega))) (fun _ => ?_)
      refine lv_aload_n S.1 S.2.1 dX6_burningIn_19 rfl (lv_at hl 0 rfl) ?_
      refine hm_get (k := 1) S hE hG hX rfl rfl hi_X60 (by decide) hb_17 rfl rfl dX6_burningIn_20 ?_
      refine lv_iload_n S.1 S.2.1 dX6_burningIn_23 rfl (lv_at hl 3 rfl) ?_
      refine hm_uV (As := [.int (nI i)]) (rest := []) (st1 := [.ref (ad (20, i, 0))]) S hE hG (c_get l hLr i hi9) (hm_gV hb_208 hb_209 hb_210 hb_15 hb_211) hd_Jx4a65c_get_915e3 rfl hb2 rfl rfl ⟨Nat.le_of_ble_eq_true rfl, Nat.le_of_ble_eq_true rfl⟩ rfl hl.1 rfl (Nat.le_of_ble_eq_true rfl) dX6_burningIn_24 ⟨Nat.le_of_ble_eq_true rfl, Nat.le_of_ble_eq_true rfl⟩ rfl (fun H locs hG => ?_)
      refine hm_cast S hE hG (hRu i hi9).1 rfl rfl hb_207 dX6_burningIn_27 ?_
      refine lv_astore (lv' := [(4, .ref (ad (20, i, 0))), (0, .ref (ad (0, 0, 0))), (1, .int (nI nt)), (2, .int (nI (biN z nt i))), (3, .int (nI i))]) S.1 S.2.1 dX6_burningIn_30 hl (by decide) rfl (fun ls hl => ?_)
      refine lv_iconst (v := 0) S.1 S.2.1 dX6_burningIn_32 (by decide) ?_
      refine lv_istore (lv' := [(5, .int 0), (4, .ref (ad (20, i, 0))), (0, .ref (ad (0, 0, 0))), (1, .int (nI nt)), (2, .int (nI (biN z nt i))), (3, .int (nI i))]) S.1 S.2.1 dX6_burningIn_33 hl (by decide) rfl (fun ls hl => ?_)
      have L35_1 : ∀ (n : Nat) (k : Nat) (Mk : CT), n + k = 12 → hasX g ad Mk z → (∀ t : TG, 80 ≤ t.1 → Mk t = M0 t) → ∀ (H : Heap) (locs : List Loc) (ls : Array Slot), hm_G g ad Mk s.heap H locs → lv_has ls 6 [(0, .ref (ad (0, 0, 0))), (1, .int (nI nt)), (2, .int (nI (biN z nt i + cntB (wbF z nt i) k))), (3, .int (nI i)), (4, .ref (ad (20, i, 0))), (5, .int (nI k))] → W p l e rm_X6_burningIn s m args below meth c H locs 0 0 (MQ below (hm_Q g (hm_pX g ad M0 (z) (some (.int (nI (biX z nt)))))) args s rm_X6_burningIn.cells rm_X6_burningIn.slots (hm_A g)) (F0 m 35 ls []) := by
        intro n
        induction n with
        | zero =>
          intro k Mk hk0 hx hfr H locs ls hG hl
          obtain ⟨hX, hLs, hLr, hLh, h7, hLg, h70, hSe, hRu, hHu, hGr, hS6, hR6, hH5⟩ := id hx
          obtain ⟨fs1, hb1⟩ := hLs.ob
          obtain ⟨fs2, hb2⟩ := hLr.ob
          obtain ⟨fs3, hb3⟩ := hLh.ob
          obtain rfl : k = 12 := by omega
          refine lv_iload S.1 S.2.1 dX6_burningIn_35 (lv_at hl 5 rfl) ?_
          refine lv_bipush (v := 12) S.1 S.2.1 dX6_burningIn_37 (by decide) ?_
          refine lv_icmp_ge (tgt := 63) S.1 S.2.1 dX6_burningIn_39 (by decide) (fun _ => ?_) (fun h9 => absurd (by decide) h9)
          refine lv_iinc (v := nI (i + 1)) (lv' := [(3, .int (nI (i + 1))), (0, .ref (ad (0, 0, 0))), (1, .int (nI nt)), (2, .int (nI (biN z nt (i + 1)))), (4, .ref (ad (20, i, 0))), (5, .int (nI 12))]) S.1 S.2.1 dX6_burningIn_63 hl (k := 3) rfl (nI_1 i) (by decide) rfl (fun ls hl => ?_)
          refine lv_goto (tgt := 8) S.1 S.2.1 dX6_burningIn_66 (by decide) ?_
          exact ih8 (i + 1) _ (by omega) hx hfr _ _ _ hG (lv_sub hl [1, 2, 3, 0] rfl)
        | succ n ih35 =>
          intro k Mk hk0 hx hfr H locs ls hG hl
          obtain ⟨hX, hLs, hLr, hLh, h7, hLg, h70, hSe, hRu, hHu, hGr, hS6, hR6, hH5⟩ := id hx
          obtain ⟨fs1, hb1⟩ := hLs.ob
          obtain ⟨fs2, hb2⟩ := hLr.ob
          obtain ⟨fs3, hb3⟩ := hLh.ob
          have hk : k < 12 := by omega
          refine lv_iload S.1 S.2.1 dX6_burningIn_35 (lv_at hl 5 rfl) ?_
          refine lv_bipush (v := 12) S.1 S.2.1 dX6_burningIn_37 (by decide) ?_
          refine lv_icmp_ge (tgt := 63) S.1 S.2.1 dX6_burningIn_39 (by decide) (fun h9 => absurd h9 (nI_ge (b := 12) hk (by decide))) (fun _ => ?_)
          refine lv_aload_n S.1 S.2.1 dX6_burningIn_42 rfl (lv_at hl 0 rfl) ?_
          refine lv_aload S.1 S.2.1 dX6_burningIn_43 (lv_at hl 4 rfl) ?_
          refine lv_iload S.1 S.2.1 dX6_burningIn_45 (lv_at hl 5 rfl) ?_
          refine lv_iload_n S.1 S.2.1 dX6_burningIn_47 rfl (lv_at hl 1 rfl) ?_
          refine hm_xV (As := [.ref (ad (20, i, 0)), .int (nI k), .int (nI nt)]) (rest := []) (st1 := [.int (bI (wbF z nt i k))]) S hE hG (c_X6_wouldBurn l g ad Mk z hx i hi9 k hk nt (by omega)) (hm_gV hb_333 hb_334 hb_335 hb_2 hb_336) hd_X6_wouldBurn rfl hX rfl rfl ⟨Nat.le_of_ble_eq_true rfl, Nat.le_of_ble_eq_true rfl⟩ rfl hl.1 rfl (Nat.le_of_ble_eq_true rfl) dX6_burningIn_48 ⟨Nat.le_of_ble_eq_true rfl, Nat.le_of_ble_eq_true rfl⟩ rfl (fun M_3 H locs hx hfr1 hG => ?_)
          have hfr : ∀ t : TG, 80 ≤ t.1 → M_3 t = M0 t := fun t ht => (hfr1 t ht).trans (hfr t ht)
          obtain ⟨hX, hLs, hLr, hLh, h7, hLg, h70, hSe, hRu, hHu, hGr, hS6, hR6, hH5⟩ := id hx
          obtain ⟨fs1, hb1⟩ := hLs.ob
          obtain ⟨fs2, hb2⟩ := hLr.ob
          obtain ⟨fs3, hb3⟩ := hLh.ob
          refine lv_if_eq (tgt := 57) S.1 S.2.1 dX6_burningIn_51 (by decide) (fun c51 => ?_) (fun c51 => ?_)
          · skip
            have e9 : cntB (wbF z nt i) (k + 1) = cntB (wbF z nt i) k := cntB_f (bI_0.mp c51)
            rw [← e9] at hl
            refine lv_iinc (v := nI (k + 1)) (lv' := [(5, .int (nI (k + 1))), (0, .ref (ad (0, 0, 0))), (1, .int (nI nt)), (2, .int (nI (biN z nt i + cntB (wbF z nt i) (k + 1)))), (3, .int (nI i)), (4, .ref (ad (20, i, 0)))]) S.1 S.2.1 dX6_burningIn_57 hl (k := 5) rfl (nI_1 k) (by decide) rfl (fun ls hl => ?_)
            refine lv_goto (tgt := 35) S.1 S.2.1 dX6_burningIn_60 (by decide) ?_
            exact ih35 (k + 1) _ (by omega) hx hfr _ _ _ hG (lv_sub hl [1, 2, 3, 4, 5, 0] rfl)
          · skip
            refine lv_iinc (v := nI (biN z nt i + cntB (wbF z nt i) (k + 1))) (lv' := [(2, .int (nI (biN z nt i + cntB (wbF z nt i) (k + 1)))), (0, .ref (ad (0, 0, 0))), (1, .int (nI nt)), (3, .int (nI i)), (4, .ref (ad (20, i, 0))), (5, .int (nI k))]) S.1 S.2.1 dX6_burningIn_54 hl (k := 2) rfl (by rw [cntB_t (bI_ne.mp c51)]; exact nI_1 _) (by decide) rfl (fun ls hl => ?_)
            refine lv_iinc (v := nI (k + 1)) (lv' := [(5, .int (nI (k + 1))), (2, .int (nI (biN z nt i + cntB (wbF z nt i) (k + 1)))), (0, .ref (ad (0, 0, 0))), (1, .int (nI nt)), (3, .int (nI i)), (4, .ref (ad (20, i, 0)))]) S.1 S.2.1 dX6_burningIn_57 hl (k := 5) rfl (nI_1 k) (by decide) rfl (fun ls hl => ?_)
            refine lv_goto (tgt := 35) S.1 S.2.1 dX6_burningIn_60 (by decide) ?_
            exact ih35 (k + 1) _ (by omega) hx hfr _ _ _ hG (lv_sub hl [2, 3, 1, 4, 5, 0] rfl)
      exact L35_1 12 0 Mk rfl hx hfr _ _ _ hG (lv_sub hl [2, 3, 4, 5, 1, 0] rfl)
  exact L8_0 (xR z) 0 M0 rfl hx hfr _ _ _ hG (lv_sub hl [2, 3, 1, 0] rfl)
