abbrev rm_L_below : Room := { frames := 0, cells := 0, slots := 0, locals := 0 }
set_option maxHeartbeats 4000000 in
set_option maxRecDepth 100000 in
theorem c_L_below (l : Launch) (g : GV) (ad : AD) (M : CT) (v : Int32) (n : Nat) (h0 : 0 < n) (h1 : n < 2 ^ 31) : hm_Met l yL_below cL_below 2 (some .int) rm_L_below g ad M [.int v, .int (nI n)] (hm_pU ad M (some (.int (nI (bwF v n))))) := by
  refine hm_start (own := RL) (by decide) rfl (Nat.le_of_ble_eq_true rfl) ?_
  intro p e s m args below meth c S hr hlk hnm hE hG ls hl
  have hl : lv_has ls 2 [(0, .int v), (1, .int (nI n))] := hl
  refine lv_iload_n S.1 S.2.1 dL_below_0 rfl (lv_at hl 0 rfl) ?_
  refine lv_ldc S.1 S.2.1 S.2.2.2.1 (S.2.2.2.2 _ hb_79) dL_below_1 ?_
  refine lv_iand S.1 S.2.1 dL_below_3 ?_
  refine hm_top (z := nI (aw v)) (clamp_nI (and_nn v)) ?_
  refine lv_iload_n S.1 S.2.1 dL_below_4 rfl (lv_at hl 1 rfl) ?_
  refine lv_irem S.1 S.2.1 dL_below_5 (nI_ne0 h0 h1) ?_
  refine hm_top (z := nI (bwF v n)) (bw_eq v h0 h1) ?_
  exact hm_iret S hG hr hlk (⟨rfl, rfl, rfl⟩) (Nat.le_of_ble_eq_true rfl) (Nat.le_of_ble_eq_true rfl) dL_below_6

abbrev rm_L_cell : Room := { frames := 0, cells := 0, slots := 0, locals := 0 }
theorem c_L_cell (l : Launch) (g : GV) (ad : AD) (M : CT) (b L : Nat) (xs : Nat → Int32) (k : Nat) (hL : L ≤ 260) (hk : k < 1000) : Met l yL_cell (hm_ws yL_cell cL_cell 2 (some .int)) rm_L_cell (va_Pc [.ref b, .int (nI k)] (fun U => (hm_E g U U.heap ∧ hm_P g ad M U.heap) ∧ hm_sc g b L xs U)) (hm_Q g (hm_pU ad M (some (.int (ceF L xs k))))) rm_L_cell.cells rm_L_cell.slots (hm_A g) := by
  refine hm_startX (own := RL) (by decide) rfl (Nat.le_of_ble_eq_true rfl) ?_
  intro p e s m args below meth c S hr hlk hnm hE hG hX ls hl
  have hl : lv_has ls 2 [(0, .ref b), (1, .int (nI k))] := hl
  refine lv_iload_n S.1 S.2.1 dL_cell_0 rfl (lv_at hl 1 rfl) ?_
  refine lv_aload_n S.1 S.2.1 dL_cell_1 rfl (lv_at hl 0 rfl) ?_
  refine va_slen S.1 S.2.1 hX.1 hX.2.1 hX.2.2 hG.2 dL_cell_2 ?_
  refine lv_icmp_ge (tgt := 12) S.1 S.2.1 dL_cell_3 (by decide) (fun c3 => ?_) (fun c3 => ?_)
  · have e3 : L ≤ k := hm_leI (by omega) (by omega) c3
    refine lv_ldc S.1 S.2.1 S.2.2.2.1 (S.2.2.2.2 _ hb_75) dL_cell_12 ?_
    refine lv_iload_n S.1 S.2.1 dL_cell_14 rfl (lv_at hl 1 rfl) ?_
    refine lv_iconst (v := 3) S.1 S.2.1 dL_cell_15 (by decide) ?_
    refine lv_iadd S.1 S.2.1 dL_cell_16 ?_
    refine lv_imul S.1 S.2.1 dL_cell_17 ?_
    exact hm_iret S hG hr hlk ⟨by rw [ceF, if_neg (by omega)], rfl, rfl⟩ (Nat.le_of_ble_eq_true rfl) (Nat.le_of_ble_eq_true rfl) dL_cell_18
  · have e3 : k < L := hm_nleI (by omega) (by omega) c3
    refine lv_aload_n S.1 S.2.1 dL_cell_6 rfl (lv_at hl 0 rfl) ?_
    refine lv_iload_n S.1 S.2.1 dL_cell_7 rfl (lv_at hl 1 rfl) ?_
    refine va_sld S.1 S.2.1 hX.1 hX.2.1 hX.2.2 hG.2 (vp_in_nI e3 (by omega)) dL_cell_8 ?_
    refine hm_top (z := ceF L xs k) (by rw [ceF, if_pos e3, nI_clamp (by omega)]) ?_
    refine lv_goto (tgt := 18) S.1 S.2.1 dL_cell_9 (by decide) ?_
    exact hm_iret S hG hr hlk ⟨rfl, rfl, rfl⟩ (Nat.le_of_ble_eq_true rfl) (Nat.le_of_ble_eq_true rfl) dL_cell_18
