abbrev rm_X5_growthOf : Room := { frames := 1, cells := 0, slots := 0, locals := 24 }
set_option maxHeartbeats 4000000 in
set_option maxRecDepth 100000 in
theorem c_X5_growthOf (l : Launch) (g : GV) (ad : AD) (M : CT) (i : Nat) (s0 : SeD) (hs : hasSe g ad M i s0) (k w a : Nat) (hk : k < 6) (hw : w < 100) (ha : a < 100) : hm_Met l yX5_growthOf cX5_growthOf 8 (some .int) rm_X5_growthOf g ad M [.ref (ad (10, i, 0)), .int (nI k), .int (nI w), .int (nI a)] (hm_pU ad M (some (.int (grF s0 k w a)))) := by
  refine hm_start (own := RX5) (by decide) rfl (Nat.le_of_ble_eq_true rfl) ?_
  intro p e s m args below meth c S hr hlk hnm hE hG ls hl
  have hl : lv_has ls 8 [(0, .ref (ad (10, i, 0))), (1, .int (nI k)), (2, .int (nI w)), (3, .int (nI a))] := hl
  obtain ⟨h10, h11, h12, h13, hla, hhe, hi⟩ := id hs
  refine lv_iconst (v := 0) S.1 S.2.1 dX5_growthOf_0 (by decide) ?_
  refine lv_istore (lv' := [(4, .int 0), (0, .ref (ad (10, i, 0))), (1, .int (nI k)), (2, .int (nI w)), (3, .int (nI a))]) S.1 S.2.1 dX5_growthOf_1 hl (by decide) rfl (fun ls hl => ?_)
  refine lv_iload_n S.1 S.2.1 dX5_growthOf_3 rfl (lv_at hl 3 rfl) ?_
  refine lv_iconst (v := 1) S.1 S.2.1 dX5_growthOf_4 (by decide) ?_
  refine lv_iadd S.1 S.2.1 dX5_growthOf_5 ?_
  refine hm_top (z := nI (w + 1)) (nI_1 w) ?_
  refine lv_aload_n S.1 S.2.1 dX5_growthOf_6 rfl (lv_at hl 1 rfl) ?_
  refine hm_get (k := 7) S hE hG h10 rfl rfl hi_X50 (by decide) hb_110 rfl rfl dX5_growthOf_7 ?_
  refine lv_iload_n S.1 S.2.1 dX5_growthOf_10 rfl (lv_at hl 4 rfl) ?_
  refine lv_iadd S.1 S.2.1 dX5_growthOf_11 ?_
  refine hm_top (z := nI (sHe s0 + a)) (nI_add _ _) ?_
  refine hm_min (z := nI (min (w + 1) (sHe s0 + a))) S hb_372 hb_4 hb_5 hb_6 hl.1 (Nat.le_of_ble_eq_true rfl) (Nat.le_of_ble_eq_true rfl) (Nat.le_of_ble_eq_true rfl) (Nat.le_of_ble_eq_true rfl) (hm_minN _ _ (by omega) (by omega)) dX5_growthOf_12 ?_
  rcases Nat.eq_zero_or_pos (min (w + 1) (sHe s0 + a)) with hm0 | hm0
  · skip
    refine lv_iconst (v := 1) S.1 S.2.1 dX5_growthOf_15 (by decide) ?_
    refine lv_isub S.1 S.2.1 dX5_growthOf_16 ?_
    refine hm_top (z := -1) (by rw [hm0]; decide) ?_
    refine lv_istore (lv' := [(5, .int (-1)), (4, .int 0), (0, .ref (ad (10, i, 0))), (1, .int (nI k)), (2, .int (nI w)), (3, .int (nI a))]) S.1 S.2.1 dX5_growthOf_17 hl (by decide) rfl (fun ls hl => ?_)
    refine lv_iload S.1 S.2.1 dX5_growthOf_19 (lv_at hl 0 rfl) ?_
    refine lv_if_le (tgt := 72) S.1 S.2.1 dX5_growthOf_21 (by decide) (fun _ => ?_) (fun h9 => absurd (by decide) h9)
    refine lv_iload S.1 S.2.1 dX5_growthOf_72 (lv_at hl 1 rfl) ?_
    exact hm_iret S hG hr hlk (⟨by rw [grF, hm0]; rfl, rfl, rfl⟩) (Nat.le_of_ble_eq_true rfl) (Nat.le_of_ble_eq_true rfl) dX5_growthOf_74
  · skip
    refine lv_iconst (v := 1) S.1 S.2.1 dX5_growthOf_15 (by decide) ?_
    refine lv_isub S.1 S.2.1 dX5_growthOf_16 ?_
    refine hm_top (z := nI ((min (w + 1) (sHe s0 + a)) - 1)) (pk_sub (b := 1) hm0) ?_
    refine lv_istore (lv' := [(5, .int (nI ((min (w + 1) (sHe s0 + a)) - 1))), (4, .int 0), (0, .ref (ad (10, i, 0))), (1, .int (nI k)), (2, .int (nI w)), (3, .int (nI a))]) S.1 S.2.1 dX5_growthOf_17 hl (by decide) rfl (fun ls hl => ?_)
    have L19_0 : ∀ (n : Nat) (acc : Int32), grL s0 k a n acc = grF s0 k w a → n < 100 → ∀ (H : Heap) (locs : List Loc) (ls : Array Slot), hm_G g ad M s.heap H locs → lv_has ls 8 [(0, .ref (ad (10, i, 0))), (1, .int (nI k)), (2, .int (nI w)), (3, .int (nI a)), (4, .int acc), (5, .int (nI n))] → W p l e rm_X5_growthOf s m args below meth c H locs 0 0 (MQ below (hm_Q g (hm_pU ad M (some (.int (grF s0 k w a))))) args s rm_X5_growthOf.cells rm_X5_growthOf.slots (hm_A g)) (F0 m 19 ls []) := by
      intro n
      induction n with
      | zero =>
        intro acc hF hn H locs ls hG hl
        refine lv_iload S.1 S.2.1 dX5_growthOf_19 (lv_at hl 5 rfl) ?_
        refine lv_if_le (tgt := 72) S.1 S.2.1 dX5_growthOf_21 (by decide) (fun _ => ?_) (fun h9 => absurd (by decide) h9)
        refine lv_iload S.1 S.2.1 dX5_growthOf_72 (lv_at hl 4 rfl) ?_
        exact hm_iret S hG hr hlk (⟨by rw [← hF]; rfl, rfl, rfl⟩) (Nat.le_of_ble_eq_true rfl) (Nat.le_of_ble_eq_true rfl) dX5_growthOf_74
      | succ n ih =>
        intro acc hF hn H locs ls hG hl
        refine lv_iload S.1 S.2.1 dX5_growthOf_19 (lv_at hl 5 rfl) ?_
        refine lv_if_le (tgt := 72) S.1 S.2.1 dX5_growthOf_21 (by decide) (fun h9 => absurd h9 (nI_nle (Nat.succ_pos _) (by omega))) (fun _ => ?_)
        refine lv_aload_n S.1 S.2.1 dX5_growthOf_24 rfl (lv_at hl 0 rfl) ?_
        refine lv_iload_n S.1 S.2.1 dX5_growthOf_25 rfl (lv_at hl 1 rfl) ?_
        refine lv_iload S.1 S.2.1 dX5_growthOf_26 (lv_at hl 5 rfl) ?_
        refine lv_iconst (v := 1) S.1 S.2.1 dX5_growthOf_28 (by decide) ?_
        refine lv_isub S.1 S.2.1 dX5_growthOf_29 ?_
        refine hm_top (z := nI n) (nI_pred n) ?_
        refine lv_iload_n S.1 S.2.1 dX5_growthOf_30 rfl (lv_at hl 3 rfl) ?_
        refine hm_uV (As := [.int (nI k), .int (nI n), .int (nI a)]) (rest := []) (st1 := [.int (pastF s0 k n a)]) S hE hG (c_X5_past l g ad M i s0 hs k n a (by omega) (by omega) (by omega)) (hm_gV hb_364 hb_365 hb_366 hb_90 hb_367) hd_X5_past rfl h10 rfl rfl ⟨Nat.le_of_ble_eq_true rfl, Nat.le_of_ble_eq_true rfl⟩ rfl hl.1 rfl (Nat.le_of_ble_eq_true rfl) dX5_growthOf_31 ⟨Nat.le_of_ble_eq_true rfl, Nat.le_of_ble_eq_true rfl⟩ rfl (fun H locs hG => ?_)
        refine lv_istore (lv' := [(6, .int (pastF s0 k n a)), (0, .ref (ad (10, i, 0))), (1, .int (nI k)), (2, .int (nI w)), (3, .int (nI a)), (4, .int acc), (5, .int (nI (n + 1)))]) S.1 S.2.1 dX5_growthOf_34 hl (by decide) rfl (fun ls hl => ?_)
        refine lv_iload S.1 S.2.1 dX5_growthOf_36 (lv_at hl 0 rfl) ?_
        refine lv_aload_n S.1 S.2.1 dX5_growthOf_38 rfl (lv_at hl 1 rfl) ?_
        refine lv_iload_n S.1 S.2.1 dX5_growthOf_39 rfl (lv_at hl 2 rfl) ?_
        refine lv_iload S.1 S.2.1 dX5_growthOf_40 (lv_at hl 6 rfl) ?_
        refine lv_iload_n S.1 S.2.1 dX5_growthOf_42 rfl (lv_at hl 4 rfl) ?_
        refine hm_uV (As := [.int (nI k), .int (nI (n + 1)), .int (nI a)]) (rest := [.int (pastF s0 k n a)]) (st1 := [.int (pastF s0 k (n + 1) a), .int (pastF s0 k n a)]) S hE hG (c_X5_past l g ad M i s0 hs k (n + 1) a (by omega) (by omega) (by omega)) (hm_gV hb_364 hb_365 hb_366 hb_90 hb_367) hd_X5_past rfl h10 rfl rfl ⟨Nat.le_of_ble_eq_true rfl, Nat.le_of_ble_eq_true rfl⟩ rfl hl.1 rfl (Nat.le_of_ble_eq_true rfl) dX5_growthOf_43 ⟨Nat.le_of_ble_eq_true rfl, Nat.le_of_ble_eq_true rfl⟩ rfl (fun H locs hG => ?_)
        refine lv_isub S.1 S.2.1 dX5_growthOf_46 ?_
        refine lv_istore (lv' := [(7, .int ((pastF s0 k n a) - (pastF s0 k (n + 1) a))), (6, .int (pastF s0 k n a)), (0, .ref (ad (10, i, 0))), (1, .int (nI k)), (2, .int (nI w)), (3, .int (nI a)), (4, .int acc), (5, .int (nI (n + 1)))]) S.1 S.2.1 dX5_growthOf_47 hl (by decide) rfl (fun ls hl => ?_)
        refine lv_iload S.1 S.2.1 dX5_growthOf_49 (lv_at hl 6 rfl) ?_
        refine lv_iload S.1 S.2.1 dX5_growthOf_51 (lv_at hl 0 rfl) ?_
        refine lv_if_ge (tgt := 61) S.1 S.2.1 dX5_growthOf_53 (by decide) (fun c53 => ?_) (fun c53 => ?_)
        · skip
          refine lv_iload S.1 S.2.1 dX5_growthOf_61 (lv_at hl 0 rfl) ?_
          refine lv_iadd S.1 S.2.1 dX5_growthOf_63 ?_
          refine lv_istore (lv' := [(4, .int (acc + ((pastF s0 k n a) - (pastF s0 k (n + 1) a)))), (7, .int ((pastF s0 k n a) - (pastF s0 k (n + 1) a))), (6, .int (pastF s0 k n a)), (0, .ref (ad (10, i, 0))), (1, .int (nI k)), (2, .int (nI w)), (3, .int (nI a)), (5, .int (nI (n + 1)))]) S.1 S.2.1 dX5_growthOf_64 hl (by decide) rfl (fun ls hl => ?_)
          refine lv_iinc (v := nI n) (lv' := [(5, .int (nI n)), (4, .int (acc + ((pastF s0 k n a) - (pastF s0 k (n + 1) a)))), (7, .int ((pastF s0 k n a) - (pastF s0 k (n + 1) a))), (6, .int (pastF s0 k n a)), (0, .ref (ad (10, i, 0))), (1, .int (nI k)), (2, .int (nI w)), (3, .int (nI a))]) S.1 S.2.1 dX5_growthOf_66 hl (k := 7) rfl (by rw [show Int32.ofInt (-1) = -1 by decide]; exact pk_m1 n) (by decide) rfl (fun ls hl => ?_)
          refine lv_goto (tgt := 19) S.1 S.2.1 dX5_growthOf_69 (by decide) ?_
          exact ih (acc + ((pastF s0 k n a) - (pastF s0 k (n + 1) a))) (by rw [← hF, grL, grStep, if_neg (Int32.not_lt.mpr c53)]) (by omega) _ _ _ hG (lv_sub hl [4, 5, 6, 7, 1, 0] rfl)
        · skip
          refine lv_iload S.1 S.2.1 dX5_growthOf_56 (lv_at hl 1 rfl) ?_
          refine lv_goto (tgt := 63) S.1 S.2.1 dX5_growthOf_58 (by decide) ?_
          refine lv_iadd S.1 S.2.1 dX5_growthOf_63 ?_
          refine lv_istore (lv' := [(4, .int (acc + (pastF s0 k n a))), (7, .int ((pastF s0 k n a) - (pastF s0 k (n + 1) a))), (6, .int (pastF s0 k n a)), (0, .ref (ad (10, i, 0))), (1, .int (nI k)), (2, .int (nI w)), (3, .int (nI a)), (5, .int (nI (n + 1)))]) S.1 S.2.1 dX5_growthOf_64 hl (by decide) rfl (fun ls hl => ?_)
          refine lv_iinc (v := nI n) (lv' := [(5, .int (nI n)), (4, .int (acc + (pastF s0 k n a))), (7, .int ((pastF s0 k n a) - (pastF s0 k (n + 1) a))), (6, .int (pastF s0 k n a)), (0, .ref (ad (10, i, 0))), (1, .int (nI k)), (2, .int (nI w)), (3, .int (nI a))]) S.1 S.2.1 dX5_growthOf_66 hl (k := 7) rfl (by rw [show Int32.ofInt (-1) = -1 by decide]; exact pk_m1 n) (by decide) rfl (fun ls hl => ?_)
          refine lv_goto (tgt := 19) S.1 S.2.1 dX5_growthOf_69 (by decide) ?_
          exact ih (acc + (pastF s0 k n a)) (by rw [← hF, grL, grStep, if_pos (Int32.not_le.mp c53)]) (by omega) _ _ _ hG (lv_sub hl [4, 5, 6, 7, 1, 0] rfl)
    exact L19_0 ((min (w + 1) (sHe s0 + a)) - 1) 0 rfl (by omega) _ _ _ hG (lv_sub hl [2, 3, 4, 5, 1, 0] rfl)

abbrev rm_X5_meanOver : Room := { frames := 1, cells := 0, slots := 0, locals := 24 }
set_option maxHeartbeats 4000000 in
set_option maxRecDepth 100000 in
theorem c_X5_meanOver (l : Launch) (g : GV) (ad : AD) (M : CT) (i : Nat) (s0 : SeD) (hs : hasSe g ad M i s0) (w a : Nat) (hw : w < 100) (ha : a < 100) : hm_Met l yX5_meanOver cX5_meanOver 6 (some .int) rm_X5_meanOver g ad M [.ref (ad (10, i, 0)), .int (nI w), .int (nI a)] (hm_pU ad M (some (.int (meanF s0 w a)))) := by
  refine hm_start (own := RX5) (by decide) rfl (Nat.le_of_ble_eq_true rfl) ?_
  intro p e s m args below meth c S hr hlk hnm hE hG ls hl
  have hl : lv_has ls 6 [(0, .ref (ad (10, i, 0))), (1, .int (nI w)), (2, .int (nI a))] := hl
  obtain ⟨h10, h11, h12, h13, hla, hhe, hi⟩ := id hs
  refine lv_iload_n S.1 S.2.1 dX5_meanOver_0 rfl (lv_at hl 1 rfl) ?_
  refine lv_aload_n S.1 S.2.1 dX5_meanOver_1 rfl (lv_at hl 0 rfl) ?_
  refine hm_get (k := 7) S hE hG h10 rfl rfl hi_X50 (by decide) hb_110 rfl rfl dX5_meanOver_2 ?_
  refine lv_iload_n S.1 S.2.1 dX5_meanOver_5 rfl (lv_at hl 2 rfl) ?_
  refine lv_iadd S.1 S.2.1 dX5_meanOver_6 ?_
  refine hm_top (z := nI (sHe s0 + a)) (nI_add _ _) ?_
  refine hm_min (z := nI (min w (sHe s0 + a))) S hb_372 hb_4 hb_5 hb_6 hl.1 (Nat.le_of_ble_eq_true rfl) (Nat.le_of_ble_eq_true rfl) (Nat.le_of_ble_eq_true rfl) (Nat.le_of_ble_eq_true rfl) (hm_minN _ _ (by omega) (by omega)) dX5_meanOver_7 ?_
  refine lv_istore_n (lv' := [(3, .int (nI (min w (sHe s0 + a)))), (0, .ref (ad (10, i, 0))), (1, .int (nI w)), (2, .int (nI a))]) S.1 S.2.1 dX5_meanOver_10 rfl hl (by decide) rfl (fun ls hl => ?_)
  refine lv_iconst (v := 0) S.1 S.2.1 dX5_meanOver_11 (by decide) ?_
  refine lv_istore (lv' := [(4, .int 0), (3, .int (nI (min w (sHe s0 + a)))), (0, .ref (ad (10, i, 0))), (1, .int (nI w)), (2, .int (nI a))]) S.1 S.2.1 dX5_meanOver_12 hl (by decide) rfl (fun ls hl => ?_)
  refine lv_iconst (v := 0) S.1 S.2.1 dX5_meanOver_14 (by decide) ?_
  refine lv_istore (lv' := [(5, .int 0), (4, .int 0), (3, .int (nI (min w (sHe s0 + a)))), (0, .ref (ad (10, i, 0))), (1, .int (nI w)), (2, .int (nI a))]) S.1 S.2.1 dX5_meanOver_15 hl (by decide) rfl (fun ls hl => ?_)
  have L17_0 : ∀ (n : Nat) (b : Nat), b + n = (min w (sHe s0 + a)) → ∀ (H : Heap) (locs : List Loc) (ls : Array Slot), hm_G g ad M s.heap H locs → lv_has ls 6 [(0, .ref (ad (10, i, 0))), (1, .int (nI w)), (2, .int (nI a)), (3, .int (nI (min w (sHe s0 + a)))), (4, .int (sumF s0 a b)), (5, .int (nI b))] → W p l e rm_X5_meanOver s m args below meth c H locs 0 0 (MQ below (hm_Q g (hm_pU ad M (some (.int (meanF s0 w a))))) args s rm_X5_meanOver.cells rm_X5_meanOver.slots (hm_A g)) (F0 m 17 ls []) := by
    intro n
    induction n with
    | zero =>
      intro b hb H locs ls hG hl
      obtain rfl : b = (min w (sHe s0 + a)) := by omega
      refine lv_iload S.1 S.2.1 dX5_meanOver_17 (lv_at hl 5 rfl) ?_
      refine lv_iload_n S.1 S.2.1 dX5_meanOver_19 rfl (lv_at hl 3 rfl) ?_
      refine lv_icmp_ge (tgt := 42) S.1 S.2.1 dX5_meanOver_20 (by decide) (fun _ => ?_) (fun h9 => absurd (nI_le (Nat.le_refl _) (by omega)) h9)
      rcases Nat.eq_zero_or_pos (min w (sHe s0 + a)) with hm0 | hm0
      · skip
        refine lv_iload_n S.1 S.2.1 dX5_meanOver_42 rfl (lv_at hl 3 rfl) ?_
        refine lv_if_le (tgt := 53) S.1 S.2.1 dX5_meanOver_43 (by decide) (fun _ => ?_) (fun h9 => absurd (by rw [hm0]; decide) h9)
        refine lv_iconst (v := 0) S.1 S.2.1 dX5_meanOver_53 (by decide) ?_
        exact hm_iret S hG hr hlk (⟨by rw [meanF, if_pos hm0], rfl, rfl⟩) (Nat.le_of_ble_eq_true rfl) (Nat.le_of_ble_eq_true rfl) dX5_meanOver_54
      · skip
        refine lv_iload_n S.1 S.2.1 dX5_meanOver_42 rfl (lv_at hl 3 rfl) ?_
        refine lv_if_le (tgt := 53) S.1 S.2.1 dX5_meanOver_43 (by decide) (fun h9 => absurd h9 (nI_nle hm0 (by omega))) (fun _ => ?_)
        refine lv_iload S.1 S.2.1 dX5_meanOver_46 (lv_at hl 4 rfl) ?_
        refine lv_iload_n S.1 S.2.1 dX5_meanOver_48 rfl (lv_at hl 3 rfl) ?_
        refine lv_idiv S.1 S.2.1 dX5_meanOver_49 (nI_ne0 hm0 (by omega)) ?_
        refine lv_goto (tgt := 54) S.1 S.2.1 dX5_meanOver_50 (by decide) ?_
        exact hm_iret S hG hr hlk (⟨by rw [meanF, if_neg (by omega)], rfl, rfl⟩) (Nat.le_of_ble_eq_true rfl) (Nat.le_of_ble_eq_true rfl) dX5_meanOver_54
    | succ n ih =>
      intro b hb H locs ls hG hl
      refine lv_iload S.1 S.2.1 dX5_meanOver_17 (lv_at hl 5 rfl) ?_
      refine lv_iload_n S.1 S.2.1 dX5_meanOver_19 rfl (lv_at hl 3 rfl) ?_
      refine lv_icmp_ge (tgt := 42) S.1 S.2.1 dX5_meanOver_20 (by decide) (fun h9 => absurd h9 (nI_ge (by omega) (by omega))) (fun _ => ?_)
      refine lv_iload S.1 S.2.1 dX5_meanOver_23 (lv_at hl 4 rfl) ?_
      refine lv_aload_n S.1 S.2.1 dX5_meanOver_25 rfl (lv_at hl 0 rfl) ?_
      refine lv_iconst (v := 0) S.1 S.2.1 dX5_meanOver_26 (by decide) ?_
      refine lv_iload S.1 S.2.1 dX5_meanOver_27 (lv_at hl 5 rfl) ?_
      refine lv_iload_n S.1 S.2.1 dX5_meanOver_29 rfl (lv_at hl 2 rfl) ?_
      refine hm_uV (As := [.int 0, .int (nI b), .int (nI a)]) (rest := [.int (sumF s0 a b)]) (st1 := [.int (pastF s0 0 b a), .int (sumF s0 a b)]) S hE hG (c_X5_past l g ad M i s0 hs 0 b a (by omega) (by omega) (by omega)) (hm_gV hb_364 hb_365 hb_366 hb_90 hb_367) hd_X5_past rfl h10 rfl rfl ⟨Nat.le_of_ble_eq_true rfl, Nat.le_of_ble_eq_true rfl⟩ rfl hl.1 rfl (Nat.le_of_ble_eq_true rfl) dX5_meanOver_30 ⟨Nat.le_of_ble_eq_true rfl, Nat.le_of_ble_eq_true rfl⟩ rfl (fun H locs hG => ?_)
      refine lv_iadd S.1 S.2.1 dX5_meanOver_33 ?_
      refine hm_top (z := sumF s0 a (b + 1)) (rfl) ?_
      refine lv_istore (lv' := [(4, .int (sumF s0 a (b + 1))), (0, .ref (ad (10, i, 0))), (1, .int (nI w)), (2, .int (nI a)), (3, .int (nI (min w (sHe s0 + a)))), (5, .int (nI b))]) S.1 S.2.1 dX5_meanOver_34 hl (by decide) rfl (fun ls hl => ?_)
      refine lv_iinc (v := nI (b + 1)) (lv' := [(5, .int (nI (b + 1))), (4, .int (sumF s0 a (b + 1))), (0, .ref (ad (10, i, 0))), (1, .int (nI w)), (2, .int (nI a)), (3, .int (nI (min w (sHe s0 + a))))]) S.1 S.2.1 dX5_meanOver_36 hl (k := 5) rfl (nI_1 b) (by decide) rfl (fun ls hl => ?_)
      refine lv_goto (tgt := 17) S.1 S.2.1 dX5_meanOver_39 (by decide) ?_
      exact ih (b + 1) (by omega) _ _ _ hG (lv_sub hl [2, 3, 4, 5, 1, 0] rfl)
  exact L17_0 (min w (sHe s0 + a)) 0 (by omega) _ _ _ hG (lv_sub hl [3, 4, 5, 2, 1, 0] rfl)

abbrev rm_X5_utmostOver : Room := { frames := 1, cells := 0, slots := 0, locals := 24 }
set_option maxHeartbeats 4000000 in
set_option maxRecDepth 100000 in
theorem c_X5_utmostOver (l : Launch) (g : GV) (ad : AD) (M : CT) (i : Nat) (s0 : SeD) (hs : hasSe g ad M i s0) (w a : Nat) (mo : Bool) (hw : w < 100) (ha : a < 100) : hm_Met l yX5_utmostOver cX5_utmostOver 8 (some .int) rm_X5_utmostOver g ad M [.ref (ad (10, i, 0)), .int (nI w), .int (nI a), .int (bI mo)] (hm_pU ad M (some (.int (utF s0 w a mo)))) := by
  refine hm_start (own := RX5) (by decide) rfl (Nat.le_of_ble_eq_true rfl) ?_
  intro p e s m args below meth c S hr hlk hnm hE hG ls hl
  have hl : lv_has ls 8 [(0, .ref (ad (10, i, 0))), (1, .int (nI w)), (2, .int (nI a)), (3, .int (bI mo))] := hl
  obtain ⟨h10, h11, h12, h13, hla, hhe, hi⟩ := id hs
  refine lv_iload_n S.1 S.2.1 dX5_utmostOver_0 rfl (lv_at hl 1 rfl) ?_
  refine lv_aload_n S.1 S.2.1 dX5_utmostOver_1 rfl (lv_at hl 0 rfl) ?_
  refine hm_get (k := 7) S hE hG h10 rfl rfl hi_X50 (by decide) hb_110 rfl rfl dX5_utmostOver_2 ?_
  refine lv_iload_n S.1 S.2.1 dX5_utmostOver_5 rfl (lv_at hl 2 rfl) ?_
  refine lv_iadd S.1 S.2.1 dX5_utmostOver_6 ?_
  refine hm_top (z := nI (sHe s0 + a)) (nI_add _ _) ?_
  refine hm_min (z := nI (min w (sHe s0 + a))) S hb_372 hb_4 hb_5 hb_6 hl.1 (Nat.le_of_ble_eq_true rfl) (Nat.le_of_ble_eq_true rfl) (Nat.le_of_ble_eq_true rfl) (Nat.le_of_ble_eq_true rfl) (hm_minN _ _ (by omega) (by omega)) dX5_utmostOver_7 ?_
  refine lv_istore (lv' := [(4, .int (nI (min w (sHe s0 + a)))), (0, .ref (ad (10, i, 0))), (1, .int (nI w)), (2, .int (nI a)), (3, .int (bI mo))]) S.1 S.2.1 dX5_utmostOver_10 hl (by decide) rfl (fun ls hl => ?_)
  refine lv_aload_n S.1 S.2.1 dX5_utmostOver_12 rfl (lv_at hl 1 rfl) ?_
  refine lv_iconst (v := 0) S.1 S.2.1 dX5_utmostOver_13 (by decide) ?_
  refine lv_iconst (v := 0) S.1 S.2.1 dX5_utmostOver_14 (by decide) ?_
  refine lv_iload_n S.1 S.2.1 dX5_utmostOver_15 rfl (lv_at hl 3 rfl) ?_
  refine hm_uV (As := [.int 0, .int 0, .int (nI a)]) (rest := []) (st1 := [.int (pastF s0 0 0 a)]) S hE hG (c_X5_past l g ad M i s0 hs 0 0 a (by omega) (by omega) (by omega)) (hm_gV hb_364 hb_365 hb_366 hb_90 hb_367) hd_X5_past rfl h10 rfl rfl ⟨Nat.le_of_ble_eq_true rfl, Nat.le_of_ble_eq_true rfl⟩ rfl hl.1 rfl (Nat.le_of_ble_eq_true rfl) dX5_utmostOver_16 ⟨Nat.le_of_ble_eq_true rfl, Nat.le_of_ble_eq_true rfl⟩ rfl (fun H locs hG => ?_)
  refine lv_istore (lv' := [(5, .int (pastF s0 0 0 a)), (4, .int (nI (min w (sHe s0 + a)))), (0, .ref (ad (10, i, 0))), (1, .int (nI w)), (2, .int (nI a)), (3, .int (bI mo))]) S.1 S.2.1 dX5_utmostOver_19 hl (by decide) rfl (fun ls hl => ?_)
  refine lv_iconst (v := 1) S.1 S.2.1 dX5_utmostOver_21 (by decide) ?_
  refine lv_istore (lv' := [(6, .int 1), (5, .int (pastF s0 0 0 a)), (4, .int (nI (min w (sHe s0 + a)))), (0, .ref (ad (10, i, 0))), (1, .int (nI w)), (2, .int (nI a)), (3, .int (bI mo))]) S.1 S.2.1 dX5_utmostOver_22 hl (by decide) rfl (fun ls hl => ?_)
  have L24_0 : ∀ (n : Nat) (b : Nat), b + 1 + n = max 1 (min w (sHe s0 + a)) → b < 100 → ∀ (H : Heap) (locs : List Loc) (ls : Array Slot), hm_G g ad M s.heap H locs → lv_has ls 8 [(0, .ref (ad (10, i, 0))), (1, .int (nI w)), (2, .int (nI a)), (3, .int (bI mo)), (4, .int (nI (min w (sHe s0 + a)))), (5, .int (utL s0 a mo b)), (6, .int (nI (b + 1)))] → W p l e rm_X5_utmostOver s m args below meth c H locs 0 0 (MQ below (hm_Q g (hm_pU ad M (some (.int (utF s0 w a mo))))) args s rm_X5_utmostOver.cells rm_X5_utmostOver.slots (hm_A g)) (F0 m 24 ls []) := by
    intro n
    induction n with
    | zero =>
      intro b hb hb2 H locs ls hG hl
      refine lv_iload S.1 S.2.1 dX5_utmostOver_24 (lv_at hl 6 rfl) ?_
      refine lv_iload S.1 S.2.1 dX5_utmostOver_26 (lv_at hl 4 rfl) ?_
      refine lv_icmp_ge (tgt := 70) S.1 S.2.1 dX5_utmostOver_28 (by decide) (fun _ => ?_) (fun h9 => absurd (nI_le (by omega) (by omega)) h9)
      refine lv_iload S.1 S.2.1 dX5_utmostOver_70 (lv_at hl 5 rfl) ?_
      exact hm_iret S hG hr hlk (⟨by rw [utF, show b = (min w (sHe s0 + a)) - 1 by omega], rfl, rfl⟩) (Nat.le_of_ble_eq_true rfl) (Nat.le_of_ble_eq_true rfl) dX5_utmostOver_72
    | succ n ih =>
      intro b hb hb2 H locs ls hG hl
      refine lv_iload S.1 S.2.1 dX5_utmostOver_24 (lv_at hl 6 rfl) ?_
      refine lv_iload S.1 S.2.1 dX5_utmostOver_26 (lv_at hl 4 rfl) ?_
      refine lv_icmp_ge (tgt := 70) S.1 S.2.1 dX5_utmostOver_28 (by decide) (fun h9 => absurd h9 (nI_ge (by omega) (by omega))) (fun _ => ?_)
      refine lv_aload_n S.1 S.2.1 dX5_utmostOver_31 rfl (lv_at hl 0 rfl) ?_
      refine lv_iconst (v := 0) S.1 S.2.1 dX5_utmostOver_32 (by decide) ?_
      refine lv_iload S.1 S.2.1 dX5_utmostOver_33 (lv_at hl 6 rfl) ?_
      refine lv_iload_n S.1 S.2.1 dX5_utmostOver_35 rfl (lv_at hl 2 rfl) ?_
      refine hm_uV (As := [.int 0, .int (nI (b + 1)), .int (nI a)]) (rest := []) (st1 := [.int (pastF s0 0 (b + 1) a)]) S hE hG (c_X5_past l g ad M i s0 hs 0 (b + 1) a (by omega) (by omega) (by omega)) (hm_gV hb_364 hb_365 hb_366 hb_90 hb_367) hd_X5_past rfl h10 rfl rfl ⟨Nat.le_of_ble_eq_true rfl, Nat.le_of_ble_eq_true rfl⟩ rfl hl.1 rfl (Nat.le_of_ble_eq_true rfl) dX5_utmostOver_36 ⟨Nat.le_of_ble_eq_true rfl, Nat.le_of_ble_eq_true rfl⟩ rfl (fun H locs hG => ?_)
      refine lv_istore (lv' := [(7, .int (pastF s0 0 (b + 1) a)), (0, .ref (ad (10, i, 0))), (1, .int (nI w)), (2, .int (nI a)), (3, .int (bI mo)), (4, .int (nI (min w (sHe s0 + a)))), (5, .int (utL s0 a mo b)), (6, .int (nI (b + 1)))]) S.1 S.2.1 dX5_utmostOver_39 hl (by decide) rfl (fun ls hl => ?_)
      refine lv_iload_n S.1 S.2.1 dX5_utmostOver_41 rfl (lv_at hl 4 rfl) ?_
      refine lv_if_eq (tgt := 55) S.1 S.2.1 dX5_utmostOver_42 (by decide) (fun c42 => ?_) (fun c42 => ?_)
      · skip
        have e42 : mo = false := bI_0.mp c42
        refine lv_iload S.1 S.2.1 dX5_utmostOver_55 (lv_at hl 6 rfl) ?_
        refine lv_iload S.1 S.2.1 dX5_utmostOver_57 (lv_at hl 0 rfl) ?_
        refine hm_min (z := utL s0 a mo (b + 1)) S hb_372 hb_4 hb_5 hb_6 hl.1 (Nat.le_of_ble_eq_true rfl) (Nat.le_of_ble_eq_true rfl) (Nat.le_of_ble_eq_true rfl) (Nat.le_of_ble_eq_true rfl) (by rw [utL, e42]; rfl) dX5_utmostOver_59 ?_
        refine lv_istore (lv' := [(5, .int (utL s0 a mo (b + 1))), (7, .int (pastF s0 0 (b + 1) a)), (0, .ref (ad (10, i, 0))), (1, .int (nI w)), (2, .int (nI a)), (3, .int (bI mo)), (4, .int (nI (min w (sHe s0 + a)))), (6, .int (nI (b + 1)))]) S.1 S.2.1 dX5_utmostOver_62 hl (by decide) rfl (fun ls hl => ?_)
        refine lv_iinc (v := nI (b + 1 + 1)) (lv' := [(6, .int (nI (b + 1 + 1))), (5, .int (utL s0 a mo (b + 1))), (7, .int (pastF s0 0 (b + 1) a)), (0, .ref (ad (10, i, 0))), (1, .int (nI w)), (2, .int (nI a)), (3, .int (bI mo)), (4, .int (nI (min w (sHe s0 + a))))]) S.1 S.2.1 dX5_utmostOver_64 hl (k := 7) rfl (nI_1 (b + 1)) (by decide) rfl (fun ls hl => ?_)
        refine lv_goto (tgt := 24) S.1 S.2.1 dX5_utmostOver_67 (by decide) ?_
        exact ih (b + 1) (by omega) (by omega) _ _ _ hG (lv_sub hl [3, 4, 5, 6, 7, 1, 0] rfl)
      · skip
        have e42 : mo = true := bI_ne.mp c42
        refine lv_iload S.1 S.2.1 dX5_utmostOver_45 (lv_at hl 6 rfl) ?_
        refine lv_iload S.1 S.2.1 dX5_utmostOver_47 (lv_at hl 0 rfl) ?_
        refine hm_max (z := utL s0 a mo (b + 1)) S hb_381 hb_134 hb_5 hb_135 hl.1 (Nat.le_of_ble_eq_true rfl) (Nat.le_of_ble_eq_true rfl) (Nat.le_of_ble_eq_true rfl) (Nat.le_of_ble_eq_true rfl) (by rw [utL, e42]; rfl) dX5_utmostOver_49 ?_
        refine lv_goto (tgt := 62) S.1 S.2.1 dX5_utmostOver_52 (by decide) ?_
        refine lv_istore (lv' := [(5, .int (utL s0 a mo (b + 1))), (7, .int (pastF s0 0 (b + 1) a)), (0, .ref (ad (10, i, 0))), (1, .int (nI w)), (2, .int (nI a)), (3, .int (bI mo)), (4, .int (nI (min w (sHe s0 + a)))), (6, .int (nI (b + 1)))]) S.1 S.2.1 dX5_utmostOver_62 hl (by decide) rfl (fun ls hl => ?_)
        refine lv_iinc (v := nI (b + 1 + 1)) (lv' := [(6, .int (nI (b + 1 + 1))), (5, .int (utL s0 a mo (b + 1))), (7, .int (pastF s0 0 (b + 1) a)), (0, .ref (ad (10, i, 0))), (1, .int (nI w)), (2, .int (nI a)), (3, .int (bI mo)), (4, .int (nI (min w (sHe s0 + a))))]) S.1 S.2.1 dX5_utmostOver_64 hl (k := 7) rfl (nI_1 (b + 1)) (by decide) rfl (fun ls hl => ?_)
        refine lv_goto (tgt := 24) S.1 S.2.1 dX5_utmostOver_67 (by decide) ?_
        exact ih (b + 1) (by omega) (by omega) _ _ _ hG (lv_sub hl [3, 4, 5, 6, 7, 1, 0] rfl)
  exact L24_0 (max 1 (min w (sHe s0 + a)) - 1) 0 (by omega) (by omega) _ _ _ hG (lv_sub hl [3, 4, 5, 6, 2, 1, 0] rfl)
