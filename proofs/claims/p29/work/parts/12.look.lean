def colL (x : Int32) : Nat → Nat → Nat
  | 0, k => k
  | n + 1, k => if hm_eN k < x then colL x n (k + 1) else k
def colF (x : Int32) : Nat := colL x 4 1
theorem colL_lt (x : Int32) : ∀ n k, colL x n k ≤ n + k := by
  intro n
  induction n with
  | zero => intro k; simp [colL]
  | succ n ih =>
    intro k
    rw [colL]
    split
    · have := ih (k + 1); omega
    · omega
theorem colL_ge (x : Int32) : ∀ n k, k ≤ colL x n k := by
  intro n
  induction n with
  | zero => intro k; simp [colL]
  | succ n ih =>
    intro k
    rw [colL]
    split
    · have := ih (k + 1); omega
    · omega
theorem colF_lt (x : Int32) : colF x < 6 := by have := colL_lt x 4 1; rw [colF]; omega
theorem colF_ge (x : Int32) : 1 ≤ colF x := colL_ge x 4 1
def histP (p : Nat → Int32) (x : Int32) : Nat → Int32 := upd (upd p (colF x) (p (colF x) + 1)) 0 (upd p (colF x) (p (colF x) + 1) 0 + 1)
def takeP (s : SeD) (x : Int32) : Nat → Int32 := if sKi s = 1 then upd (sPr s) 0 x else if sKi s = 0 then upd (sPr s) 0 (sPr s 0 + x) else histP (sPr s) x
def zeroP (p : Nat → Int32) : Nat → Int32 := upd (upd (upd (upd (upd (upd p 0 0) 1 0) 2 0) 3 0) 4 0) 5 0
def kpLa (s : SeD) : Nat := (sLa s + 1) % 13
def kpHe (s : SeD) : Nat := min (sHe s + 1) 13
def kpRow (s : SeD) : Nat → Int32 := va_cpy (sPr s) (sRo s (kpLa s)) 0 0 6
def keepF (s : SeD) : SeD := (sKi s, sMe s, sPl s, sPr s, fun j => if j = kpLa s then kpRow s else sRo s j, kpLa s, kpHe s)
def keepM (g : GV) (ad : AD) (M : CT) (i : Nat) (s : SeD) : CT := hm_up (hm_up M (10, i, 0) (seE ad i (keepF s))) (13, i, kpLa s) (hm_ia g 6 (kpRow s))
theorem hm_min13 (a : Nat) (h : a ≤ 13) : (if (13 : Int32) < nI (a + 1) then (13 : Int32) else nI (a + 1)) = nI (min (a + 1) 13) := by
  rcases Nat.lt_or_ge 13 (a + 1) with h1 | h1
  · show (if nI 13 < nI (a + 1) then nI 13 else nI (a + 1)) = _
    rw [if_pos (nI_lt (a := 13) h1 (by omega)), Nat.min_eq_right (by omega)]
  · show (if nI 13 < nI (a + 1) then nI 13 else nI (a + 1)) = _
    rw [if_neg (nI_nlt (a := 13) h1 (by omega)), Nat.min_eq_left h1]
theorem keep_has {g : GV} {ad : AD} {M : CT} {i : Nat} {s : SeD} (hs : hasSe g ad M i s) : hasSe g ad (keepM g ad M i s) i (keepF s) := by
  obtain ⟨h10, h11, h12, h13, hla, hhe, hi⟩ := hs
  refine ⟨?_, ?_, ?_, ?_, ?_, ?_, hi⟩
  · rw [keepM, hm_up_n (by simp), hm_up_s]
  · rw [keepM, hm_up_n (by simp), hm_up_n (by simp), h11]; rfl
  · rw [keepM, hm_up_n (by simp), hm_up_n (by simp), h12]
  · intro j hj
    by_cases h : j = kpLa s
    · subst h
      rw [keepM, hm_up_s]
      show some (hm_ia g 6 (kpRow s)) = some (hm_ia g 6 ((fun j => if j = kpLa s then kpRow s else sRo s j) (kpLa s)))
      simp
    · rw [keepM, hm_up_n (by simp [h]), hm_up_n (by simp), h13 j hj]
      show some (hm_ia g 6 (sRo s j)) = some (hm_ia g 6 ((fun j => if j = kpLa s then kpRow s else sRo s j) j))
      simp [h]
  · exact Nat.mod_lt _ (by decide)
  · show min _ _ ≤ 13; omega
theorem pres_has {g : GV} {ad : AD} {M : CT} {i : Nat} {s : SeD} (p : Nat → Int32) (hs : hasSe g ad M i s) : hasSe g ad (hm_up M (11, i, 0) (hm_ia g 6 p)) i (sKi s, sMe s, sPl s, p, sRo s, sLa s, sHe s) := by
  obtain ⟨h10, h11, h12, h13, hla, hhe, hi⟩ := hs
  refine ⟨?_, ?_, ?_, ?_, hla, hhe, hi⟩
  · rw [hm_up_n (by simp), h10]; rfl
  · rw [hm_up_s]; rfl
  · rw [hm_up_n (by simp), h12]
  · intro j hj
    rw [hm_up_n (by simp), h13 j hj]; rfl

abbrev rm_X5_partOver : Room := { frames := 2, cells := 0, slots := 0, locals := 51 }
set_option maxHeartbeats 4000000 in
set_option maxRecDepth 100000 in
theorem c_X5_partOver (l : Launch) (g : GV) (ad : AD) (M : CT) (i : Nat) (s0 : SeD) (hs : hasSe g ad M i s0) (q : Int32) (w a : Nat) (hw : w < 100) (ha : a < 100) : hm_Met l yX5_partOver cX5_partOver 10 (some .int) rm_X5_partOver g ad M [.ref (ad (10, i, 0)), .int q, .int (nI w), .int (nI a)] (hm_pU ad M (some (.int (partF s0 q w a)))) := by
  refine hm_start (own := RX5) (by decide) rfl (Nat.le_of_ble_eq_true rfl) ?_
  intro p e s m args below meth c S hr hlk hnm hE hG ls hl
  have hl : lv_has ls 10 [(0, .ref (ad (10, i, 0))), (1, .int q), (2, .int (nI w)), (3, .int (nI a))] := hl
  obtain ⟨h10, h11, h12, h13, hla, hhe, hi⟩ := id hs
  refine lv_iconst (v := 0) S.1 S.2.1 dX5_partOver_0 (by decide) ?_
  refine lv_istore (lv' := [(4, .int 0), (0, .ref (ad (10, i, 0))), (1, .int q), (2, .int (nI w)), (3, .int (nI a))]) S.1 S.2.1 dX5_partOver_1 hl (by decide) rfl (fun ls hl => ?_)
  refine lv_iconst (v := 1) S.1 S.2.1 dX5_partOver_3 (by decide) ?_
  refine lv_istore (lv' := [(5, .int 1), (4, .int 0), (0, .ref (ad (10, i, 0))), (1, .int q), (2, .int (nI w)), (3, .int (nI a))]) S.1 S.2.1 dX5_partOver_4 hl (by decide) rfl (fun ls hl => ?_)
  refine lv_iload S.1 S.2.1 dX5_partOver_6 (lv_at hl 0 rfl) ?_
  refine lv_iconst (v := 5) S.1 S.2.1 dX5_partOver_8 (by decide) ?_
  refine lv_icmp_gt (tgt := 31) S.1 S.2.1 dX5_partOver_9 (by decide) (fun h9 => absurd h9 (by decide)) (fun _ => ?_)
  refine lv_iload S.1 S.2.1 dX5_partOver_12 (lv_at hl 1 rfl) ?_
  refine lv_aload_n S.1 S.2.1 dX5_partOver_14 rfl (lv_at hl 2 rfl) ?_
  refine lv_iload S.1 S.2.1 dX5_partOver_15 (lv_at hl 0 rfl) ?_
  refine lv_iload_n S.1 S.2.1 dX5_partOver_17 rfl (lv_at hl 4 rfl) ?_
  refine lv_iload_n S.1 S.2.1 dX5_partOver_18 rfl (lv_at hl 5 rfl) ?_
  refine hm_uV (As := [.int 1, .int (nI w), .int (nI a)]) (rest := [.int 0]) (st1 := [.int (grF s0 1 w a), .int 0]) S hE hG (c_X5_growthOf l g ad M i s0 hs 1 w a (by omega) (by omega) (by omega)) (hm_gV hb_368 hb_369 hb_370 hb_90 hb_371) hd_X5_growthOf rfl h10 rfl rfl ⟨Nat.le_of_ble_eq_true rfl, Nat.le_of_ble_eq_true rfl⟩ rfl hl.1 rfl (Nat.le_of_ble_eq_true rfl) dX5_partOver_19 ⟨Nat.le_of_ble_eq_true rfl, Nat.le_of_ble_eq_true rfl⟩ rfl (fun H locs hG => ?_)
  refine lv_iadd S.1 S.2.1 dX5_partOver_22 ?_
  refine hm_top (z := cntF s0 w a 1) (rfl) ?_
  refine lv_istore (lv' := [(4, .int (cntF s0 w a 1)), (5, .int 1), (0, .ref (ad (10, i, 0))), (1, .int q), (2, .int (nI w)), (3, .int (nI a))]) S.1 S.2.1 dX5_partOver_23 hl (by decide) rfl (fun ls hl => ?_)
  refine lv_iinc (v := 2) (lv' := [(5, .int 2), (4, .int (cntF s0 w a 1)), (0, .ref (ad (10, i, 0))), (1, .int q), (2, .int (nI w)), (3, .int (nI a))]) S.1 S.2.1 dX5_partOver_25 hl (k := 1) rfl (by decide) (by decide) rfl (fun ls hl => ?_)
  refine lv_goto (tgt := 6) S.1 S.2.1 dX5_partOver_28 (by decide) ?_
  refine lv_iload S.1 S.2.1 dX5_partOver_6 (lv_at hl 0 rfl) ?_
  refine lv_iconst (v := 5) S.1 S.2.1 dX5_partOver_8 (by decide) ?_
  refine lv_icmp_gt (tgt := 31) S.1 S.2.1 dX5_partOver_9 (by decide) (fun h9 => absurd h9 (by decide)) (fun _ => ?_)
  refine lv_iload S.1 S.2.1 dX5_partOver_12 (lv_at hl 1 rfl) ?_
  refine lv_aload_n S.1 S.2.1 dX5_partOver_14 rfl (lv_at hl 2 rfl) ?_
  refine lv_iload S.1 S.2.1 dX5_partOver_15 (lv_at hl 0 rfl) ?_
  refine lv_iload_n S.1 S.2.1 dX5_partOver_17 rfl (lv_at hl 4 rfl) ?_
  refine lv_iload_n S.1 S.2.1 dX5_partOver_18 rfl (lv_at hl 5 rfl) ?_
  refine hm_uV (As := [.int 2, .int (nI w), .int (nI a)]) (rest := [.int (cntF s0 w a 1)]) (st1 := [.int (grF s0 2 w a), .int (cntF s0 w a 1)]) S hE hG (c_X5_growthOf l g ad M i s0 hs 2 w a (by omega) (by omega) (by omega)) (hm_gV hb_368 hb_369 hb_370 hb_90 hb_371) hd_X5_growthOf rfl h10 rfl rfl ⟨Nat.le_of_ble_eq_true rfl, Nat.le_of_ble_eq_true rfl⟩ rfl hl.1 rfl (Nat.le_of_ble_eq_true rfl) dX5_partOver_19 ⟨Nat.le_of_ble_eq_true rfl, Nat.le_of_ble_eq_true rfl⟩ rfl (fun H locs hG => ?_)
  refine lv_iadd S.1 S.2.1 dX5_partOver_22 ?_
  refine hm_top (z := cntF s0 w a 2) (rfl) ?_
  refine lv_istore (lv' := [(4, .int (cntF s0 w a 2)), (5, .int 2), (0, .ref (ad (10, i, 0))), (1, .int q), (2, .int (nI w)), (3, .int (nI a))]) S.1 S.2.1 dX5_partOver_23 hl (by decide) rfl (fun ls hl => ?_)
  refine lv_iinc (v := 3) (lv' := [(5, .int 3), (4, .int (cntF s0 w a 2)), (0, .ref (ad (10, i, 0))), (1, .int q), (2, .int (nI w)), (3, .int (nI a))]) S.1 S.2.1 dX5_partOver_25 hl (k := 1) rfl (by decide) (by decide) rfl (fun ls hl => ?_)
  refine lv_goto (tgt := 6) S.1 S.2.1 dX5_partOver_28 (by decide) ?_
  refine lv_iload S.1 S.2.1 dX5_partOver_6 (lv_at hl 0 rfl) ?_
  refine lv_iconst (v := 5) S.1 S.2.1 dX5_partOver_8 (by decide) ?_
  refine lv_icmp_gt (tgt := 31) S.1 S.2.1 dX5_partOver_9 (by decide) (fun h9 => absurd h9 (by decide)) (fun _ => ?_)
  refine lv_iload S.1 S.2.1 dX5_partOver_12 (lv_at hl 1 rfl) ?_
  refine lv_aload_n S.1 S.2.1 dX5_partOver_14 rfl (lv_at hl 2 rfl) ?_
  refine lv_iload S.1 S.2.1 dX5_partOver_15 (lv_at hl 0 rfl) ?_
  refine lv_iload_n S.1 S.2.1 dX5_partOver_17 rfl (lv_at hl 4 rfl) ?_
  refine lv_iload_n S.1 S.2.1 dX5_partOver_18 rfl (lv_at hl 5 rfl) ?_
  refine hm_uV (As := [.int 3, .int (nI w), .int (nI a)]) (rest := [.int (cntF s0 w a 2)]) (st1 := [.int (grF s0 3 w a), .int (cntF s0 w a 2)]) S hE hG (c_X5_growthOf l g ad M i s0 hs 3 w a (by omega) (by omega) (by omega)) (hm_gV hb_368 hb_369 hb_370 hb_90 hb_371) hd_X5_growthOf rfl h10 rfl rfl ⟨Nat.le_of_ble_eq_true rfl, Nat.le_of_ble_eq_true rfl⟩ rfl hl.1 rfl (Nat.le_of_ble_eq_true rfl) dX5_partOver_19 ⟨Nat.le_of_ble_eq_true rfl, Nat.le_of_ble_eq_true rfl⟩ rfl (fun H locs hG => ?_)
  refine lv_iadd S.1 S.2.1 dX5_partOver_22 ?_
  refine hm_top (z := cntF s0 w a 3) (rfl) ?_
  refine lv_istore (lv' := [(4, .int (cntF s0 w a 3)), (5, .int 3), (0, .ref (ad (10, i, 0))), (1, .int q), (2, .int (nI w)), (3, .int (nI a))]) S.1 S.2.1 dX5_partOver_23 hl (by decide) rfl (fun ls hl => ?_)
  refine lv_iinc (v := 4) (lv' := [(5, .int 4), (4, .int (cntF s0 w a 3)), (0, .ref (ad (10, i, 0))), (1, .int q), (2, .int (nI w)), (3, .int (nI a))]) S.1 S.2.1 dX5_partOver_25 hl (k := 1) rfl (by decide) (by decide) rfl (fun ls hl => ?_)
  refine lv_goto (tgt := 6) S.1 S.2.1 dX5_partOver_28 (by decide) ?_
  refine lv_iload S.1 S.2.1 dX5_partOver_6 (lv_at hl 0 rfl) ?_
  refine lv_iconst (v := 5) S.1 S.2.1 dX5_partOver_8 (by decide) ?_
  refine lv_icmp_gt (tgt := 31) S.1 S.2.1 dX5_partOver_9 (by decide) (fun h9 => absurd h9 (by decide)) (fun _ => ?_)
  refine lv_iload S.1 S.2.1 dX5_partOver_12 (lv_at hl 1 rfl) ?_
  refine lv_aload_n S.1 S.2.1 dX5_partOver_14 rfl (lv_at hl 2 rfl) ?_
  refine lv_iload S.1 S.2.1 dX5_partOver_15 (lv_at hl 0 rfl) ?_
  refine lv_iload_n S.1 S.2.1 dX5_partOver_17 rfl (lv_at hl 4 rfl) ?_
  refine lv_iload_n S.1 S.2.1 dX5_partOver_18 rfl (lv_at hl 5 rfl) ?_
  refine hm_uV (As := [.int 4, .int (nI w), .int (nI a)]) (rest := [.int (cntF s0 w a 3)]) (st1 := [.int (grF s0 4 w a), .int (cntF s0 w a 3)]) S hE hG (c_X5_growthOf l g ad M i s0 hs 4 w a (by omega) (by omega) (by omega)) (hm_gV hb_368 hb_369 hb_370 hb_90 hb_371) hd_X5_growthOf rfl h10 rfl rfl ⟨Nat.le_of_ble_eq_true rfl, Nat.le_of_ble_eq_true rfl⟩ rfl hl.1 rfl (Nat.le_of_ble_eq_true rfl) dX5_partOver_19 ⟨Nat.le_of_ble_eq_true rfl, Nat.le_of_ble_eq_true rfl⟩ rfl (fun H locs hG => ?_)
  refine lv_iadd S.1 S.2.1 dX5_partOver_22 ?_
  refine hm_top (z := cntF s0 w a 4) (rfl) ?_
  refine lv_istore (lv' := [(4, .int (cntF s0 w a 4)), (5, .int 4), (0, .ref (ad (10, i, 0))), (1, .int q), (2, .int (nI w)), (3, .int (nI a))]) S.1 S.2.1 dX5_partOver_23 hl (by decide) rfl (fun ls hl => ?_)
  refine lv_iinc (v := 5) (lv' := [(5, .int 5), (4, .int (cntF s0 w a 4)), (0, .ref (ad (10, i, 0))), (1, .int q), (2, .int (nI w)), (3, .int (nI a))]) S.1 S.2.1 dX5_partOver_25 hl (k := 1) rfl (by decide) (by decide) rfl (fun ls hl => ?_)
  refine lv_goto (tgt := 6) S.1 S.2.1 dX5_partOver_28 (by decide) ?_
  refine lv_iload S.1 S.2.1 dX5_partOver_6 (lv_at hl 0 rfl) ?_
  refine lv_iconst (v := 5) S.1 S.2.1 dX5_partOver_8 (by decide) ?_
  refine lv_icmp_gt (tgt := 31) S.1 S.2.1 dX5_partOver_9 (by decide) (fun h9 => absurd h9 (by decide)) (fun _ => ?_)
  refine lv_iload S.1 S.2.1 dX5_partOver_12 (lv_at hl 1 rfl) ?_
  refine lv_aload_n S.1 S.2.1 dX5_partOver_14 rfl (lv_at hl 2 rfl) ?_
  refine lv_iload S.1 S.2.1 dX5_partOver_15 (lv_at hl 0 rfl) ?_
  refine lv_iload_n S.1 S.2.1 dX5_partOver_17 rfl (lv_at hl 4 rfl) ?_
  refine lv_iload_n S.1 S.2.1 dX5_partOver_18 rfl (lv_at hl 5 rfl) ?_
  refine hm_uV (As := [.int 5, .int (nI w), .int (nI a)]) (rest := [.int (cntF s0 w a 4)]) (st1 := [.int (grF s0 5 w a), .int (cntF s0 w a 4)]) S hE hG (c_X5_growthOf l g ad M i s0 hs 5 w a (by omega) (by omega) (by omega)) (hm_gV hb_368 hb_369 hb_370 hb_90 hb_371) hd_X5_growthOf rfl h10 rfl rfl ⟨Nat.le_of_ble_eq_true rfl, Nat.le_of_ble_eq_true rfl⟩ rfl hl.1 rfl (Nat.le_of_ble_eq_true rfl) dX5_partOver_19 ⟨Nat.le_of_ble_eq_true rfl, Nat.le_of_ble_eq_true rfl⟩ rfl (fun H locs hG => ?_)
  refine lv_iadd S.1 S.2.1 dX5_partOver_22 ?_
  refine hm_top (z := cntF s0 w a 5) (rfl) ?_
  refine lv_istore (lv' := [(4, .int (cntF s0 w a 5)), (5, .int 5), (0, .ref (ad (10, i, 0))), (1, .int q), (2, .int (nI w)), (3, .int (nI a))]) S.1 S.2.1 dX5_partOver_23 hl (by decide) rfl (fun ls hl => ?_)
  refine lv_iinc (v := 6) (lv' := [(5, .int 6), (4, .int (cntF s0 w a 5)), (0, .ref (ad (10, i, 0))), (1, .int q), (2, .int (nI w)), (3, .int (nI a))]) S.1 S.2.1 dX5_partOver_25 hl (k := 1) rfl (by decide) (by decide) rfl (fun ls hl => ?_)
  refine lv_goto (tgt := 6) S.1 S.2.1 dX5_partOver_28 (by decide) ?_
  refine lv_iload S.1 S.2.1 dX5_partOver_6 (lv_at hl 0 rfl) ?_
  refine lv_iconst (v := 5) S.1 S.2.1 dX5_partOver_8 (by decide) ?_
  refine lv_icmp_gt (tgt := 31) S.1 S.2.1 dX5_partOver_9 (by decide) (fun _ => ?_) (fun h9 => absurd (by decide) h9)
  by_cases h0 : cntF s0 w a 5 = 0
  · skip
    refine lv_iload S.1 S.2.1 dX5_partOver_31 (lv_at hl 1 rfl) ?_
    refine lv_if_ne (tgt := 38) S.1 S.2.1 dX5_partOver_33 (by decide) (fun h9 => absurd (h0) h9) (fun _ => ?_)
    refine lv_iconst (v := 0) S.1 S.2.1 dX5_partOver_36 (by decide) ?_
    exact hm_iret S hG hr hlk (⟨by rw [partF, if_pos h0], rfl, rfl⟩) (Nat.le_of_ble_eq_true rfl) (Nat.le_of_ble_eq_true rfl) dX5_partOver_37
  · skip
    refine lv_iload S.1 S.2.1 dX5_partOver_31 (lv_at hl 1 rfl) ?_
    refine lv_if_ne (tgt := 38) S.1 S.2.1 dX5_partOver_33 (by decide) (fun _ => ?_) (fun h9 => absurd h9 (h0))
    refine lv_iload_n S.1 S.2.1 dX5_partOver_38 rfl (lv_at hl 3 rfl) ?_
    refine lv_iload S.1 S.2.1 dX5_partOver_39 (lv_at hl 1 rfl) ?_
    refine lv_imul S.1 S.2.1 dX5_partOver_41 ?_
    refine lv_bipush (v := 99) S.1 S.2.1 dX5_partOver_42 (by decide) ?_
    refine lv_iadd S.1 S.2.1 dX5_partOver_44 ?_
    refine lv_bipush (v := 100) S.1 S.2.1 dX5_partOver_45 (by decide) ?_
    refine lv_idiv S.1 S.2.1 dX5_partOver_47 (by decide) ?_
    refine hm_top (z := (q * cntF s0 w a 5 + 99) / 100) (rfl) ?_
    refine lv_istore (lv' := [(5, .int ((q * cntF s0 w a 5 + 99) / 100)), (4, .int (cntF s0 w a 5)), (0, .ref (ad (10, i, 0))), (1, .int q), (2, .int (nI w)), (3, .int (nI a))]) S.1 S.2.1 dX5_partOver_48 hl (by decide) rfl (fun ls hl => ?_)
    refine lv_iconst (v := 0) S.1 S.2.1 dX5_partOver_50 (by decide) ?_
    refine lv_istore (lv' := [(6, .int 0), (5, .int ((q * cntF s0 w a 5 + 99) / 100)), (4, .int (cntF s0 w a 5)), (0, .ref (ad (10, i, 0))), (1, .int q), (2, .int (nI w)), (3, .int (nI a))]) S.1 S.2.1 dX5_partOver_51 hl (by decide) rfl (fun ls hl => ?_)
    refine lv_iconst (v := 1) S.1 S.2.1 dX5_partOver_53 (by decide) ?_
    refine lv_istore (lv' := [(7, .int 1), (6, .int 0), (5, .int ((q * cntF s0 w a 5 + 99) / 100)), (4, .int (cntF s0 w a 5)), (0, .ref (ad (10, i, 0))), (1, .int q), (2, .int (nI w)), (3, .int (nI a))]) S.1 S.2.1 dX5_partOver_54 hl (by decide) rfl (fun ls hl => ?_)
    have L56_0 : ∀ (n : Nat) (k : Nat) (re : Int32), partL s0 w a ((q * cntF s0 w a 5 + 99) / 100) n k re = partF s0 q w a → n + k = 5 → 1 ≤ k → ∀ (H : Heap) (locs : List Loc) (ls : Array Slot), hm_G g ad M s.heap H locs → lv_has ls 10 [(0, .ref (ad (10, i, 0))), (2, .int (nI w)), (3, .int (nI a)), (5, .int ((q * cntF s0 w a 5 + 99) / 100)), (6, .int re), (7, .int (nI k))] → W p l e rm_X5_partOver s m args below meth c H locs 0 0 (MQ below (hm_Q g (hm_pU ad M (some (.int (partF s0 q w a))))) args s rm_X5_partOver.cells rm_X5_partOver.slots (hm_A g)) (F0 m 56 ls []) := by
      intro n
      induction n with
      | zero =>
        intro k re hF hk hk1 H locs ls hG hl
        obtain rfl : k = 5 := by omega
        refine lv_iload S.1 S.2.1 dX5_partOver_56 (lv_at hl 5 rfl) ?_
        refine lv_iconst (v := 5) S.1 S.2.1 dX5_partOver_58 (by decide) ?_
        refine lv_icmp_ge (tgt := 132) S.1 S.2.1 dX5_partOver_59 (by decide) (fun _ => ?_) (fun h9 => absurd (by decide) h9)
        refine lv_sipush (v := 500) S.1 S.2.1 dX5_partOver_132 (by decide) ?_
        exact hm_iret S hG hr hlk (⟨by rw [← hF]; rfl, rfl, rfl⟩) (Nat.le_of_ble_eq_true rfl) (Nat.le_of_ble_eq_true rfl) dX5_partOver_135
      | succ n ih =>
        intro k re hF hk hk1 H locs ls hG hl
        refine lv_iload S.1 S.2.1 dX5_partOver_56 (lv_at hl 5 rfl) ?_
        refine lv_iconst (v := 5) S.1 S.2.1 dX5_partOver_58 (by decide) ?_
        refine lv_icmp_ge (tgt := 132) S.1 S.2.1 dX5_partOver_59 (by decide) (fun h9 => absurd h9 (nI_ge (b := 5) (by omega) (by decide))) (fun _ => ?_)
        refine lv_aload_n S.1 S.2.1 dX5_partOver_62 rfl (lv_at hl 0 rfl) ?_
        refine lv_iload S.1 S.2.1 dX5_partOver_63 (lv_at hl 5 rfl) ?_
        refine lv_iload_n S.1 S.2.1 dX5_partOver_65 rfl (lv_at hl 1 rfl) ?_
        refine lv_iload_n S.1 S.2.1 dX5_partOver_66 rfl (lv_at hl 2 rfl) ?_
        refine hm_uV (As := [.int (nI k), .int (nI w), .int (nI a)]) (rest := []) (st1 := [.int (grF s0 k w a)]) S hE hG (c_X5_growthOf l g ad M i s0 hs k w a (by omega) (by omega) (by omega)) (hm_gV hb_368 hb_369 hb_370 hb_90 hb_371) hd_X5_growthOf rfl h10 rfl rfl ⟨Nat.le_of_ble_eq_true rfl, Nat.le_of_ble_eq_true rfl⟩ rfl hl.1 rfl (Nat.le_of_ble_eq_true rfl) dX5_partOver_67 ⟨Nat.le_of_ble_eq_true rfl, Nat.le_of_ble_eq_true rfl⟩ rfl (fun H locs hG => ?_)
        refine lv_istore (lv' := [(8, .int (grF s0 k w a)), (0, .ref (ad (10, i, 0))), (2, .int (nI w)), (3, .int (nI a)), (5, .int ((q * cntF s0 w a 5 + 99) / 100)), (6, .int re), (7, .int (nI k))]) S.1 S.2.1 dX5_partOver_70 hl (by decide) rfl (fun ls hl => ?_)
        refine lv_iload S.1 S.2.1 dX5_partOver_72 (lv_at hl 0 rfl) ?_
        refine lv_if_le (tgt := 119) S.1 S.2.1 dX5_partOver_74 (by decide) (fun c74 => ?_) (fun c74 => ?_)
        · skip
          refine lv_iload S.1 S.2.1 dX5_partOver_119 (lv_at hl 5 rfl) ?_
          refine lv_iload S.1 S.2.1 dX5_partOver_121 (lv_at hl 0 rfl) ?_
          refine lv_iadd S.1 S.2.1 dX5_partOver_123 ?_
          refine lv_istore (lv' := [(6, .int (re + (grF s0 k w a))), (8, .int (grF s0 k w a)), (0, .ref (ad (10, i, 0))), (2, .int (nI w)), (3, .int (nI a)), (5, .int ((q * cntF s0 w a 5 + 99) / 100)), (7, .int (nI k))]) S.1 S.2.1 dX5_partOver_124 hl (by decide) rfl (fun ls hl => ?_)
          refine lv_iinc (v := nI (k + 1)) (lv' := [(7, .int (nI (k + 1))), (6, .int (re + (grF s0 k w a))), (8, .int (grF s0 k w a)), (0, .ref (ad (10, i, 0))), (2, .int (nI w)), (3, .int (nI a)), (5, .int ((q * cntF s0 w a 5 + 99) / 100))]) S.1 S.2.1 dX5_partOver_126 hl (k := 6) rfl (nI_1 k) (by decide) rfl (fun ls hl => ?_)
          refine lv_goto (tgt := 56) S.1 S.2.1 dX5_partOver_129 (by decide) ?_
          exact ih (k + 1) _ (by rw [← hF, partL, if_neg (fun h => absurd h.1 (Int32.not_lt.mpr c74))]) (by omega) (by omega) _ _ _ hG (lv_sub hl [3, 4, 5, 6, 1, 0] rfl)
        · skip
          have e74 := Int32.not_le.mp c74
          refine lv_iload S.1 S.2.1 dX5_partOver_77 (lv_at hl 5 rfl) ?_
          refine lv_iload S.1 S.2.1 dX5_partOver_79 (lv_at hl 0 rfl) ?_
          refine lv_iadd S.1 S.2.1 dX5_partOver_81 ?_
          refine lv_iload S.1 S.2.1 dX5_partOver_82 (lv_at hl 4 rfl) ?_
          refine lv_icmp_lt (tgt := 119) S.1 S.2.1 dX5_partOver_84 (by decide) (fun c84 => ?_) (fun c84 => ?_)
          · skip
            refine lv_iload S.1 S.2.1 dX5_partOver_119 (lv_at hl 5 rfl) ?_
            refine lv_iload S.1 S.2.1 dX5_partOver_121 (lv_at hl 0 rfl) ?_
            refine lv_iadd S.1 S.2.1 dX5_partOver_123 ?_
            refine lv_istore (lv' := [(6, .int (re + (grF s0 k w a))), (8, .int (grF s0 k w a)), (0, .ref (ad (10, i, 0))), (2, .int (nI w)), (3, .int (nI a)), (5, .int ((q * cntF s0 w a 5 + 99) / 100)), (7, .int (nI k))]) S.1 S.2.1 dX5_partOver_124 hl (by decide) rfl (fun ls hl => ?_)
            refine lv_iinc (v := nI (k + 1)) (lv' := [(7, .int (nI (k + 1))), (6, .int (re + (grF s0 k w a))), (8, .int (grF s0 k w a)), (0, .ref (ad (10, i, 0))), (2, .int (nI w)), (3, .int (nI a)), (5, .int ((q * cntF s0 w a 5 + 99) / 100))]) S.1 S.2.1 dX5_partOver_126 hl (k := 6) rfl (nI_1 k) (by decide) rfl (fun ls hl => ?_)
            refine lv_goto (tgt := 56) S.1 S.2.1 dX5_partOver_129 (by decide) ?_
            exact ih (k + 1) _ (by rw [← hF, partL, if_neg (fun h => absurd h.2 (Int32.not_le.mpr c84))]) (by omega) (by omega) _ _ _ hG (lv_sub hl [3, 4, 5, 6, 1, 0] rfl)
          · skip
            have e84 := Int32.not_lt.mp c84
            refine hm_getsN S hE hG hE.2.2.1.2.1.1 (List.mem_of_getElem? (i := 6) rfl) dX5_partOver_87 ?_
            refine lv_iload S.1 S.2.1 dX5_partOver_90 (lv_at hl 6 rfl) ?_
            refine lv_iconst (v := 1) S.1 S.2.1 dX5_partOver_92 (by decide) ?_
            refine lv_isub S.1 S.2.1 dX5_partOver_93 ?_
            refine hm_top (z := nI (k - 1)) (pk_sub (b := 1) (by omega)) ?_
            refine hm_tabI (x := hm_eN (k - 1)) (f := hm_eN) S hG hE.2.2.1.2.1.2 (vp_in_nI (n := k - 1) (by omega) (by decide)) (congrArg hm_eN (nI_clamp (by omega))) dX5_partOver_94 ?_
            refine lv_istore (lv' := [(9, .int (hm_eN (k - 1))), (8, .int (grF s0 k w a)), (0, .ref (ad (10, i, 0))), (2, .int (nI w)), (3, .int (nI a)), (5, .int ((q * cntF s0 w a 5 + 99) / 100)), (6, .int re), (7, .int (nI k))]) S.1 S.2.1 dX5_partOver_95 hl (by decide) rfl (fun ls hl => ?_)
            refine lv_iload S.1 S.2.1 dX5_partOver_97 (lv_at hl 0 rfl) ?_
            refine hm_getsN S hE hG hE.2.2.1.2.1.1 (List.mem_of_getElem? (i := 6) rfl) dX5_partOver_99 ?_
            refine lv_iload S.1 S.2.1 dX5_partOver_102 (lv_at hl 7 rfl) ?_
            refine hm_tabI (x := hm_eN k) (f := hm_eN) S hG hE.2.2.1.2.1.2 (vp_in_nI (n := k) (by omega) (by decide)) (congrArg hm_eN (nI_clamp (by omega))) dX5_partOver_104 ?_
            refine lv_iload S.1 S.2.1 dX5_partOver_105 (lv_at hl 0 rfl) ?_
            refine lv_isub S.1 S.2.1 dX5_partOver_107 ?_
            refine lv_iload S.1 S.2.1 dX5_partOver_108 (lv_at hl 5 rfl) ?_
            refine lv_iload S.1 S.2.1 dX5_partOver_110 (lv_at hl 6 rfl) ?_
            refine lv_isub S.1 S.2.1 dX5_partOver_112 ?_
            refine lv_imul S.1 S.2.1 dX5_partOver_113 ?_
            refine lv_iload S.1 S.2.1 dX5_partOver_114 (lv_at hl 1 rfl) ?_
            refine lv_idiv S.1 S.2.1 dX5_partOver_116 (fun h => absurd (h ▸ e74) (by decide)) ?_
            refine lv_iadd S.1 S.2.1 dX5_partOver_117 ?_
            exact hm_iret S hG hr hlk (⟨by rw [← hF, partL, if_pos ⟨e74, e84⟩], rfl, rfl⟩) (Nat.le_of_ble_eq_true rfl) (Nat.le_of_ble_eq_true rfl) dX5_partOver_118
    exact L56_0 4 1 0 (by rw [partF, if_neg h0]) rfl (by decide) _ _ _ hG (lv_sub hl [4, 6, 7, 2, 1, 0] rfl)

abbrev rm_X5_lookOver : Room := { frames := 3, cells := 0, slots := 0, locals := 80 }
set_option maxHeartbeats 4000000 in
set_option maxRecDepth 100000 in
theorem c_X5_lookOver (l : Launch) (g : GV) (ad : AD) (M : CT) (i : Nat) (s0 : SeD) (hs : hasSe g ad M i s0) (lk w a : Nat) (hlo : lk < 9) (hw : w < 100) (ha : a < 100) : hm_Met l yX5_lookOver cX5_lookOver 4 (some .int) rm_X5_lookOver g ad M [.ref (ad (10, i, 0)), .int (nI lk), .int (nI w), .int (nI a)] (hm_pU ad M (some (.int (lookF s0 lk w a)))) := by
  refine hm_start (own := RX5) (by decide) rfl (Nat.le_of_ble_eq_true rfl) ?_
  intro p e s m args below meth c S hr hlk hnm hE hG ls hl
  have hl : lv_has ls 4 [(0, .ref (ad (10, i, 0))), (1, .int (nI lk)), (2, .int (nI w)), (3, .int (nI a))] := hl
  obtain ⟨h10, h11, h12, h13, hla, hhe, hi⟩ := id hs
  have h9 : lk = 0 ∨ lk = 1 ∨ lk = 2 ∨ lk = 3 ∨ lk = 4 ∨ lk = 5 ∨ lk = 6 ∨ lk = 7 ∨ lk = 8 := by omega
  rcases h9 with rfl | rfl | rfl | rfl | rfl | rfl | rfl | rfl | rfl
  · skip
    have hl : lv_has ls 4 [(0, .ref (ad (10, i, 0))), (1, .int 0), (2, .int (nI w)), (3, .int (nI a))] := hl
    refine lv_iload_n S.1 S.2.1 dX5_lookOver_0 rfl (lv_at hl 1 rfl) ?_
    refine lv_tableIn (tgt := 36) S.1 S.2.1 dX5_lookOver_1 (by decide) (by decide) (by rfl) (by decide) ?_
    refine lv_aload_n S.1 S.2.1 dX5_lookOver_36 rfl (lv_at hl 0 rfl) ?_
    refine lv_iconst (v := 0) S.1 S.2.1 dX5_lookOver_37 (by decide) ?_
    refine lv_iconst (v := 0) S.1 S.2.1 dX5_lookOver_38 (by decide) ?_
    refine lv_iload_n S.1 S.2.1 dX5_lookOver_39 rfl (lv_at hl 3 rfl) ?_
    refine hm_uV (As := [.int 0, .int 0, .int (nI a)]) (rest := []) (st1 := [.int (pastF s0 0 0 a)]) S hE hG (c_X5_past l g ad M i s0 hs 0 0 a (by omega) (by omega) (by omega)) (hm_gV hb_364 hb_365 hb_366 hb_90 hb_367) hd_X5_past rfl h10 rfl rfl ⟨Nat.le_of_ble_eq_true rfl, Nat.le_of_ble_eq_true rfl⟩ rfl hl.1 rfl (Nat.le_of_ble_eq_true rfl) dX5_lookOver_40 ⟨Nat.le_of_ble_eq_true rfl, Nat.le_of_ble_eq_true rfl⟩ rfl (fun H locs hG => ?_)
    exact hm_iret S hG hr hlk (⟨by simp [lookF], rfl, rfl⟩) (Nat.le_of_ble_eq_true rfl) (Nat.le_of_ble_eq_true rfl) dX5_lookOver_43
  · skip
    have hl : lv_has ls 4 [(0, .ref (ad (10, i, 0))), (1, .int 1), (2, .int (nI w)), (3, .int (nI a))] := hl
    refine lv_iload_n S.1 S.2.1 dX5_lookOver_0 rfl (lv_at hl 1 rfl) ?_
    refine lv_tableIn (tgt := 44) S.1 S.2.1 dX5_lookOver_1 (by decide) (by decide) (by rfl) (by decide) ?_
    refine lv_aload_n S.1 S.2.1 dX5_lookOver_44 rfl (lv_at hl 0 rfl) ?_
    refine lv_iconst (v := 0) S.1 S.2.1 dX5_lookOver_45 (by decide) ?_
    refine lv_iload_n S.1 S.2.1 dX5_lookOver_46 rfl (lv_at hl 2 rfl) ?_
    refine lv_iload_n S.1 S.2.1 dX5_lookOver_47 rfl (lv_at hl 3 rfl) ?_
    refine hm_uV (As := [.int 0, .int (nI w), .int (nI a)]) (rest := []) (st1 := [.int (grF s0 0 w a)]) S hE hG (c_X5_growthOf l g ad M i s0 hs 0 w a (by omega) (by omega) (by omega)) (hm_gV hb_368 hb_369 hb_370 hb_90 hb_371) hd_X5_growthOf rfl h10 rfl rfl ⟨Nat.le_of_ble_eq_true rfl, Nat.le_of_ble_eq_true rfl⟩ rfl hl.1 rfl (Nat.le_of_ble_eq_true rfl) dX5_lookOver_48 ⟨Nat.le_of_ble_eq_true rfl, Nat.le_of_ble_eq_true rfl⟩ rfl (fun H locs hG => ?_)
    exact hm_iret S hG hr hlk (⟨by simp [lookF], rfl, rfl⟩) (Nat.le_of_ble_eq_true rfl) (Nat.le_of_ble_eq_true rfl) dX5_lookOver_51
  · skip
    have hl : lv_has ls 4 [(0, .ref (ad (10, i, 0))), (1, .int 2), (2, .int (nI w)), (3, .int (nI a))] := hl
    refine lv_iload_n S.1 S.2.1 dX5_lookOver_0 rfl (lv_at hl 1 rfl) ?_
    refine lv_tableIn (tgt := 52) S.1 S.2.1 dX5_lookOver_1 (by decide) (by decide) (by rfl) (by decide) ?_
    refine lv_aload_n S.1 S.2.1 dX5_lookOver_52 rfl (lv_at hl 0 rfl) ?_
    refine lv_iload_n S.1 S.2.1 dX5_lookOver_53 rfl (lv_at hl 2 rfl) ?_
    refine lv_iload_n S.1 S.2.1 dX5_lookOver_54 rfl (lv_at hl 3 rfl) ?_
    refine hm_uV (As := [.int (nI w), .int (nI a)]) (rest := []) (st1 := [.int (meanF s0 w a)]) S hE hG (c_X5_meanOver l g ad M i s0 hs w a hw ha) (hm_gV hb_373 hb_374 hb_375 hb_90 hb_376) hd_X5_meanOver rfl h10 rfl rfl ⟨Nat.le_of_ble_eq_true rfl, Nat.le_of_ble_eq_true rfl⟩ rfl hl.1 rfl (Nat.le_of_ble_eq_true rfl) dX5_lookOver_55 ⟨Nat.le_of_ble_eq_true rfl, Nat.le_of_ble_eq_true rfl⟩ rfl (fun H locs hG => ?_)
    exact hm_iret S hG hr hlk (⟨by simp [lookF], rfl, rfl⟩) (Nat.le_of_ble_eq_true rfl) (Nat.le_of_ble_eq_true rfl) dX5_lookOver_58
  · skip
    have hl : lv_has ls 4 [(0, .ref (ad (10, i, 0))), (1, .int 3), (2, .int (nI w)), (3, .int (nI a))] := hl
    refine lv_iload_n S.1 S.2.1 dX5_lookOver_0 rfl (lv_at hl 1 rfl) ?_
    refine lv_tableIn (tgt := 59) S.1 S.2.1 dX5_lookOver_1 (by decide) (by decide) (by rfl) (by decide) ?_
    refine lv_aload_n S.1 S.2.1 dX5_lookOver_59 rfl (lv_at hl 0 rfl) ?_
    refine lv_iload_n S.1 S.2.1 dX5_lookOver_60 rfl (lv_at hl 2 rfl) ?_
    refine lv_iload_n S.1 S.2.1 dX5_lookOver_61 rfl (lv_at hl 3 rfl) ?_
    refine lv_iconst (v := 1) S.1 S.2.1 dX5_lookOver_62 (by decide) ?_
    refine hm_uV (As := [.int (nI w), .int (nI a), .int 1]) (rest := []) (st1 := [.int (utF s0 w a true)]) S hE hG (c_X5_utmostOver l g ad M i s0 hs w a true hw ha) (hm_gV hb_377 hb_378 hb_379 hb_90 hb_380) hd_X5_utmostOver rfl h10 rfl rfl ⟨Nat.le_of_ble_eq_true rfl, Nat.le_of_ble_eq_true rfl⟩ rfl hl.1 rfl (Nat.le_of_ble_eq_true rfl) dX5_lookOver_63 ⟨Nat.le_of_ble_eq_true rfl, Nat.le_of_ble_eq_true rfl⟩ rfl (fun H locs hG => ?_)
    exact hm_iret S hG hr hlk (⟨by simp [lookF], rfl, rfl⟩) (Nat.le_of_ble_eq_true rfl) (Nat.le_of_ble_eq_true rfl) dX5_lookOver_66
  · skip
    have hl : lv_has ls 4 [(0, .ref (ad (10, i, 0))), (1, .int 4), (2, .int (nI w)), (3, .int (nI a))] := hl
    refine lv_iload_n S.1 S.2.1 dX5_lookOver_0 rfl (lv_at hl 1 rfl) ?_
    refine lv_tableIn (tgt := 67) S.1 S.2.1 dX5_lookOver_1 (by decide) (by decide) (by rfl) (by decide) ?_
    refine lv_aload_n S.1 S.2.1 dX5_lookOver_67 rfl (lv_at hl 0 rfl) ?_
    refine lv_iload_n S.1 S.2.1 dX5_lookOver_68 rfl (lv_at hl 2 rfl) ?_
    refine lv_iload_n S.1 S.2.1 dX5_lookOver_69 rfl (lv_at hl 3 rfl) ?_
    refine lv_iconst (v := 0) S.1 S.2.1 dX5_lookOver_70 (by decide) ?_
    refine hm_uV (As := [.int (nI w), .int (nI a), .int 0]) (rest := []) (st1 := [.int (utF s0 w a false)]) S hE hG (c_X5_utmostOver l g ad M i s0 hs w a false hw ha) (hm_gV hb_377 hb_378 hb_379 hb_90 hb_380) hd_X5_utmostOver rfl h10 rfl rfl ⟨Nat.le_of_ble_eq_true rfl, Nat.le_of_ble_eq_true rfl⟩ rfl hl.1 rfl (Nat.le_of_ble_eq_true rfl) dX5_lookOver_71 ⟨Nat.le_of_ble_eq_true rfl, Nat.le_of_ble_eq_true rfl⟩ rfl (fun H locs hG => ?_)
    exact hm_iret S hG hr hlk (⟨by simp [lookF], rfl, rfl⟩) (Nat.le_of_ble_eq_true rfl) (Nat.le_of_ble_eq_true rfl) dX5_lookOver_74
  · skip
    have hl : lv_has ls 4 [(0, .ref (ad (10, i, 0))), (1, .int 5), (2, .int (nI w)), (3, .int (nI a))] := hl
    refine lv_iload_n S.1 S.2.1 dX5_lookOver_0 rfl (lv_at hl 1 rfl) ?_
    refine lv_tableOut (tgt := 75) S.1 S.2.1 dX5_lookOver_1 (by decide) (by decide) ?_
    refine lv_aload_n S.1 S.2.1 dX5_lookOver_75 rfl (lv_at hl 0 rfl) ?_
    refine hm_get (k := 1) S hE hG h10 rfl rfl hi_X50 (by decide) hb_112 rfl rfl dX5_lookOver_76 ?_
    refine lv_iconst (v := 2) S.1 S.2.1 dX5_lookOver_79 (by decide) ?_
    refine lv_icmp_ne (tgt := 99) S.1 S.2.1 dX5_lookOver_80 (by decide) (fun c80 => ?_) (fun c80 => ?_)
    · skip
      refine lv_iconst (v := 0) S.1 S.2.1 dX5_lookOver_99 (by decide) ?_
      exact hm_iret S hG hr hlk (⟨by simp_all [lookF, hm_pN], rfl, rfl⟩) (Nat.le_of_ble_eq_true rfl) (Nat.le_of_ble_eq_true rfl) dX5_lookOver_100
    · skip
      refine lv_aload_n S.1 S.2.1 dX5_lookOver_83 rfl (lv_at hl 0 rfl) ?_
      refine hm_getsN S hE hG hE.2.2.1.2.2.1 (List.mem_of_getElem? (i := 7) rfl) dX5_lookOver_84 ?_
      refine lv_iload_n S.1 S.2.1 dX5_lookOver_87 rfl (lv_at hl 1 rfl) ?_
      refine lv_iconst (v := 5) S.1 S.2.1 dX5_lookOver_88 (by decide) ?_
      refine lv_isub S.1 S.2.1 dX5_lookOver_89 ?_
      refine hm_top (z := 0) (by decide) ?_
      refine hm_tabI (x := 50) (f := hm_pN) S hG hE.2.2.1.2.2.2 (by unfold vp_in; decide) (by decide) dX5_lookOver_90 ?_
      refine lv_iload_n S.1 S.2.1 dX5_lookOver_91 rfl (lv_at hl 2 rfl) ?_
      refine lv_iload_n S.1 S.2.1 dX5_lookOver_92 rfl (lv_at hl 3 rfl) ?_
      refine hm_uV (As := [.int 50, .int (nI w), .int (nI a)]) (rest := []) (st1 := [.int (partF s0 50 w a)]) S hE hG (c_X5_partOver l g ad M i s0 hs 50 w a hw ha) (hm_gV hb_382 hb_383 hb_384 hb_90 hb_385) hd_X5_partOver rfl h10 rfl rfl ⟨Nat.le_of_ble_eq_true rfl, Nat.le_of_ble_eq_true rfl⟩ rfl hl.1 rfl (Nat.le_of_ble_eq_true rfl) dX5_lookOver_93 ⟨Nat.le_of_ble_eq_true rfl, Nat.le_of_ble_eq_true rfl⟩ rfl (fun H locs hG => ?_)
      refine lv_goto (tgt := 100) S.1 S.2.1 dX5_lookOver_96 (by decide) ?_
      exact hm_iret S hG hr hlk (⟨by simp_all [lookF, hm_pN], rfl, rfl⟩) (Nat.le_of_ble_eq_true rfl) (Nat.le_of_ble_eq_true rfl) dX5_lookOver_100
  · skip
    have hl : lv_has ls 4 [(0, .ref (ad (10, i, 0))), (1, .int 6), (2, .int (nI w)), (3, .int (nI a))] := hl
    refine lv_iload_n S.1 S.2.1 dX5_lookOver_0 rfl (lv_at hl 1 rfl) ?_
    refine lv_tableOut (tgt := 75) S.1 S.2.1 dX5_lookOver_1 (by decide) (by decide) ?_
    refine lv_aload_n S.1 S.2.1 dX5_lookOver_75 rfl (lv_at hl 0 rfl) ?_
    refine hm_get (k := 1) S hE hG h10 rfl rfl hi_X50 (by decide) hb_112 rfl rfl dX5_lookOver_76 ?_
    refine lv_iconst (v := 2) S.1 S.2.1 dX5_lookOver_79 (by decide) ?_
    refine lv_icmp_ne (tgt := 99) S.1 S.2.1 dX5_lookOver_80 (by decide) (fun c80 => ?_) (fun c80 => ?_)
    · skip
      refine lv_iconst (v := 0) S.1 S.2.1 dX5_lookOver_99 (by decide) ?_
      exact hm_iret S hG hr hlk (⟨by simp_all [lookF, hm_pN], rfl, rfl⟩) (Nat.le_of_ble_eq_true rfl) (Nat.le_of_ble_eq_true rfl) dX5_lookOver_100
    · skip
      refine lv_aload_n S.1 S.2.1 dX5_lookOver_83 rfl (lv_at hl 0 rfl) ?_
      refine hm_getsN S hE hG hE.2.2.1.2.2.1 (List.mem_of_getElem? (i := 7) rfl) dX5_lookOver_84 ?_
      refine lv_iload_n S.1 S.2.1 dX5_lookOver_87 rfl (lv_at hl 1 rfl) ?_
      refine lv_iconst (v := 5) S.1 S.2.1 dX5_lookOver_88 (by decide) ?_
      refine lv_isub S.1 S.2.1 dX5_lookOver_89 ?_
      refine hm_top (z := 1) (by decide) ?_
      refine hm_tabI (x := 75) (f := hm_pN) S hG hE.2.2.1.2.2.2 (by unfold vp_in; decide) (by decide) dX5_lookOver_90 ?_
      refine lv_iload_n S.1 S.2.1 dX5_lookOver_91 rfl (lv_at hl 2 rfl) ?_
      refine lv_iload_n S.1 S.2.1 dX5_lookOver_92 rfl (lv_at hl 3 rfl) ?_
      refine hm_uV (As := [.int 75, .int (nI w), .int (nI a)]) (rest := []) (st1 := [.int (partF s0 75 w a)]) S hE hG (c_X5_partOver l g ad M i s0 hs 75 w a hw ha) (hm_gV hb_382 hb_383 hb_384 hb_90 hb_385) hd_X5_partOver rfl h10 rfl rfl ⟨Nat.le_of_ble_eq_true rfl, Nat.le_of_ble_eq_true rfl⟩ rfl hl.1 rfl (Nat.le_of_ble_eq_true rfl) dX5_lookOver_93 ⟨Nat.le_of_ble_eq_true rfl, Nat.le_of_ble_eq_true rfl⟩ rfl (fun H locs hG => ?_)
      refine lv_goto (tgt := 100) S.1 S.2.1 dX5_lookOver_96 (by decide) ?_
      exact hm_iret S hG hr hlk (⟨by simp_all [lookF, hm_pN], rfl, rfl⟩) (Nat.le_of_ble_eq_true rfl) (Nat.le_of_ble_eq_true rfl) dX5_lookOver_100
  · skip
    have hl : lv_has ls 4 [(0, .ref (ad (10, i, 0))), (1, .int 7), (2, .int (nI w)), (3, .int (nI a))] := hl
    refine lv_iload_n S.1 S.2.1 dX5_lookOver_0 rfl (lv_at hl 1 rfl) ?_
    refine lv_tableOut (tgt := 75) S.1 S.2.1 dX5_lookOver_1 (by decide) (by decide) ?_
    refine lv_aload_n S.1 S.2.1 dX5_lookOver_75 rfl (lv_at hl 0 rfl) ?_
    refine hm_get (k := 1) S hE hG h10 rfl rfl hi_X50 (by decide) hb_112 rfl rfl dX5_lookOver_76 ?_
    refine lv_iconst (v := 2) S.1 S.2.1 dX5_lookOver_79 (by decide) ?_
    refine lv_icmp_ne (tgt := 99) S.1 S.2.1 dX5_lookOver_80 (by decide) (fun c80 => ?_) (fun c80 => ?_)
    · skip
      refine lv_iconst (v := 0) S.1 S.2.1 dX5_lookOver_99 (by decide) ?_
      exact hm_iret S hG hr hlk (⟨by simp_all [lookF, hm_pN], rfl, rfl⟩) (Nat.le_of_ble_eq_true rfl) (Nat.le_of_ble_eq_true rfl) dX5_lookOver_100
    · skip
      refine lv_aload_n S.1 S.2.1 dX5_lookOver_83 rfl (lv_at hl 0 rfl) ?_
      refine hm_getsN S hE hG hE.2.2.1.2.2.1 (List.mem_of_getElem? (i := 7) rfl) dX5_lookOver_84 ?_
      refine lv_iload_n S.1 S.2.1 dX5_lookOver_87 rfl (lv_at hl 1 rfl) ?_
      refine lv_iconst (v := 5) S.1 S.2.1 dX5_lookOver_88 (by decide) ?_
      refine lv_isub S.1 S.2.1 dX5_lookOver_89 ?_
      refine hm_top (z := 2) (by decide) ?_
      refine hm_tabI (x := 90) (f := hm_pN) S hG hE.2.2.1.2.2.2 (by unfold vp_in; decide) (by decide) dX5_lookOver_90 ?_
      refine lv_iload_n S.1 S.2.1 dX5_lookOver_91 rfl (lv_at hl 2 rfl) ?_
      refine lv_iload_n S.1 S.2.1 dX5_lookOver_92 rfl (lv_at hl 3 rfl) ?_
      refine hm_uV (As := [.int 90, .int (nI w), .int (nI a)]) (rest := []) (st1 := [.int (partF s0 90 w a)]) S hE hG (c_X5_partOver l g ad M i s0 hs 90 w a hw ha) (hm_gV hb_382 hb_383 hb_384 hb_90 hb_385) hd_X5_partOver rfl h10 rfl rfl ⟨Nat.le_of_ble_eq_true rfl, Nat.le_of_ble_eq_true rfl⟩ rfl hl.1 rfl (Nat.le_of_ble_eq_true rfl) dX5_lookOver_93 ⟨Nat.le_of_ble_eq_true rfl, Nat.le_of_ble_eq_true rfl⟩ rfl (fun H locs hG => ?_)
      refine lv_goto (tgt := 100) S.1 S.2.1 dX5_lookOver_96 (by decide) ?_
      exact hm_iret S hG hr hlk (⟨by simp_all [lookF, hm_pN], rfl, rfl⟩) (Nat.le_of_ble_eq_true rfl) (Nat.le_of_ble_eq_true rfl) dX5_lookOver_100
  · skip
    have hl : lv_has ls 4 [(0, .ref (ad (10, i, 0))), (1, .int 8), (2, .int (nI w)), (3, .int (nI a))] := hl
    refine lv_iload_n S.1 S.2.1 dX5_lookOver_0 rfl (lv_at hl 1 rfl) ?_
    refine lv_tableOut (tgt := 75) S.1 S.2.1 dX5_lookOver_1 (by decide) (by decide) ?_
    refine lv_aload_n S.1 S.2.1 dX5_lookOver_75 rfl (lv_at hl 0 rfl) ?_
    refine hm_get (k := 1) S hE hG h10 rfl rfl hi_X50 (by decide) hb_112 rfl rfl dX5_lookOver_76 ?_
    refine lv_iconst (v := 2) S.1 S.2.1 dX5_lookOver_79 (by decide) ?_
    refine lv_icmp_ne (tgt := 99) S.1 S.2.1 dX5_lookOver_80 (by decide) (fun c80 => ?_) (fun c80 => ?_)
    · skip
      refine lv_iconst (v := 0) S.1 S.2.1 dX5_lookOver_99 (by decide) ?_
      exact hm_iret S hG hr hlk (⟨by simp_all [lookF, hm_pN], rfl, rfl⟩) (Nat.le_of_ble_eq_true rfl) (Nat.le_of_ble_eq_true rfl) dX5_lookOver_100
    · skip
      refine lv_aload_n S.1 S.2.1 dX5_lookOver_83 rfl (lv_at hl 0 rfl) ?_
      refine hm_getsN S hE hG hE.2.2.1.2.2.1 (List.mem_of_getElem? (i := 7) rfl) dX5_lookOver_84 ?_
      refine lv_iload_n S.1 S.2.1 dX5_lookOver_87 rfl (lv_at hl 1 rfl) ?_
      refine lv_iconst (v := 5) S.1 S.2.1 dX5_lookOver_88 (by decide) ?_
      refine lv_isub S.1 S.2.1 dX5_lookOver_89 ?_
      refine hm_top (z := 3) (by decide) ?_
      refine hm_tabI (x := 99) (f := hm_pN) S hG hE.2.2.1.2.2.2 (by unfold vp_in; decide) (by decide) dX5_lookOver_90 ?_
      refine lv_iload_n S.1 S.2.1 dX5_lookOver_91 rfl (lv_at hl 2 rfl) ?_
      refine lv_iload_n S.1 S.2.1 dX5_lookOver_92 rfl (lv_at hl 3 rfl) ?_
      refine hm_uV (As := [.int 99, .int (nI w), .int (nI a)]) (rest := []) (st1 := [.int (partF s0 99 w a)]) S hE hG (c_X5_partOver l g ad M i s0 hs 99 w a hw ha) (hm_gV hb_382 hb_383 hb_384 hb_90 hb_385) hd_X5_partOver rfl h10 rfl rfl ⟨Nat.le_of_ble_eq_true rfl, Nat.le_of_ble_eq_true rfl⟩ rfl hl.1 rfl (Nat.le_of_ble_eq_true rfl) dX5_lookOver_93 ⟨Nat.le_of_ble_eq_true rfl, Nat.le_of_ble_eq_true rfl⟩ rfl (fun H locs hG => ?_)
      refine lv_goto (tgt := 100) S.1 S.2.1 dX5_lookOver_96 (by decide) ?_
      exact hm_iret S hG hr hlk (⟨by simp_all [lookF, hm_pN], rfl, rfl⟩) (Nat.le_of_ble_eq_true rfl) (Nat.le_of_ble_eq_true rfl) dX5_lookOver_100

abbrev rm_X5_columnFor : Room := { frames := 0, cells := 0, slots := 0, locals := 0 }
set_option maxHeartbeats 4000000 in
set_option maxRecDepth 100000 in
theorem c_X5_columnFor (l : Launch) (g : GV) (ad : AD) (M : CT) (x : Int32) : hm_Met l yX5_columnFor cX5_columnFor 2 (some .int) rm_X5_columnFor g ad M [.int x] (hm_pU ad M (some (.int (nI (colF x))))) := by
  refine hm_start (own := RX5) (by decide) rfl (Nat.le_of_ble_eq_true rfl) ?_
  intro p e s m args below meth c S hr hlk hnm hE hG ls hl
  have hl : lv_has ls 2 [(0, .int x)] := hl
  refine lv_iconst (v := 1) S.1 S.2.1 dX5_columnFor_0 (by decide) ?_
  refine lv_istore_n (lv' := [(1, .int 1), (0, .int x)]) S.1 S.2.1 dX5_columnFor_1 rfl hl (by decide) rfl (fun ls hl => ?_)
  have L2_0 : ∀ (n : Nat) (k : Nat), colL x n k = colF x → n + k = 5 → ∀ (H : Heap) (locs : List Loc) (ls : Array Slot), hm_G g ad M s.heap H locs → lv_has ls 2 [(0, .int x), (1, .int (nI k))] → W p l e rm_X5_columnFor s m args below meth c H locs 0 0 (MQ below (hm_Q g (hm_pU ad M (some (.int (nI (colF x)))))) args s rm_X5_columnFor.cells rm_X5_columnFor.slots (hm_A g)) (F0 m 2 ls []) := by
    intro n
    induction n with
    | zero =>
      intro k hF hk H locs ls hG hl
      obtain rfl : k = 5 := by omega
      refine lv_iload_n S.1 S.2.1 dX5_columnFor_2 rfl (lv_at hl 1 rfl) ?_
      refine lv_iconst (v := 5) S.1 S.2.1 dX5_columnFor_3 (by decide) ?_
      refine lv_icmp_ge (tgt := 22) S.1 S.2.1 dX5_columnFor_4 (by decide) (fun _ => ?_) (fun h9 => absurd (by decide) h9)
      refine lv_iload_n S.1 S.2.1 dX5_columnFor_22 rfl (lv_at hl 1 rfl) ?_
      exact hm_iret S hG hr hlk (⟨by rw [← hF]; rfl, rfl, rfl⟩) (Nat.le_of_ble_eq_true rfl) (Nat.le_of_ble_eq_true rfl) dX5_columnFor_23
    | succ n ih =>
      intro k hF hk H locs ls hG hl
      refine lv_iload_n S.1 S.2.1 dX5_columnFor_2 rfl (lv_at hl 1 rfl) ?_
      refine lv_iconst (v := 5) S.1 S.2.1 dX5_columnFor_3 (by decide) ?_
      refine lv_icmp_ge (tgt := 22) S.1 S.2.1 dX5_columnFor_4 (by decide) (fun h9 => absurd h9 (nI_ge (b := 5) (by omega) (by decide))) (fun _ => ?_)
      refine lv_iload_n S.1 S.2.1 dX5_columnFor_7 rfl (lv_at hl 0 rfl) ?_
      refine hm_getsN S hE hG hE.2.2.1.2.1.1 (List.mem_of_getElem? (i := 6) rfl) dX5_columnFor_8 ?_
      refine lv_iload_n S.1 S.2.1 dX5_columnFor_11 rfl (lv_at hl 1 rfl) ?_
      refine hm_tabI (x := hm_eN k) (f := hm_eN) S hG hE.2.2.1.2.1.2 (vp_in_nI (n := k) (by omega) (by decide)) (congrArg hm_eN (nI_clamp (by omega))) dX5_columnFor_12 ?_
      refine lv_icmp_le (tgt := 22) S.1 S.2.1 dX5_columnFor_13 (by decide) (fun c13 => ?_) (fun c13 => ?_)
      · skip
        refine lv_iload_n S.1 S.2.1 dX5_columnFor_22 rfl (lv_at hl 1 rfl) ?_
        exact hm_iret S hG hr hlk (⟨by rw [← hF, colL, if_neg (Int32.not_lt.mpr c13)], rfl, rfl⟩) (Nat.le_of_ble_eq_true rfl) (Nat.le_of_ble_eq_true rfl) dX5_columnFor_23
      · skip
        refine lv_iinc (v := nI (k + 1)) (lv' := [(1, .int (nI (k + 1))), (0, .int x)]) S.1 S.2.1 dX5_columnFor_16 hl (k := 1) rfl (nI_1 k) (by decide) rfl (fun ls hl => ?_)
        refine lv_goto (tgt := 2) S.1 S.2.1 dX5_columnFor_19 (by decide) ?_
        exact ih (k + 1) (by rw [← hF, colL, if_pos (Int32.not_le.mp c13)]) (by omega) _ _ _ hG (lv_sub hl [1, 0] rfl)
  exact L2_0 4 1 rfl rfl _ _ _ hG (lv_sub hl [1, 0] rfl)

abbrev rm_X5_take : Room := { frames := 1, cells := 0, slots := 0, locals := 21 }
set_option maxHeartbeats 4000000 in
set_option maxRecDepth 100000 in
theorem c_X5_take (l : Launch) (g : GV) (ad : AD) (M : CT) (i : Nat) (s0 : SeD) (hs : hasSe g ad M i s0) (x : Int32) : hm_Met l yX5_take cX5_take 2 none rm_X5_take g ad M [.ref (ad (10, i, 0)), .int x] (hm_pU ad (hm_up M (11, i, 0) (hm_ia g 6 (takeP s0 x))) none) := by
  refine hm_start (own := RX5) (by decide) rfl (Nat.le_of_ble_eq_true rfl) ?_
  intro p e s m args below meth c S hr hlk hnm hE hG ls hl
  have hl : lv_has ls 2 [(0, .ref (ad (10, i, 0))), (1, .int x)] := hl
  obtain ⟨h10, h11, h12, h13, hla, hhe, hi⟩ := id hs
  refine lv_aload_n S.1 S.2.1 dX5_take_0 rfl (lv_at hl 0 rfl) ?_
  refine hm_get (k := 1) S hE hG h10 rfl rfl hi_X50 (by decide) hb_112 rfl rfl dX5_take_1 ?_
  refine lv_iconst (v := 1) S.1 S.2.1 dX5_take_4 (by decide) ?_
  refine lv_icmp_ne (tgt := 18) S.1 S.2.1 dX5_take_5 (by decide) (fun c5 => ?_) (fun c5 => ?_)
  · skip
    have e5 : ¬ sKi s0 = 1 := c5
    refine lv_aload_n S.1 S.2.1 dX5_take_18 rfl (lv_at hl 0 rfl) ?_
    refine hm_get (k := 1) S hE hG h10 rfl rfl hi_X50 (by decide) hb_112 rfl rfl dX5_take_19 ?_
    refine lv_if_ne (tgt := 38) S.1 S.2.1 dX5_take_22 (by decide) (fun c22 => ?_) (fun c22 => ?_)
    · skip
      have e22 : ¬ sKi s0 = 0 := c22
      refine lv_aload_n S.1 S.2.1 dX5_take_38 rfl (lv_at hl 0 rfl) ?_
      refine hm_get (k := 4) S hE hG h10 rfl rfl hi_X50 (by decide) hb_106 rfl rfl dX5_take_39 ?_
      refine lv_iload_n S.1 S.2.1 dX5_take_42 rfl (lv_at hl 1 rfl) ?_
      refine hm_uS (As := [.int x]) (rest := [.ref (ad (11, i, 0))]) (st1 := [.int (nI (colF x)), .ref (ad (11, i, 0))]) S hE hG (c_X5_columnFor l g ad M x) (hm_gS hb_251 hb_252 hb_90 hb_253) hd_X5_columnFor ⟨Nat.le_of_ble_eq_true rfl, Nat.le_of_ble_eq_true rfl⟩ rfl hl.1 rfl (Nat.le_of_ble_eq_true rfl) dX5_take_43 ⟨Nat.le_of_ble_eq_true rfl, Nat.le_of_ble_eq_true rfl⟩ rfl (fun H locs hG => ?_)
      refine lv_dup2_11 S.1 S.2.1 dX5_take_46 rfl rfl ?_
      refine hm_iald (x := (sPr s0) (colF x)) S hE hG h11 rfl (vp_in_nI (colF_lt x) (by decide)) (congrArg (sPr s0) (nI_clamp (Nat.lt_trans (colF_lt x) (by decide)))) dX5_take_47 ?_
      refine lv_iconst (v := 1) S.1 S.2.1 dX5_take_48 (by decide) ?_
      refine lv_iadd S.1 S.2.1 dX5_take_49 ?_
      refine hm_iast2 (j := (colF x)) (x := (((sPr s0) (colF x)) + 1)) S hE hG h11 rfl (vp_in_nI (colF_lt x) (by decide)) (nI_clamp (Nat.lt_trans (colF_lt x) (by decide))) dX5_take_50 (fun H locs hG => ?_)
      obtain ⟨M_1, eM_1⟩ : ∃ z, z = hm_up M (11, i, 0) (hm_ia g 6 (upd (sPr s0) (colF x) (((sPr s0) (colF x)) + 1))) := ⟨_, rfl⟩
      rw [← eM_1] at hG
      have h_2 : M_1 (10, i, 0) = some (.inr (6, [.int (nI i), .int (sKi s0), .int (sMe s0), .int (sPl s0), .ref (ad (11, i, 0)), .ref (ad (12, i, 0)), .int (nI (sLa s0)), .int (nI (sHe s0))])) := by rw [eM_1]; exact (hm_up_n (by simp)).trans h10
      have h_3 : M_1 (11, i, 0) = some (hm_ia g 6 (upd (sPr s0) (colF x) (((sPr s0) (colF x)) + 1))) := by rw [eM_1]; exact hm_up_s
      have h_4 : M_1 (12, i, 0) = some (hm_ra g 4 13 (rowsA ad i)) := by rw [eM_1]; exact (hm_up_n (by simp)).trans h12
      refine lv_aload_n S.1 S.2.1 dX5_take_51 rfl (lv_at hl 0 rfl) ?_
      refine hm_get (k := 4) S hE hG h_2 rfl rfl hi_X50 (by decide) hb_106 rfl rfl dX5_take_52 ?_
      refine lv_iconst (v := 0) S.1 S.2.1 dX5_take_55 (by decide) ?_
      refine lv_dup2_11 S.1 S.2.1 dX5_take_56 rfl rfl ?_
      refine hm_iald (x := (upd (sPr s0) (colF x) (((sPr s0) (colF x)) + 1)) 0) S hE hG h_3 rfl (by unfold vp_in; decide) (congrArg (upd (sPr s0) (colF x) (((sPr s0) (colF x)) + 1)) (by decide)) dX5_take_57 ?_
      refine lv_iconst (v := 1) S.1 S.2.1 dX5_take_58 (by decide) ?_
      refine lv_iadd S.1 S.2.1 dX5_take_59 ?_
      refine hm_top (z := upd (sPr s0) (colF x) (sPr s0 (colF x) + 1) 0 + 1) (rfl) ?_
      refine hm_iast2 (j := 0) (x := (upd (sPr s0) (colF x) (sPr s0 (colF x) + 1) 0 + 1)) S hE hG h_3 rfl (by unfold vp_in; decide) (by decide) dX5_take_60 (fun H locs hG => ?_)
      obtain ⟨M_5, eM_5⟩ : ∃ z, z = hm_up M_1 (11, i, 0) (hm_ia g 6 (upd (upd (sPr s0) (colF x) (((sPr s0) (colF x)) + 1)) 0 (upd (sPr s0) (colF x) (sPr s0 (colF x) + 1) 0 + 1))) := ⟨_, rfl⟩
      rw [← eM_5] at hG
      have h_6 : M_5 (10, i, 0) = some (.inr (6, [.int (nI i), .int (sKi s0), .int (sMe s0), .int (sPl s0), .ref (ad (11, i, 0)), .ref (ad (12, i, 0)), .int (nI (sLa s0)), .int (nI (sHe s0))])) := by rw [eM_5]; exact (hm_up_n (by simp)).trans h_2
      have h_7 : M_5 (11, i, 0) = some (hm_ia g 6 (upd (upd (sPr s0) (colF x) (((sPr s0) (colF x)) + 1)) 0 (upd (sPr s0) (colF x) (sPr s0 (colF x) + 1) 0 + 1))) := by rw [eM_5]; exact hm_up_s
      have h_8 : M_5 (12, i, 0) = some (hm_ra g 4 13 (rowsA ad i)) := by rw [eM_5]; exact (hm_up_n (by simp)).trans h_4
      exact hm_vret S hG hr hlk (⟨rfl, rfl, by rw [show takeP s0 x = _ from by rw [takeP, if_neg e5, if_neg e22]]; simp [hm_up_up, histP, *]⟩) (Nat.le_of_ble_eq_true rfl) (Nat.le_of_ble_eq_true rfl) dX5_take_61
    · skip
      have e22 : sKi s0 = 0 := by simpa using c22
      refine lv_aload_n S.1 S.2.1 dX5_take_25 rfl (lv_at hl 0 rfl) ?_
      refine hm_get (k := 4) S hE hG h10 rfl rfl hi_X50 (by decide) hb_106 rfl rfl dX5_take_26 ?_
      refine lv_iconst (v := 0) S.1 S.2.1 dX5_take_29 (by decide) ?_
      refine lv_dup2_11 S.1 S.2.1 dX5_take_30 rfl rfl ?_
      refine hm_iald (x := (sPr s0) 0) S hE hG h11 rfl (by unfold vp_in; decide) (congrArg (sPr s0) (by decide)) dX5_take_31 ?_
      refine lv_iload_n S.1 S.2.1 dX5_take_32 rfl (lv_at hl 1 rfl) ?_
      refine lv_iadd S.1 S.2.1 dX5_take_33 ?_
      refine hm_iast2 (j := 0) (x := (((sPr s0) 0) + x)) S hE hG h11 rfl (by unfold vp_in; decide) (by decide) dX5_take_34 (fun H locs hG => ?_)
      obtain ⟨M_9, eM_9⟩ : ∃ z, z = hm_up M (11, i, 0) (hm_ia g 6 (upd (sPr s0) 0 (((sPr s0) 0) + x))) := ⟨_, rfl⟩
      rw [← eM_9] at hG
      have h_10 : M_9 (10, i, 0) = some (.inr (6, [.int (nI i), .int (sKi s0), .int (sMe s0), .int (sPl s0), .ref (ad (11, i, 0)), .ref (ad (12, i, 0)), .int (nI (sLa s0)), .int (nI (sHe s0))])) := by rw [eM_9]; exact (hm_up_n (by simp)).trans h10
      have h_11 : M_9 (11, i, 0) = some (hm_ia g 6 (upd (sPr s0) 0 (((sPr s0) 0) + x))) := by rw [eM_9]; exact hm_up_s
      have h_12 : M_9 (12, i, 0) = some (hm_ra g 4 13 (rowsA ad i)) := by rw [eM_9]; exact (hm_up_n (by simp)).trans h12
      refine lv_goto (tgt := 61) S.1 S.2.1 dX5_take_35 (by decide) ?_
      exact hm_vret S hG hr hlk (⟨rfl, rfl, by rw [show takeP s0 x = _ from by rw [takeP, if_neg e5, if_pos e22]]; simp [hm_up_up, histP, *]⟩) (Nat.le_of_ble_eq_true rfl) (Nat.le_of_ble_eq_true rfl) dX5_take_61
  · skip
    have e5 : sKi s0 = 1 := by simpa using c5
    refine lv_aload_n S.1 S.2.1 dX5_take_8 rfl (lv_at hl 0 rfl) ?_
    refine hm_get (k := 4) S hE hG h10 rfl rfl hi_X50 (by decide) hb_106 rfl rfl dX5_take_9 ?_
    refine lv_iconst (v := 0) S.1 S.2.1 dX5_take_12 (by decide) ?_
    refine lv_iload_n S.1 S.2.1 dX5_take_13 rfl (lv_at hl 1 rfl) ?_
    refine hm_iast2 (j := 0) (x := x) S hE hG h11 rfl (by unfold vp_in; decide) (by decide) dX5_take_14 (fun H locs hG => ?_)
    obtain ⟨M_13, eM_13⟩ : ∃ z, z = hm_up M (11, i, 0) (hm_ia g 6 (upd (sPr s0) 0 x)) := ⟨_, rfl⟩
    rw [← eM_13] at hG
    have h_14 : M_13 (10, i, 0) = some (.inr (6, [.int (nI i), .int (sKi s0), .int (sMe s0), .int (sPl s0), .ref (ad (11, i, 0)), .ref (ad (12, i, 0)), .int (nI (sLa s0)), .int (nI (sHe s0))])) := by rw [eM_13]; exact (hm_up_n (by simp)).trans h10
    have h_15 : M_13 (11, i, 0) = some (hm_ia g 6 (upd (sPr s0) 0 x)) := by rw [eM_13]; exact hm_up_s
    have h_16 : M_13 (12, i, 0) = some (hm_ra g 4 13 (rowsA ad i)) := by rw [eM_13]; exact (hm_up_n (by simp)).trans h12
    refine lv_goto (tgt := 61) S.1 S.2.1 dX5_take_15 (by decide) ?_
    exact hm_vret S hG hr hlk (⟨rfl, rfl, by rw [show takeP s0 x = _ from by rw [takeP, if_pos e5]]; simp [hm_up_up, histP, *]⟩) (Nat.le_of_ble_eq_true rfl) (Nat.le_of_ble_eq_true rfl) dX5_take_61

abbrev rm_X5_beginAnew : Room := { frames := 0, cells := 0, slots := 0, locals := 0 }
set_option maxHeartbeats 4000000 in
set_option maxRecDepth 100000 in
theorem c_X5_beginAnew (l : Launch) (g : GV) (ad : AD) (M : CT) (i : Nat) (s0 : SeD) (hs : hasSe g ad M i s0) : hm_Met l yX5_beginAnew cX5_beginAnew 2 none rm_X5_beginAnew g ad M [.ref (ad (10, i, 0))] (hm_pU ad (hm_up M (11, i, 0) (hm_ia g 6 (zeroP (sPr s0)))) none) := by
  refine hm_start (own := RX5) (by decide) rfl (Nat.le_of_ble_eq_true rfl) ?_
  intro p e s m args below meth c S hr hlk hnm hE hG ls hl
  have hl : lv_has ls 2 [(0, .ref (ad (10, i, 0)))] := hl
  obtain ⟨h10, h11, h12, h13, hla, hhe, hi⟩ := id hs
  refine lv_iconst (v := 0) S.1 S.2.1 dX5_beginAnew_0 (by decide) ?_
  refine lv_istore_n (lv' := [(1, .int 0), (0, .ref (ad (10, i, 0)))]) S.1 S.2.1 dX5_beginAnew_1 rfl hl (by decide) rfl (fun ls hl => ?_)
  refine lv_iload_n S.1 S.2.1 dX5_beginAnew_2 rfl (lv_at hl 0 rfl) ?_
  refine lv_bipush (v := 6) S.1 S.2.1 dX5_beginAnew_3 (by decide) ?_
  refine lv_icmp_ge (tgt := 21) S.1 S.2.1 dX5_beginAnew_5 (by decide) (fun h9 => absurd h9 (by decide)) (fun _ => ?_)
  refine lv_aload_n S.1 S.2.1 dX5_beginAnew_8 rfl (lv_at hl 1 rfl) ?_
  refine hm_get (k := 4) S hE hG h10 rfl rfl hi_X50 (by decide) hb_106 rfl rfl dX5_beginAnew_9 ?_
  refine lv_iload_n S.1 S.2.1 dX5_beginAnew_12 rfl (lv_at hl 0 rfl) ?_
  refine lv_iconst (v := 0) S.1 S.2.1 dX5_beginAnew_13 (by decide) ?_
  refine hm_iast2 (j := 0) (x := 0) S hE hG h11 rfl (by unfold vp_in; decide) (by decide) dX5_beginAnew_14 (fun H locs hG => ?_)
  obtain ⟨M_1, eM_1⟩ : ∃ z, z = hm_up M (11, i, 0) (hm_ia g 6 (upd (sPr s0) 0 0)) := ⟨_, rfl⟩
  rw [← eM_1] at hG
  have h_2 : M_1 (10, i, 0) = some (.inr (6, [.int (nI i), .int (sKi s0), .int (sMe s0), .int (sPl s0), .ref (ad (11, i, 0)), .ref (ad (12, i, 0)), .int (nI (sLa s0)), .int (nI (sHe s0))])) := by rw [eM_1]; exact (hm_up_n (by simp)).trans h10
  have h_3 : M_1 (11, i, 0) = some (hm_ia g 6 (upd (sPr s0) 0 0)) := by rw [eM_1]; exact hm_up_s
  have h_4 : M_1 (12, i, 0) = some (hm_ra g 4 13 (rowsA ad i)) := by rw [eM_1]; exact (hm_up_n (by simp)).trans h12
  refine lv_iinc (v := 1) (lv' := [(1, .int 1), (0, .ref (ad (10, i, 0)))]) S.1 S.2.1 dX5_beginAnew_15 hl (k := 0) rfl (by decide) (by decide) rfl (fun ls hl => ?_)
  refine lv_goto (tgt := 2) S.1 S.2.1 dX5_beginAnew_18 (by decide) ?_
  refine lv_iload_n S.1 S.2.1 dX5_beginAnew_2 rfl (lv_at hl 0 rfl) ?_
  refine lv_bipush (v := 6) S.1 S.2.1 dX5_beginAnew_3 (by decide) ?_
  refine lv_icmp_ge (tgt := 21) S.1 S.2.1 dX5_beginAnew_5 (by decide) (fun h9 => absurd h9 (by decide)) (fun _ => ?_)
  refine lv_aload_n S.1 S.2.1 dX5_beginAnew_8 rfl (lv_at hl 1 rfl) ?_
  refine hm_get (k := 4) S hE hG h_2 rfl rfl hi_X50 (by decide) hb_106 rfl rfl dX5_beginAnew_9 ?_
  refine lv_iload_n S.1 S.2.1 dX5_beginAnew_12 rfl (lv_at hl 0 rfl) ?_
  refine lv_iconst (v := 0) S.1 S.2.1 dX5_beginAnew_13 (by decide) ?_
  refine hm_iast2 (j := 1) (x := 0) S hE hG h_3 rfl (by unfold vp_in; decide) (by decide) dX5_beginAnew_14 (fun H locs hG => ?_)
  obtain ⟨M_5, eM_5⟩ : ∃ z, z = hm_up M_1 (11, i, 0) (hm_ia g 6 (upd (upd (sPr s0) 0 0) 1 0)) := ⟨_, rfl⟩
  rw [← eM_5] at hG
  have h_6 : M_5 (10, i, 0) = some (.inr (6, [.int (nI i), .int (sKi s0), .int (sMe s0), .int (sPl s0), .ref (ad (11, i, 0)), .ref (ad (12, i, 0)), .int (nI (sLa s0)), .int (nI (sHe s0))])) := by rw [eM_5]; exact (hm_up_n (by simp)).trans h_2
  have h_7 : M_5 (11, i, 0) = some (hm_ia g 6 (upd (upd (sPr s0) 0 0) 1 0)) := by rw [eM_5]; exact hm_up_s
  have h_8 : M_5 (12, i, 0) = some (hm_ra g 4 13 (rowsA ad i)) := by rw [eM_5]; exact (hm_up_n (by simp)).trans h_4
  refine lv_iinc (v := 2) (lv' := [(1, .int 2), (0, .ref (ad (10, i, 0)))]) S.1 S.2.1 dX5_beginAnew_15 hl (k := 0) rfl (by decide) (by decide) rfl (fun ls hl => ?_)
  refine lv_goto (tgt := 2) S.1 S.2.1 dX5_beginAnew_18 (by decide) ?_
  refine lv_iload_n S.1 S.2.1 dX5_beginAnew_2 rfl (lv_at hl 0 rfl) ?_
  refine lv_bipush (v := 6) S.1 S.2.1 dX5_beginAnew_3 (by decide) ?_
  refine lv_icmp_ge (tgt := 21) S.1 S.2.1 dX5_beginAnew_5 (by decide) (fun h9 => absurd h9 (by decide)) (fun _ => ?_)
  refine lv_aload_n S.1 S.2.1 dX5_beginAnew_8 rfl (lv_at hl 1 rfl) ?_
  refine hm_get (k := 4) S hE hG h_6 rfl rfl hi_X50 (by decide) hb_106 rfl rfl dX5_beginAnew_9 ?_
  refine lv_iload_n S.1 S.2.1 dX5_beginAnew_12 rfl (lv_at hl 0 rfl) ?_
  refine lv_iconst (v := 0) S.1 S.2.1 dX5_beginAnew_13 (by decide) ?_
  refine hm_iast2 (j := 2) (x := 0) S hE hG h_7 rfl (by unfold vp_in; decide) (by decide) dX5_beginAnew_14 (fun H locs hG => ?_)
  obtain ⟨M_9, eM_9⟩ : ∃ z, z = hm_up M_5 (11, i, 0) (hm_ia g 6 (upd (upd (upd (sPr s0) 0 0) 1 0) 2 0)) := ⟨_, rfl⟩
  rw [← eM_9] at hG
  have h_10 : M_9 (10, i, 0) = some (.inr (6, [.int (nI i), .int (sKi s0), .int (sMe s0), .int (sPl s0), .ref (ad (11, i, 0)), .ref (ad (12, i, 0)), .int (nI (sLa s0)), .int (nI (sHe s0))])) := by rw [eM_9]; exact (hm_up_n (by simp)).trans h_6
  have h_11 : M_9 (11, i, 0) = some (hm_ia g 6 (upd (upd (upd (sPr s0) 0 0) 1 0) 2 0)) := by rw [eM_9]; exact hm_up_s
  have h_12 : M_9 (12, i, 0) = some (hm_ra g 4 13 (rowsA ad i)) := by rw [eM_9]; exact (hm_up_n (by simp)).trans h_8
  refine lv_iinc (v := 3) (lv' := [(1, .int 3), (0, .ref (ad (10, i, 0)))]) S.1 S.2.1 dX5_beginAnew_15 hl (k := 0) rfl (by decide) (by decide) rfl (fun ls hl => ?_)
  refine lv_goto (tgt := 2) S.1 S.2.1 dX5_beginAnew_18 (by decide) ?_
  refine lv_iload_n S.1 S.2.1 dX5_beginAnew_2 rfl (lv_at hl 0 rfl) ?_
  refine lv_bipush (v := 6) S.1 S.2.1 dX5_beginAnew_3 (by decide) ?_
  refine lv_icmp_ge (tgt := 21) S.1 S.2.1 dX5_beginAnew_5 (by decide) (fun h9 => absurd h9 (by decide)) (fun _ => ?_)
  refine lv_aload_n S.1 S.2.1 dX5_beginAnew_8 rfl (lv_at hl 1 rfl) ?_
  refine hm_get (k := 4) S hE hG h_10 rfl rfl hi_X50 (by decide) hb_106 rfl rfl dX5_beginAnew_9 ?_
  refine lv_iload_n S.1 S.2.1 dX5_beginAnew_12 rfl (lv_at hl 0 rfl) ?_
  refine lv_iconst (v := 0) S.1 S.2.1 dX5_beginAnew_13 (by decide) ?_
  refine hm_iast2 (j := 3) (x := 0) S hE hG h_11 rfl (by unfold vp_in; decide) (by decide) dX5_beginAnew_14 (fun H locs hG => ?_)
  obtain ⟨M_13, eM_13⟩ : ∃ z, z = hm_up M_9 (11, i, 0) (hm_ia g 6 (upd (upd (upd (upd (sPr s0) 0 0) 1 0) 2 0) 3 0)) := ⟨_, rfl⟩
  rw [← eM_13] at hG
  have h_14 : M_13 (10, i, 0) = some (.inr (6, [.int (nI i), .int (sKi s0), .int (sMe s0), .int (sPl s0), .ref (ad (11, i, 0)), .ref (ad (12, i, 0)), .int (nI (sLa s0)), .int (nI (sHe s0))])) := by rw [eM_13]; exact (hm_up_n (by simp)).trans h_10
  have h_15 : M_13 (11, i, 0) = some (hm_ia g 6 (upd (upd (upd (upd (sPr s0) 0 0) 1 0) 2 0) 3 0)) := by rw [eM_13]; exact hm_up_s
  have h_16 : M_13 (12, i, 0) = some (hm_ra g 4 13 (rowsA ad i)) := by rw [eM_13]; exact (hm_up_n (by simp)).trans h_12
  refine lv_iinc (v := 4) (lv' := [(1, .int 4), (0, .ref (ad (10, i, 0)))]) S.1 S.2.1 dX5_beginAnew_15 hl (k := 0) rfl (by decide) (by decide) rfl (fun ls hl => ?_)
  refine lv_goto (tgt := 2) S.1 S.2.1 dX5_beginAnew_18 (by decide) ?_
  refine lv_iload_n S.1 S.2.1 dX5_beginAnew_2 rfl (lv_at hl 0 rfl) ?_
  refine lv_bipush (v := 6) S.1 S.2.1 dX5_beginAnew_3 (by decide) ?_
  refine lv_icmp_ge (tgt := 21) S.1 S.2.1 dX5_beginAnew_5 (by decide) (fun h9 => absurd h9 (by decide)) (fun _ => ?_)
  refine lv_aload_n S.1 S.2.1 dX5_beginAnew_8 rfl (lv_at hl 1 rfl) ?_
  refine hm_get (k := 4) S hE hG h_14 rfl rfl hi_X50 (by decide) hb_106 rfl rfl dX5_beginAnew_9 ?_
  refine lv_iload_n S.1 S.2.1 dX5_beginAnew_12 rfl (lv_at hl 0 rfl) ?_
  refine lv_iconst (v := 0) S.1 S.2.1 dX5_beginAnew_13 (by decide) ?_
  refine hm_iast2 (j := 4) (x := 0) S hE hG h_15 rfl (by unfold vp_in; decide) (by decide) dX5_beginAnew_14 (fun H locs hG => ?_)
  obtain ⟨M_17, eM_17⟩ : ∃ z, z = hm_up M_13 (11, i, 0) (hm_ia g 6 (upd (upd (upd (upd (upd (sPr s0) 0 0) 1 0) 2 0) 3 0) 4 0)) := ⟨_, rfl⟩
  rw [← eM_17] at hG
  have h_18 : M_17 (10, i, 0) = some (.inr (6, [.int (nI i), .int (sKi s0), .int (sMe s0), .int (sPl s0), .ref (ad (11, i, 0)), .ref (ad (12, i, 0)), .int (nI (sLa s0)), .int (nI (sHe s0))])) := by rw [eM_17]; exact (hm_up_n (by simp)).trans h_14
  have h_19 : M_17 (11, i, 0) = some (hm_ia g 6 (upd (upd (upd (upd (upd (sPr s0) 0 0) 1 0) 2 0) 3 0) 4 0)) := by rw [eM_17]; exact hm_up_s
  have h_20 : M_17 (12, i, 0) = some (hm_ra g 4 13 (rowsA ad i)) := by rw [eM_17]; exact (hm_up_n (by simp)).trans h_16
  refine lv_iinc (v := 5) (lv' := [(1, .int 5), (0, .ref (ad (10, i, 0)))]) S.1 S.2.1 dX5_beginAnew_15 hl (k := 0) rfl (by decide) (by decide) rfl (fun ls hl => ?_)
  refine lv_goto (tgt := 2) S.1 S.2.1 dX5_beginAnew_18 (by decide) ?_
  refine lv_iload_n S.1 S.2.1 dX5_beginAnew_2 rfl (lv_at hl 0 rfl) ?_
  refine lv_bipush (v := 6) S.1 S.2.1 dX5_beginAnew_3 (by decide) ?_
  refine lv_icmp_ge (tgt := 21) S.1 S.2.1 dX5_beginAnew_5 (by decide) (fun h9 => absurd h9 (by decide)) (fun _ => ?_)
  refine lv_aload_n S.1 S.2.1 dX5_beginAnew_8 rfl (lv_at hl 1 rfl) ?_
  refine hm_get (k := 4) S hE hG h_18 rfl rfl hi_X50 (by decide) hb_106 rfl rfl dX5_beginAnew_9 ?_
  refine lv_iload_n S.1 S.2.1 dX5_beginAnew_12 rfl (lv_at hl 0 rfl) ?_
  refine lv_iconst (v := 0) S.1 S.2.1 dX5_beginAnew_13 (by decide) ?_
  refine hm_iast2 (j := 5) (x := 0) S hE hG h_19 rfl (by unfold vp_in; decide) (by decide) dX5_beginAnew_14 (fun H locs hG => ?_)
  obtain ⟨M_21, eM_21⟩ : ∃ z, z = hm_up M_17 (11, i, 0) (hm_ia g 6 (upd (upd (upd (upd (upd (upd (sPr s0) 0 0) 1 0) 2 0) 3 0) 4 0) 5 0)) := ⟨_, rfl⟩
  rw [← eM_21] at hG
  have h_22 : M_21 (10, i, 0) = some (.inr (6, [.int (nI i), .int (sKi s0), .int (sMe s0), .int (sPl s0), .ref (ad (11, i, 0)), .ref (ad (12, i, 0)), .int (nI (sLa s0)), .int (nI (sHe s0))])) := by rw [eM_21]; exact (hm_up_n (by simp)).trans h_18
  have h_23 : M_21 (11, i, 0) = some (hm_ia g 6 (upd (upd (upd (upd (upd (upd (sPr s0) 0 0) 1 0) 2 0) 3 0) 4 0) 5 0)) := by rw [eM_21]; exact hm_up_s
  have h_24 : M_21 (12, i, 0) = some (hm_ra g 4 13 (rowsA ad i)) := by rw [eM_21]; exact (hm_up_n (by simp)).trans h_20
  refine lv_iinc (v := 6) (lv' := [(1, .int 6), (0, .ref (ad (10, i, 0)))]) S.1 S.2.1 dX5_beginAnew_15 hl (k := 0) rfl (by decide) (by decide) rfl (fun ls hl => ?_)
  refine lv_goto (tgt := 2) S.1 S.2.1 dX5_beginAnew_18 (by decide) ?_
  refine lv_iload_n S.1 S.2.1 dX5_beginAnew_2 rfl (lv_at hl 0 rfl) ?_
  refine lv_bipush (v := 6) S.1 S.2.1 dX5_beginAnew_3 (by decide) ?_
  refine lv_icmp_ge (tgt := 21) S.1 S.2.1 dX5_beginAnew_5 (by decide) (fun _ => ?_) (fun h9 => absurd (by decide) h9)
  exact hm_vret S hG hr hlk (⟨rfl, rfl, by simp [hm_up_up, zeroP, *]⟩) (Nat.le_of_ble_eq_true rfl) (Nat.le_of_ble_eq_true rfl) dX5_beginAnew_21

abbrev rm_X5_keepSample : Room := { frames := 1, cells := 0, slots := 0, locals := 60 }
set_option maxHeartbeats 4000000 in
set_option maxRecDepth 100000 in
theorem c_X5_keepSample (l : Launch) (g : GV) (ad : AD) (M : CT) (i : Nat) (s0 : SeD) (hs : hasSe g ad M i s0) : hm_Met l yX5_keepSample cX5_keepSample 1 none rm_X5_keepSample g ad M [.ref (ad (10, i, 0))] (hm_pU ad (keepM g ad M i s0) none) := by
  refine hm_start (own := RX5) (by decide) rfl (Nat.le_of_ble_eq_true rfl) ?_
  intro p e s m args below meth c S hr hlk hnm hE hG ls hl
  have hl : lv_has ls 1 [(0, .ref (ad (10, i, 0)))] := hl
  obtain ⟨h10, h11, h12, h13, hla, hhe, hi⟩ := id hs
  refine lv_aload_n S.1 S.2.1 dX5_keepSample_0 rfl (lv_at hl 0 rfl) ?_
  refine lv_aload_n S.1 S.2.1 dX5_keepSample_1 rfl (lv_at hl 0 rfl) ?_
  refine hm_get (k := 6) S hE hG h10 rfl rfl hi_X50 (by decide) hb_109 rfl rfl dX5_keepSample_2 ?_
  refine lv_iconst (v := 1) S.1 S.2.1 dX5_keepSample_5 (by decide) ?_
  refine lv_iadd S.1 S.2.1 dX5_keepSample_6 ?_
  refine hm_top (z := nI (sLa s0 + 1)) (nI_1 _) ?_
  refine lv_bipush (v := 13) S.1 S.2.1 dX5_keepSample_7 (by decide) ?_
  refine lv_irem S.1 S.2.1 dX5_keepSample_9 (by decide) ?_
  refine hm_top (z := nI (kpLa s0)) (hm_rem13 (by omega)) ?_
  refine hm_put (k := 6) (fs' := [.int (nI i), .int (sKi s0), .int (sMe s0), .int (sPl s0), .ref (ad (11, i, 0)), .ref (ad (12, i, 0)), .int (nI (kpLa s0)), .int (nI (sHe s0))]) S hE hG h10 rfl rfl hi_X50 tyX5_ok nmX5 (by decide) hb_109 rfl rfl (by rfl) (by rfl) (Nat.le_of_ble_eq_true rfl) rfl dX5_keepSample_10 (fun H locs hG => ?_)
  obtain ⟨M_1, eM_1⟩ : ∃ z, z = hm_up M (10, i, 0) (.inr (6, [.int (nI i), .int (sKi s0), .int (sMe s0), .int (sPl s0), .ref (ad (11, i, 0)), .ref (ad (12, i, 0)), .int (nI (kpLa s0)), .int (nI (sHe s0))])) := ⟨_, rfl⟩
  rw [← eM_1] at hG
  have h_2 : M_1 (10, i, 0) = some (.inr (6, [.int (nI i), .int (sKi s0), .int (sMe s0), .int (sPl s0), .ref (ad (11, i, 0)), .ref (ad (12, i, 0)), .int (nI (kpLa s0)), .int (nI (sHe s0))])) := by rw [eM_1]; exact hm_up_s
  have h_3 : M_1 (11, i, 0) = some (hm_ia g 6 (sPr s0)) := by rw [eM_1]; exact (hm_up_n (by simp)).trans h11
  have h_4 : M_1 (12, i, 0) = some (hm_ra g 4 13 (rowsA ad i)) := by rw [eM_1]; exact (hm_up_n (by simp)).trans h12
  refine lv_aload_n S.1 S.2.1 dX5_keepSample_13 rfl (lv_at hl 0 rfl) ?_
  refine lv_aload_n S.1 S.2.1 dX5_keepSample_14 rfl (lv_at hl 0 rfl) ?_
  refine hm_get (k := 7) S hE hG h_2 rfl rfl hi_X50 (by decide) hb_110 rfl rfl dX5_keepSample_15 ?_
  refine lv_iconst (v := 1) S.1 S.2.1 dX5_keepSample_18 (by decide) ?_
  refine lv_iadd S.1 S.2.1 dX5_keepSample_19 ?_
  refine hm_top (z := nI (sHe s0 + 1)) (nI_1 _) ?_
  refine lv_bipush (v := 13) S.1 S.2.1 dX5_keepSample_20 (by decide) ?_
  refine hm_min (z := nI (kpHe s0)) S hb_372 hb_4 hb_5 hb_6 hl.1 (Nat.le_of_ble_eq_true rfl) (Nat.le_of_ble_eq_true rfl) (Nat.le_of_ble_eq_true rfl) (Nat.le_of_ble_eq_true rfl) (hm_min13 _ hhe) dX5_keepSample_22 ?_
  refine hm_put (k := 7) (fs' := [.int (nI i), .int (sKi s0), .int (sMe s0), .int (sPl s0), .ref (ad (11, i, 0)), .ref (ad (12, i, 0)), .int (nI (kpLa s0)), .int (nI (kpHe s0))]) S hE hG h_2 rfl rfl hi_X50 tyX5_ok nmX5 (by decide) hb_110 rfl rfl (by rfl) (by rfl) (Nat.le_of_ble_eq_true rfl) rfl dX5_keepSample_25 (fun H locs hG => ?_)
  obtain ⟨M_5, eM_5⟩ : ∃ z, z = hm_up M_1 (10, i, 0) (.inr (6, [.int (nI i), .int (sKi s0), .int (sMe s0), .int (sPl s0), .ref (ad (11, i, 0)), .ref (ad (12, i, 0)), .int (nI (kpLa s0)), .int (nI (kpHe s0))])) := ⟨_, rfl⟩
  rw [← eM_5] at hG
  have h_6 : M_5 (10, i, 0) = some (.inr (6, [.int (nI i), .int (sKi s0), .int (sMe s0), .int (sPl s0), .ref (ad (11, i, 0)), .ref (ad (12, i, 0)), .int (nI (kpLa s0)), .int (nI (kpHe s0))])) := by rw [eM_5]; exact hm_up_s
  have h_7 : M_5 (11, i, 0) = some (hm_ia g 6 (sPr s0)) := by rw [eM_5]; exact (hm_up_n (by simp)).trans h_3
  have h_8 : M_5 (12, i, 0) = some (hm_ra g 4 13 (rowsA ad i)) := by rw [eM_5]; exact (hm_up_n (by simp)).trans h_4
  refine lv_aload_n S.1 S.2.1 dX5_keepSample_28 rfl (lv_at hl 0 rfl) ?_
  refine hm_get (k := 4) S hE hG h_6 rfl rfl hi_X50 (by decide) hb_106 rfl rfl dX5_keepSample_29 ?_
  refine lv_iconst (v := 0) S.1 S.2.1 dX5_keepSample_32 (by decide) ?_
  refine lv_aload_n S.1 S.2.1 dX5_keepSample_33 rfl (lv_at hl 0 rfl) ?_
  refine hm_get (k := 5) S hE hG h_6 rfl rfl hi_X50 (by decide) hb_108 rfl rfl dX5_keepSample_34 ?_
  refine lv_aload_n S.1 S.2.1 dX5_keepSample_37 rfl (lv_at hl 0 rfl) ?_
  refine hm_get (k := 6) S hE hG h_6 rfl rfl hi_X50 (by decide) hb_109 rfl rfl dX5_keepSample_38 ?_
  have hkl : kpLa s0 < 13 := Nat.mod_lt _ (by decide)
  have hrw := h13 (kpLa s0) hkl
  have hr2 : M_5 (13, i, kpLa s0) = some (hm_ia g 6 (sRo s0 (kpLa s0))) := by subst_vars; simp only [hm_up_up]; exact (hm_up_n (by simp)).trans hrw
  refine hm_aldA (q := (ad (13, i, kpLa s0))) S hE hG h_8 rfl (vp_in_nI hkl (by decide)) (by rw [nI_clamp (Nat.lt_trans hkl (by decide))]; exact if_pos hkl) dX5_keepSample_41 ?_
  refine lv_iconst (v := 0) S.1 S.2.1 dX5_keepSample_42 (by decide) ?_
  refine lv_bipush (v := 6) S.1 S.2.1 dX5_keepSample_43 (by decide) ?_
  refine hm_copy S hE hG hb_411 hb_161 hb_162 hb_163 hl.1 h_7 rfl hr2 rfl (by decide) (by decide) (by decide) (by decide) (by decide) (Nat.le_of_ble_eq_true rfl) (by decide +kernel) dX5_keepSample_45 (fun H locs hG => ?_)
  obtain ⟨M_9, eM_9⟩ : ∃ z, z = hm_up M_5 (13, i, kpLa s0) (hm_ia g 6 (va_cpy (sPr s0) (sRo s0 (kpLa s0)) (0 : Int32).toNatClampNeg (0 : Int32).toNatClampNeg (6 : Int32).toNatClampNeg)) := ⟨_, rfl⟩
  rw [← eM_9] at hG
  have h_10 : M_9 (10, i, 0) = some (.inr (6, [.int (nI i), .int (sKi s0), .int (sMe s0), .int (sPl s0), .ref (ad (11, i, 0)), .ref (ad (12, i, 0)), .int (nI (kpLa s0)), .int (nI (kpHe s0))])) := by rw [eM_9]; exact (hm_up_n (by simp)).trans h_6
  have h_11 : M_9 (11, i, 0) = some (hm_ia g 6 (sPr s0)) := by rw [eM_9]; exact (hm_up_n (by simp)).trans h_7
  have h_12 : M_9 (12, i, 0) = some (hm_ra g 4 13 (rowsA ad i)) := by rw [eM_9]; exact (hm_up_n (by simp)).trans h_8
  have h_13 : M_9 (13, i, kpLa s0) = some (hm_ia g 6 (va_cpy (sPr s0) (sRo s0 (kpLa s0)) (0 : Int32).toNatClampNeg (0 : Int32).toNatClampNeg (6 : Int32).toNatClampNeg)) := by rw [eM_9]; exact hm_up_s
  exact hm_vret S hG hr hlk (⟨rfl, rfl, by subst_vars; simp only [hm_up_up]; rfl⟩) (Nat.le_of_ble_eq_true rfl) (Nat.le_of_ble_eq_true rfl) dX5_keepSample_48
