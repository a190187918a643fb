set_option maxHeartbeats 4000000 in
set_option maxRecDepth 100000 in
theorem seg_new {p : Program} {l : Launch} {e : Env} {s : State} {m : MethodId} {below : List Frame} {meth : Method} {c : Code} {b L : Nat} {xs : Nat → Int32} {g : GV} (C0 : LC p s m meth c b L xs g) {ad : AD} {M : CT}  {H : Heap} {locs : List Loc} {ls : Array Slot} (hG : hm_G g ad M s.heap H locs) (hl : lv_has ls 20 [(0, .ref b)]) (kk : ∀ (ad1 : AD) (M1 : CT) (cl1 sl1 : Nat), hasX g ad1 M1 x00 → cl1 ≤ 100 → sl1 ≤ 400 → ∀ (H : Heap) (locs : List Loc) (ls : Array Slot), hm_G g ad1 M1 s.heap H locs → lv_has ls 20 [(0, .ref b), (1, .ref (ad1 (0, 0, 0))), (2, .int (nI (1 + bwF (ceF L xs 0) 6))), (3, .int 0)] → W p l e room_1 s m #[Value.ref b] below meth c H locs cl1 sl1 (lw_Z below #[Value.ref b] s) (F0 m 23 ls [])) : W p l e room_1 s m #[Value.ref b] below meth c H locs 0 0 (lw_Z below #[Value.ref b] s) (F0 m 0 ls []) := by
  obtain ⟨S, hr, hlk, hE, hB0, hX0, hL⟩ := id C0
  refine hm_new (ci := 7) (fs := [.null, .null, .null, .null, .null, .null, .int 0, .int 0, .int 0]) S hE hG (0, 0, 0) rfl hi_X60 tyX6_ok hb_0 hb_1 hb_2 (by decide) (Nat.le_of_ble_eq_true rfl) (Nat.le_of_ble_eq_true rfl) dL_law_0 (fun q_1 H hG => ?_)
  obtain ⟨ad_2, ead_2⟩ : ∃ q9, q9 = hm_au ad (0, 0, 0) q_1 := ⟨_, rfl⟩
  obtain ⟨M_3, eM_3⟩ : ∃ q9, q9 = hm_up M (0, 0, 0) (.inr (7, [.null, .null, .null, .null, .null, .null, .int 0, .int 0, .int 0])) := ⟨_, rfl⟩
  rw [← ead_2, ← eM_3] at hG
  have h_4 : M_3 (0, 0, 0) = some (.inr (7, [.null, .null, .null, .null, .null, .null, .int 0, .int 0, .int 0])) := by rw [eM_3]; exact hm_up_s
  have a_5 : ad_2 (0, 0, 0) = q_1 := by rw [ead_2]; exact hm_au_s
  refine lv_dup S.1 S.2.1 dL_law_3 rfl ?_
  refine hm_callI (As := []) (rest := [.ref q_1]) (rm := rm_X6_init) S hE hG (c_X6_init l g ad_2 M_3 q_1 a_5 h_4) hb_9 hb_2 hb_7 hb_8 rfl hd_X6_init ⟨Nat.le_of_ble_eq_true rfl, Nat.le_of_ble_eq_true rfl⟩ rfl hl.1 rfl (Nat.le_of_ble_eq_true rfl) dL_law_4 ⟨Nat.le_of_ble_eq_true rfl, Nat.le_of_ble_eq_true rfl⟩ (fun v9 ad_8 M_7 H locs hp9 hG => ?_)
  obtain ⟨rfl, hx8, had8, hfr8⟩ := hp9
  refine hm_st (st' := [.ref q_1]) rfl ?_
  refine lv_astore_n (lv' := [(1, .ref q_1), (0, .ref b)]) S.1 S.2.1 dL_law_7 rfl hl (by decide) rfl (fun ls hl => ?_)
  refine lv_iconst (v := 1) S.1 S.2.1 dL_law_8 (by decide) ?_
  refine lv_aload_n S.1 S.2.1 dL_law_9 rfl (lv_at hl 1 rfl) ?_
  refine lv_iconst (v := 0) S.1 S.2.1 dL_law_10 (by decide) ?_
  refine hm_uSX (As := [.ref b, .int 0]) (rest := [.int 1]) (st1 := [.int (ceF L xs 0), .int 1]) S hE hG hX0 (c_L_cell l g ad_8 M_7 b L xs 0 hL (by omega)) (hm_gS hb_71 hb_72 hb_73 hb_74) hd_L_cell ⟨Nat.le_of_ble_eq_true rfl, Nat.le_of_ble_eq_true rfl⟩ rfl hl.1 rfl (Nat.le_of_ble_eq_true rfl) dL_law_11 ⟨Nat.le_of_ble_eq_true rfl, Nat.le_of_ble_eq_true rfl⟩ rfl (fun H locs hG => ?_)
  refine lv_bipush (v := 6) S.1 S.2.1 dL_law_14 (by decide) ?_
  refine hm_uS (As := [.int (ceF L xs 0), .int 6]) (rest := [.int 1]) (st1 := [.int (nI (bwF (ceF L xs 0) 6)), .int 1]) S hE hG (c_L_below l g ad_8 M_7 (ceF L xs 0) 6 (by omega) (by omega)) (hm_gS hb_76 hb_77 hb_73 hb_78) hd_L_below ⟨Nat.le_of_ble_eq_true rfl, Nat.le_of_ble_eq_true rfl⟩ rfl hl.1 rfl (Nat.le_of_ble_eq_true rfl) dL_law_16 ⟨Nat.le_of_ble_eq_true rfl, Nat.le_of_ble_eq_true rfl⟩ rfl (fun H locs hG => ?_)
  refine lv_iadd S.1 S.2.1 dL_law_19 ?_
  refine hm_top (z := nI (1 + bwF (ceF L xs 0) 6)) (nI_add 1 _) ?_
  refine lv_istore_n (lv' := [(2, .int (nI (1 + bwF (ceF L xs 0) 6))), (1, .ref q_1), (0, .ref b)]) S.1 S.2.1 dL_law_20 rfl hl (by decide) rfl (fun ls hl => ?_)
  refine lv_iconst (v := 0) S.1 S.2.1 dL_law_21 (by decide) ?_
  refine lv_istore_n (lv' := [(3, .int 0), (2, .int (nI (1 + bwF (ceF L xs 0) 6))), (1, .ref q_1), (0, .ref b)]) S.1 S.2.1 dL_law_22 rfl hl (by decide) rfl (fun ls hl => ?_)
  rw [← had8] at hl
  exact kk ad_8 M_7 _ _ hx8 (Nat.le_of_ble_eq_true rfl) (Nat.le_of_ble_eq_true rfl) _ _ _ hG (lv_sub hl [3, 2, 1, 0] rfl)

set_option maxHeartbeats 4000000 in
set_option maxRecDepth 100000 in
theorem start_all (hm : MathOK) {p : Program} {e : Env} {s : State} {m : MethodId} {below : List Frame} {meth : Method} {c : Code} (l : Launch) {b L : Nat} {xs : Nat → Int32} (hL : L ≤ 260) (C0 : lw_At p s m meth c b L xs) : W p l e room_1 s m #[Value.ref b] below meth c s.heap [] 0 0 (lw_Z below #[Value.ref b] s) (entryFrame m ([Value.ref b] : List Value).toArray 20) := by
  obtain ⟨hx, hb, hr, hml, hown, hts, hX, hbl, hlocks, hgv⟩ := id C0
  obtain ⟨g, hE, hB0⟩ := start_E hts hgv
  have S : CallFix p m c cL_law 20 s #[.ref b] hm_B RL := ⟨hx, hb, hml, hown, fun w h => hts w (hm_Bin w h)⟩
  have hX0 : hm_sc g b L xs s := ⟨hX, hbl, by show ¬ hm_b g 0 ≤ b; rw [hB0]; exact Nat.not_le.mpr hbl⟩
  have CC : LC p s m meth c b L xs g := ⟨S, hr, hlocks, hE, hB0, hX0, hL⟩
  have hG : hm_G g (fun _ => 0) (fun _ => none) s.heap s.heap [] := ⟨⟨[], fun _ => hm_ia g 0 (fun _ => 0), (fun k q h => by simp [va_pl] at h), ⟨fun i j p q h => by simp [va_pl] at h, fun k q h => by simp [va_pl] at h⟩, (fun t e h => by cases h), (fun t t' e e' h => by cases h)⟩, va_S.rf⟩
  have hl := lv_entry ([.ref b]) (n := 20) (Nat.le_of_ble_eq_true rfl)
  rw [lg_entry_eq]
  generalize (lg_sl ([.ref b]) ++ List.replicate (20 - (lg_sl ([.ref b])).length) Slot.unset).toArray = ls at hl ⊢
  have hl : lv_has ls 20 [(0, .ref b)] := hl
  refine seg_new CC hG hl (fun ad1 M1 cl1 sl1 hx hc1 hs1 H locs ls hG hl => ?_)
  refine seg_sri CC PS (fun y a b c h hn ha hb hc => PS_S y a b c h hn ha hb hc) hx PS_0 rfl rfl (1 + bwF (ceF L xs 0) 6) (by have := bwF_lt (ceF L xs 0) (n := 6) (by decide); omega) hG hl (by omega) (by omega) hc1 hs1 (fun ad2 M2 y cl2 sl2 hx hP hyS hyR hc2 hs2 H locs ls hG hl => ?_)
  rw [← hyS] at hl
  refine seg_rls CC PS (fun y a lo w wa q wt rk ab h h1 h2 h3 h4 h5 h6 h7 h8 h9 => PS_A y a lo w wa q wt rk ab h h1 h2 h3 h4 h5 h6 h7 h8 h9) hx hP hyR hG hl (by omega) (by omega) hc2 hs2 (fun ad3 M3 y3 cl3 sl3 hx hP hy3S hy3R1 hy3R4 hc3 hs3 H locs ls hG hl => ?_)
  refine seg_grp CC PS (fun y gr rp h h1 h2 h3 => PS_G y gr rp h h1 h2 h3) hx hP hP.1 hG hl (by omega) (by omega) (fun M4 y4 hx hP hy4S hy4R H locs ls hG hl => ?_)
  exact law_loop CC hm 14 0 0 ad3 M4 y4 cl3 sl3 rfl hx (PS_IV hP (by rw [hy4S, hy3S, hyS]; omega) (by rw [hy4R]; exact hy3R1)) (by rw [hP.2.2.2.2.1]; omega) (by omega) (by omega) (by omega) _ _ _ hG hl
