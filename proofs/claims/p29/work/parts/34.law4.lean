theorem li_in {q : Nat} (h : q < 500) : ¬ nI q - 50 < -10000 ∧ ¬ 10000 < nI q - 50 := by
  have h1 : (nI q - nI 50).toInt = (q : Int) - 50 := pk_sub_toInt (by omega) (by omega)
  have h2 : (nI q - 50).toInt = (q : Int) - 50 := h1
  have h3 : ((-10000 : Int32)).toInt = -10000 := by decide
  have h4 : ((10000 : Int32)).toInt = 10000 := by decide
  rw [Int32.lt_iff_toInt_lt, Int32.lt_iff_toInt_lt, h2, h3, h4]
  omega

set_option maxHeartbeats 4000000 in
set_option maxRecDepth 100000 in
theorem seg_sri {p : Program} {l : Launch} {e : Env} {s : State} {m : MethodId} {below : List Frame} {meth : Method} {c : Code} {b L : Nat} {xs : Nat → Int32} {g : GV} (C0 : LC p s m meth c b L xs g) {ad : AD} {M : CT} (P : XD → Prop) (pS : ∀ y (a b c : Nat), P y → xS y < 6 → a < 3 → b < 2 → c < 3 → P (addS y (nI a, nI b, nI c, fun _ => 0, fun _ _ => 0, 0, 0))) {x : XD} (hx : hasX g ad M x) (hP : P x) (hxS : xS x = 0) (hxR : xR x = 0) (n0 : Nat) (hn0 : n0 ≤ 6) {H : Heap} {locs : List Loc} {ls : Array Slot} {cl sl : Nat} (hG : hm_G g ad M s.heap H locs) (hl : lv_has ls 20 [(0, .ref b), (1, .ref (ad (0, 0, 0))), (2, .int (nI n0)), (3, .int 0)]) (hcl : cl ≤ 3000) (hsl : sl ≤ 30000) (hc0 : cl ≤ 100) (hs0 : sl ≤ 400) (kk : ∀ (ad1 : AD) (M1 : CT) (y : XD) (cl1 sl1 : Nat), hasX g ad1 M1 y → P y → xS y = n0 → xR y = 0 → cl1 ≤ 300 → sl1 ≤ 1200 → ∀ (H : Heap) (locs : List Loc) (ls : Array Slot), hm_G g ad1 M1 s.heap H locs → lv_has ls 20 [(0, .ref b), (1, .ref (ad1 (0, 0, 0))), (2, .int (nI n0))] → W p l e room_1 s m #[Value.ref b] below meth c H locs cl1 sl1 (lw_Z below #[Value.ref b] s) (F0 m 81 ls [])) : W p l e room_1 s m #[Value.ref b] below meth c H locs cl sl (lw_Z below #[Value.ref b] s) (F0 m 23 ls []) := by
  obtain ⟨S, hr, hlk, hE, hB0, hX0, hL⟩ := id C0
  have L23_0 : ∀ (n : Nat) (k : Nat) (ad : AD) (M : CT) (x : XD) (cl : Nat) (sl : Nat), (n + k = n0 ∧ hasX g ad M x ∧ P x ∧ xS x = k ∧ xR x = 0 ∧ cl ≤ 100 + 17 * k ∧ sl ≤ 400 + 115 * k) → ∀ (H : Heap) (locs : List Loc) (ls : Array Slot), hm_G g ad M s.heap H locs → lv_has ls 20 [(0, .ref b), (1, .ref (ad (0, 0, 0))), (2, .int (nI n0)), (3, .int (nI k))] → W p l e room_1 s m #[Value.ref b] below meth c H locs cl sl (lw_Z below #[Value.ref b] s) (F0 m 23 ls []) := by
    intro n
    induction n with
    | zero =>
      intro k ad M x cl sl hh H locs ls hG hl
      obtain ⟨hk0, hx, hP, hxS, hxR, hc0, hs0⟩ := id hh
      have hcl : cl ≤ 3000 := by omega
      have hsl : sl ≤ 30000 := by omega
      obtain ⟨hX, hLs, hLr, hLh, h7, hLg, h70, hSe, hRu, hHu, hGr, hS6, hR6, hH5⟩ := id hx
      obtain ⟨fs1, hb1⟩ := hLs.ob
      obtain ⟨fs2, hb2⟩ := hLr.ob
      obtain ⟨fs3, hb3⟩ := hLh.ob
      have e7 : k = n0 := by omega
      subst e7
      refine lv_iload_n S.1 S.2.1 dL_law_23 rfl (lv_at hl 3 rfl) ?_
      refine lv_iload_n S.1 S.2.1 dL_law_24 rfl (lv_at hl 2 rfl) ?_
      refine lv_icmp_ge (tgt := 81) S.1 S.2.1 dL_law_25 (by decide) (fun _ => ?_) (fun h9 => absurd (nI_le (Nat.le_refl _) (by omega)) h9)
      exact kk ad M x _ _ hx hP hxS hxR (show cl ≤ 300 by omega) (show sl ≤ 1200 by omega) _ _ _ hG (lv_sub hl [0, 1, 2] rfl)
    | succ n ih23 =>
      intro k ad M x cl sl hh H locs ls hG hl
      obtain ⟨hk0, hx, hP, hxS, hxR, hc0, hs0⟩ := id hh
      have hcl : cl ≤ 3000 := by omega
      have hsl : sl ≤ 30000 := by omega
      obtain ⟨hX, hLs, hLr, hLh, h7, hLg, h70, hSe, hRu, hHu, hGr, hS6, hR6, hH5⟩ := id hx
      obtain ⟨fs1, hb1⟩ := hLs.ob
      obtain ⟨fs2, hb2⟩ := hLr.ob
      obtain ⟨fs3, hb3⟩ := hLh.ob
      have hkn : k < n0 := by omega
      refine lv_iload_n S.1 S.2.1 dL_law_23 rfl (lv_at hl 3 rfl) ?_
      refine lv_iload_n S.1 S.2.1 dL_law_24 rfl (lv_at hl 2 rfl) ?_
      refine lv_icmp_ge (tgt := 81) S.1 S.2.1 dL_law_25 (by decide) (fun h9 => absurd h9 (nI_ge hkn (by omega))) (fun _ => ?_)
      refine lv_aload_n S.1 S.2.1 dL_law_28 rfl (lv_at hl 1 rfl) ?_
      refine lv_aload_n S.1 S.2.1 dL_law_29 rfl (lv_at hl 0 rfl) ?_
      refine lv_iconst (v := 1) S.1 S.2.1 dL_law_30 (by decide) ?_
      refine lv_iload_n S.1 S.2.1 dL_law_31 rfl (lv_at hl 3 rfl) ?_
      refine lv_iadd S.1 S.2.1 dL_law_32 ?_
      refine hm_top (z := nI (1 + k)) (nI_add 1 k) ?_
      refine hm_uSX (As := [.ref b, .int (nI (1 + k))]) (rest := [.ref (ad (0, 0, 0))]) (st1 := [.int (ceF L xs (1 + k)), .ref (ad (0, 0, 0))]) S hE hG hX0 (c_L_cell l g ad M b L xs (1 + k) hL (by omega)) (hm_gS hb_71 hb_72 hb_73 hb_74) hd_L_cell ⟨Nat.le_of_ble_eq_true rfl, Nat.le_of_ble_eq_true rfl⟩ rfl hl.1 rfl (Nat.le_of_ble_eq_true rfl) dL_law_33 ⟨(Nat.le_trans (m := 3000) hcl (Nat.le_of_ble_eq_true rfl)), (Nat.le_trans (m := 30000) hsl (Nat.le_of_ble_eq_true rfl))⟩ rfl (fun H locs hG => ?_)
      refine lv_iconst (v := 3) S.1 S.2.1 dL_law_36 (by decide) ?_
      refine hm_uS (As := [.int (ceF L xs (1 + k)), .int 3]) (rest := [.ref (ad (0, 0, 0))]) (st1 := [.int (nI (bwF (ceF L xs (1 + k)) 3)), .ref (ad (0, 0, 0))]) S hE hG (c_L_below l g ad M (ceF L xs (1 + k)) 3 (by omega) (by omega)) (hm_gS hb_76 hb_77 hb_73 hb_78) hd_L_below ⟨Nat.le_of_ble_eq_true rfl, Nat.le_of_ble_eq_true rfl⟩ rfl hl.1 rfl (Nat.le_of_ble_eq_true rfl) dL_law_37 ⟨(Nat.le_trans (m := 3000) hcl (Nat.le_of_ble_eq_true rfl)), (Nat.le_trans (m := 30000) hsl (Nat.le_of_ble_eq_true rfl))⟩ rfl (fun H locs hG => ?_)
      refine lv_aload_n S.1 S.2.1 dL_law_40 rfl (lv_at hl 0 rfl) ?_
      refine lv_iconst (v := 1) S.1 S.2.1 dL_law_41 (by decide) ?_
      refine lv_iload_n S.1 S.2.1 dL_law_42 rfl (lv_at hl 3 rfl) ?_
      refine lv_iadd S.1 S.2.1 dL_law_43 ?_
      refine hm_top (z := nI (1 + k)) (nI_add 1 k) ?_
      refine hm_uSX (As := [.ref b, .int (nI (1 + k))]) (rest := [.int (nI (bwF (ceF L xs (1 + k)) 3)), .ref (ad (0, 0, 0))]) (st1 := [.int (ceF L xs (1 + k)), .int (nI (bwF (ceF L xs (1 + k)) 3)), .ref (ad (0, 0, 0))]) S hE hG hX0 (c_L_cell l g ad M b L xs (1 + k) hL (by omega)) (hm_gS hb_71 hb_72 hb_73 hb_74) hd_L_cell ⟨Nat.le_of_ble_eq_true rfl, Nat.le_of_ble_eq_true rfl⟩ rfl hl.1 rfl (Nat.le_of_ble_eq_true rfl) dL_law_44 ⟨(Nat.le_trans (m := 3000) hcl (Nat.le_of_ble_eq_true rfl)), (Nat.le_trans (m := 30000) hsl (Nat.le_of_ble_eq_true rfl))⟩ rfl (fun H locs hG => ?_)
      refine lv_iconst (v := 2) S.1 S.2.1 dL_law_47 (by decide) ?_
      refine lv_ishr S.1 S.2.1 dL_law_48 ?_
      refine lv_iconst (v := 2) S.1 S.2.1 dL_law_49 (by decide) ?_
      refine hm_uS (As := [.int ((ceF L xs (1 + k)) >>> (2 &&& 31)), .int 2]) (rest := [.int (nI (bwF (ceF L xs (1 + k)) 3)), .ref (ad (0, 0, 0))]) (st1 := [.int (nI (bwF ((ceF L xs (1 + k)) >>> (2 &&& 31)) 2)), .int (nI (bwF (ceF L xs (1 + k)) 3)), .ref (ad (0, 0, 0))]) S hE hG (c_L_below l g ad M ((ceF L xs (1 + k)) >>> (2 &&& 31)) 2 (by omega) (by omega)) (hm_gS hb_76 hb_77 hb_73 hb_78) hd_L_below ⟨Nat.le_of_ble_eq_true rfl, Nat.le_of_ble_eq_true rfl⟩ rfl hl.1 rfl (Nat.le_of_ble_eq_true rfl) dL_law_50 ⟨(Nat.le_trans (m := 3000) hcl (Nat.le_of_ble_eq_true rfl)), (Nat.le_trans (m := 30000) hsl (Nat.le_of_ble_eq_true rfl))⟩ rfl (fun H locs hG => ?_)
      refine lv_aload_n S.1 S.2.1 dL_law_53 rfl (lv_at hl 0 rfl) ?_
      refine lv_iconst (v := 1) S.1 S.2.1 dL_law_54 (by decide) ?_
      refine lv_iload_n S.1 S.2.1 dL_law_55 rfl (lv_at hl 3 rfl) ?_
      refine lv_iadd S.1 S.2.1 dL_law_56 ?_
      refine hm_top (z := nI (1 + k)) (nI_add 1 k) ?_
      refine hm_uSX (As := [.ref b, .int (nI (1 + k))]) (rest := [.int (nI (bwF ((ceF L xs (1 + k)) >>> (2 &&& 31)) 2)), .int (nI (bwF (ceF L xs (1 + k)) 3)), .ref (ad (0, 0, 0))]) (st1 := [.int (ceF L xs (1 + k)), .int (nI (bwF ((ceF L xs (1 + k)) >>> (2 &&& 31)) 2)), .int (nI (bwF (ceF L xs (1 + k)) 3)), .ref (ad (0, 0, 0))]) S hE hG hX0 (c_L_cell l g ad M b L xs (1 + k) hL (by omega)) (hm_gS hb_71 hb_72 hb_73 hb_74) hd_L_cell ⟨Nat.le_of_ble_eq_true rfl, Nat.le_of_ble_eq_true rfl⟩ rfl hl.1 rfl (Nat.le_of_ble_eq_true rfl) dL_law_57 ⟨(Nat.le_trans (m := 3000) hcl (Nat.le_of_ble_eq_true rfl)), (Nat.le_trans (m := 30000) hsl (Nat.le_of_ble_eq_true rfl))⟩ rfl (fun H locs hG => ?_)
      refine lv_iconst (v := 3) S.1 S.2.1 dL_law_60 (by decide) ?_
      refine lv_ishr S.1 S.2.1 dL_law_61 ?_
      refine lv_iconst (v := 3) S.1 S.2.1 dL_law_62 (by decide) ?_
      refine hm_uS (As := [.int ((ceF L xs (1 + k)) >>> (3 &&& 31)), .int 3]) (rest := [.int (nI (bwF ((ceF L xs (1 + k)) >>> (2 &&& 31)) 2)), .int (nI (bwF (ceF L xs (1 + k)) 3)), .ref (ad (0, 0, 0))]) (st1 := [.int (nI (bwF ((ceF L xs (1 + k)) >>> (3 &&& 31)) 3)), .int (nI (bwF ((ceF L xs (1 + k)) >>> (2 &&& 31)) 2)), .int (nI (bwF (ceF L xs (1 + k)) 3)), .ref (ad (0, 0, 0))]) S hE hG (c_L_below l g ad M ((ceF L xs (1 + k)) >>> (3 &&& 31)) 3 (by omega) (by omega)) (hm_gS hb_76 hb_77 hb_73 hb_78) hd_L_below ⟨Nat.le_of_ble_eq_true rfl, Nat.le_of_ble_eq_true rfl⟩ rfl hl.1 rfl (Nat.le_of_ble_eq_true rfl) dL_law_63 ⟨(Nat.le_trans (m := 3000) hcl (Nat.le_of_ble_eq_true rfl)), (Nat.le_trans (m := 30000) hsl (Nat.le_of_ble_eq_true rfl))⟩ rfl (fun H locs hG => ?_)
      have ha9 : (bwF (ceF L xs (1 + k)) 3) < 3 := bwF_lt _ (by decide)
      have hb9 : (bwF ((ceF L xs (1 + k)) >>> (2 &&& 31)) 2) < 2 := bwF_lt _ (by decide)
      have hc9 : (bwF ((ceF L xs (1 + k)) >>> (3 &&& 31)) 3) < 3 := bwF_lt _ (by decide)
      refine hm_callV (As := [.int (nI (bwF (ceF L xs (1 + k)) 3)), .int (nI (bwF ((ceF L xs (1 + k)) >>> (2 &&& 31)) 2)), .int (nI (bwF ((ceF L xs (1 + k)) >>> (3 &&& 31)) 3))]) (rest := []) (rm := rm_X6_series) S hE hG (c_X6_series l g ad M x hx (by omega) (nI (bwF (ceF L xs (1 + k)) 3)) (nI (bwF ((ceF L xs (1 + k)) >>> (2 &&& 31)) 2)) (nI (bwF ((ceF L xs (1 + k)) >>> (3 &&& 31)) 3)) (nI_nlt (b := 0) (Nat.zero_le _) (by omega)) (nI_nlt (a := 2) (b := (bwF (ceF L xs (1 + k)) 3)) (by omega) (by decide)) (nI_nlt (b := 0) (Nat.zero_le _) (by omega)) (nI_nlt (a := 5) (b := (bwF ((ceF L xs (1 + k)) >>> (2 &&& 31)) 2)) (by omega) (by decide)) (nI_nlt (b := 0) (Nat.zero_le _) (by omega)) (nI_nlt (a := 5) (b := (bwF ((ceF L xs (1 + k)) >>> (3 &&& 31)) 3)) (by omega) (by decide))) (hm_gV hb_80 hb_81 hb_82 hb_2 hb_83) ⟨rfl, hd_X6_series⟩ hX rfl rfl ⟨Nat.le_of_ble_eq_true rfl, Nat.le_of_ble_eq_true rfl⟩ rfl hl.1 rfl (Nat.le_of_ble_eq_true rfl) dL_law_66 ⟨(Nat.le_trans (m := 3017) (Nat.add_le_add_right hcl 17) (Nat.le_of_ble_eq_true rfl)), (Nat.le_trans (m := 30115) (Nat.add_le_add_right hsl 115) (Nat.le_of_ble_eq_true rfl))⟩ (fun v9 ad_3 M_2 H locs hp9 hG => ?_)
      obtain ⟨rfl, hx8, had8, hfr8⟩ := hp9
      refine hm_st (st' := [.int (nI (xS x))]) rfl ?_
      rw [← had8] at hl
      refine lv_iload_n S.1 S.2.1 dL_law_69 rfl (lv_at hl 3 rfl) ?_
      refine lv_icmp_eq (tgt := 75) S.1 S.2.1 dL_law_70 (by decide) (fun _ => ?_) (fun h9 => absurd (by rw [hxS]) h9)
      refine lv_iinc (v := nI (k + 1)) (lv' := [(3, .int (nI (k + 1))), (0, .ref b), (1, .ref (ad_3 (0, 0, 0))), (2, .int (nI n0))]) S.1 S.2.1 dL_law_75 hl (k := 3) rfl (nI_1 k) (by decide) rfl (fun ls hl => ?_)
      refine lv_goto (tgt := 23) S.1 S.2.1 dL_law_78 (by decide) ?_
      exact ih23 (k + 1) ad_3 M_2 _ (cl + 17) (sl + 115) ⟨by omega, hx8, pS x _ _ _ hP (by omega) ha9 hb9 hc9, by show xS x + 1 = k + 1; omega, hxR, by omega, by omega⟩ _ _ _ hG (lv_sub hl [1, 2, 3, 0] rfl)
  exact L23_0 n0 0 ad M x cl sl ⟨rfl, hx, hP, hxS, hxR, by omega, by omega⟩ _ _ _ hG (lv_sub hl [0, 1, 2, 3] rfl)

set_option maxHeartbeats 4000000 in
set_option maxRecDepth 100000 in
theorem seg_rls {p : Program} {l : Launch} {e : Env} {s : State} {m : MethodId} {below : List Frame} {meth : Method} {c : Code} {b L : Nat} {xs : Nat → Int32} {g : GV} (C0 : LC p s m meth c b L xs g) {ad : AD} {M : CT} (P : XD → Prop) (pA : ∀ y (a lo w wa q wt rk : Nat) (ab : Bool), P y → xR y < 4 → a < 2 → lo < 9 → 1 ≤ w → w ≤ 12 → wa < 3 → q < 500 → wt < 4 → rk < 4 → P (setRu (addR y (nI a, lo, w, wa, ab, nI q - 50, 0, 0)) (xR y) (wLi (xRu (addR y (nI a, lo, w, wa, ab, nI q - 50, 0, 0)) (xR y)) (nI q - 50) (nI wt) (nI rk)))) {x : XD} (hx : hasX g ad M x) (hP : P x) (hxR : xR x = 0) {H : Heap} {locs : List Loc} {ls : Array Slot} {cl sl : Nat} (hG : hm_G g ad M s.heap H locs) (hl : lv_has ls 20 [(0, .ref b), (1, .ref (ad (0, 0, 0))), (2, .int (nI (xS x)))]) (hcl : cl ≤ 3000) (hsl : sl ≤ 30000) (hc0 : cl ≤ 300) (hs0 : sl ≤ 1200) (kk : ∀ (ad1 : AD) (M1 : CT) (y : XD) (cl1 sl1 : Nat), hasX g ad1 M1 y → P y → xS y = xS x → 1 ≤ xR y → xR y ≤ 4 → cl1 ≤ 400 → sl1 ≤ 1600 → ∀ (H : Heap) (locs : List Loc) (ls : Array Slot), hm_G g ad1 M1 s.heap H locs → lv_has ls 20 [(0, .ref b), (1, .ref (ad1 (0, 0, 0))), (2, .int (nI (xS y))), (3, .int (nI (xR y)))] → W p l e room_1 s m #[Value.ref b] below meth c H locs cl1 sl1 (lw_Z below #[Value.ref b] s) (F0 m 232 ls [])) : W p l e room_1 s m #[Value.ref b] below meth c H locs cl sl (lw_Z below #[Value.ref b] s) (F0 m 81 ls []) := by
  obtain ⟨S, hr, hlk, hE, hB0, hX0, hL⟩ := id C0
  obtain ⟨hX, hLs, hLr, hLh, h7, hLg, h70, hSe, hRu, hHu, hGr, hS6, hR6, hH5⟩ := id hx
  obtain ⟨fs1, hb1⟩ := hLs.ob
  obtain ⟨fs2, hb2⟩ := hLr.ob
  obtain ⟨fs3, hb3⟩ := hLh.ob
  refine lv_iconst (v := 1) S.1 S.2.1 dL_law_81 (by decide) ?_
  refine lv_aload_n S.1 S.2.1 dL_law_82 rfl (lv_at hl 0 rfl) ?_
  refine lv_bipush (v := 7) S.1 S.2.1 dL_law_83 (by decide) ?_
  refine hm_uSX (As := [.ref b, .int 7]) (rest := [.int 1]) (st1 := [.int (ceF L xs 7), .int 1]) S hE hG hX0 (c_L_cell l g ad M b L xs 7 hL (by omega)) (hm_gS hb_71 hb_72 hb_73 hb_74) hd_L_cell ⟨Nat.le_of_ble_eq_true rfl, Nat.le_of_ble_eq_true rfl⟩ rfl hl.1 rfl (Nat.le_of_ble_eq_true rfl) dL_law_85 ⟨(Nat.le_trans (m := 3000) hcl (Nat.le_of_ble_eq_true rfl)), (Nat.le_trans (m := 30000) hsl (Nat.le_of_ble_eq_true rfl))⟩ rfl (fun H locs hG => ?_)
  refine lv_iconst (v := 4) S.1 S.2.1 dL_law_88 (by decide) ?_
  refine hm_uS (As := [.int (ceF L xs 7), .int 4]) (rest := [.int 1]) (st1 := [.int (nI (bwF (ceF L xs 7) 4)), .int 1]) S hE hG (c_L_below l g ad M (ceF L xs 7) 4 (by omega) (by omega)) (hm_gS hb_76 hb_77 hb_73 hb_78) hd_L_below ⟨Nat.le_of_ble_eq_true rfl, Nat.le_of_ble_eq_true rfl⟩ rfl hl.1 rfl (Nat.le_of_ble_eq_true rfl) dL_law_89 ⟨(Nat.le_trans (m := 3000) hcl (Nat.le_of_ble_eq_true rfl)), (Nat.le_trans (m := 30000) hsl (Nat.le_of_ble_eq_true rfl))⟩ rfl (fun H locs hG => ?_)
  obtain ⟨n0, en0⟩ : ∃ q9, q9 = 1 + (bwF (ceF L xs 7) 4) := ⟨_, rfl⟩
  have hn0 : n0 ≤ 4 := by rw [en0]; have := bwF_lt (ceF L xs 7) (n := 4) (by decide); omega
  have hn1 : 1 ≤ n0 := by rw [en0]; omega
  obtain ⟨nS, enS⟩ : ∃ q9, q9 = xS x := ⟨_, rfl⟩
  rw [← enS] at hl kk
  refine lv_iadd S.1 S.2.1 dL_law_92 ?_
  refine hm_top (z := nI n0) (by rw [en0]; exact nI_add 1 _) ?_
  refine lv_istore_n (lv' := [(3, .int (nI n0)), (0, .ref b), (1, .ref (ad (0, 0, 0))), (2, .int (nI (nS)))]) S.1 S.2.1 dL_law_93 rfl hl (by decide) rfl (fun ls hl => ?_)
  refine lv_iconst (v := 0) S.1 S.2.1 dL_law_94 (by decide) ?_
  refine lv_istore (lv' := [(4, .int 0), (3, .int (nI n0)), (0, .ref b), (1, .ref (ad (0, 0, 0))), (2, .int (nI (nS)))]) S.1 S.2.1 dL_law_95 hl (by decide) rfl (fun ls hl => ?_)
  have L97_0 : ∀ (n : Nat) (k : Nat) (ad : AD) (M : CT) (x : XD) (cl : Nat) (sl : Nat), (n + k = n0 ∧ hasX g ad M x ∧ P x ∧ xR x = k ∧ xS x = nS ∧ cl ≤ 300 + 15 * k ∧ sl ≤ 1200 + 68 * k) → ∀ (H : Heap) (locs : List Loc) (ls : Array Slot), hm_G g ad M s.heap H locs → lv_has ls 20 [(0, .ref b), (1, .ref (ad (0, 0, 0))), (2, .int (nI nS)), (3, .int (nI n0)), (4, .int (nI k))] → W p l e room_1 s m #[Value.ref b] below meth c H locs cl sl (lw_Z below #[Value.ref b] s) (F0 m 97 ls []) := by
    intro n
    induction n with
    | zero =>
      intro k ad M x cl sl hh H locs ls hG hl
      obtain ⟨hk0, hx, hP, hxR, hxS, hc0, hs0⟩ := id hh
      have hcl : cl ≤ 3000 := by omega
      have hsl : sl ≤ 30000 := by omega
      obtain ⟨hX, hLs, hLr, hLh, h7, hLg, h70, hSe, hRu, hHu, hGr, hS6, hR6, hH5⟩ := id hx
      obtain ⟨fs1, hb1⟩ := hLs.ob
      obtain ⟨fs2, hb2⟩ := hLr.ob
      obtain ⟨fs3, hb3⟩ := hLh.ob
      have e7 : k = n0 := by omega
      subst e7
      refine lv_iload S.1 S.2.1 dL_law_97 (lv_at hl 4 rfl) ?_
      refine lv_iload_n S.1 S.2.1 dL_law_99 rfl (lv_at hl 3 rfl) ?_
      refine lv_icmp_ge (tgt := 232) S.1 S.2.1 dL_law_100 (by decide) (fun _ => ?_) (fun h9 => absurd (nI_le (Nat.le_refl _) (by omega)) h9)
      rw [← hxS] at hl
      exact kk ad M x _ _ hx hP hxS (by omega) (by omega) (show cl ≤ 400 by omega) (show sl ≤ 1600 by omega) _ _ _ hG (by rw [hxR]; exact lv_sub hl [0, 1, 2, 3] rfl)
    | succ n ih97 =>
      intro k ad M x cl sl hh H locs ls hG hl
      obtain ⟨hk0, hx, hP, hxR, hxS, hc0, hs0⟩ := id hh
      have hcl : cl ≤ 3000 := by omega
      have hsl : sl ≤ 30000 := by omega
      obtain ⟨hX, hLs, hLr, hLh, h7, hLg, h70, hSe, hRu, hHu, hGr, hS6, hR6, hH5⟩ := id hx
      obtain ⟨fs1, hb1⟩ := hLs.ob
      obtain ⟨fs2, hb2⟩ := hLr.ob
      obtain ⟨fs3, hb3⟩ := hLh.ob
      have hkn : k < n0 := by omega
      refine lv_iload S.1 S.2.1 dL_law_97 (lv_at hl 4 rfl) ?_
      refine lv_iload_n S.1 S.2.1 dL_law_99 rfl (lv_at hl 3 rfl) ?_
      refine lv_icmp_ge (tgt := 232) S.1 S.2.1 dL_law_100 (by decide) (fun h9 => absurd h9 (nI_ge hkn (by omega))) (fun _ => ?_)
      refine lv_aload_n S.1 S.2.1 dL_law_103 rfl (lv_at hl 0 rfl) ?_
      refine lv_bipush (v := 8) S.1 S.2.1 dL_law_104 (by decide) ?_
      refine lv_iload S.1 S.2.1 dL_law_106 (lv_at hl 4 rfl) ?_
      refine lv_iadd S.1 S.2.1 dL_law_108 ?_
      refine hm_top (z := nI (8 + k)) (nI_add 8 k) ?_
      refine hm_uSX (As := [.ref b, .int (nI (8 + k))]) (rest := []) (st1 := [.int (ceF L xs (8 + k))]) S hE hG hX0 (c_L_cell l g ad M b L xs (8 + k) hL (by omega)) (hm_gS hb_71 hb_72 hb_73 hb_74) hd_L_cell ⟨Nat.le_of_ble_eq_true rfl, Nat.le_of_ble_eq_true rfl⟩ rfl hl.1 rfl (Nat.le_of_ble_eq_true rfl) dL_law_109 ⟨(Nat.le_trans (m := 3000) hcl (Nat.le_of_ble_eq_true rfl)), (Nat.le_trans (m := 30000) hsl (Nat.le_of_ble_eq_true rfl))⟩ rfl (fun H locs hG => ?_)
      obtain ⟨v5, e5⟩ : ∃ q9, q9 = (ceF L xs (8 + k)) := ⟨_, rfl⟩
      refine hm_top (z := v5) e5.symm ?_
      refine lv_istore (lv' := [(5, .int v5), (0, .ref b), (1, .ref (ad (0, 0, 0))), (2, .int (nI nS)), (3, .int (nI n0)), (4, .int (nI k))]) S.1 S.2.1 dL_law_112 hl (by decide) rfl (fun ls hl => ?_)
      refine lv_aload_n S.1 S.2.1 dL_law_114 rfl (lv_at hl 2 rfl) ?_
      refine lv_iload S.1 S.2.1 dL_law_115 (lv_at hl 0 rfl) ?_
      refine lv_iconst (v := 2) S.1 S.2.1 dL_law_117 (by decide) ?_
      refine hm_uS (As := [.int v5, .int 2]) (rest := [.ref (ad (0, 0, 0))]) (st1 := [.int (nI (bwF v5 2)), .ref (ad (0, 0, 0))]) S hE hG (c_L_below l g ad M v5 2 (by omega) (by omega)) (hm_gS hb_76 hb_77 hb_73 hb_78) hd_L_below ⟨Nat.le_of_ble_eq_true rfl, Nat.le_of_ble_eq_true rfl⟩ rfl hl.1 rfl (Nat.le_of_ble_eq_true rfl) dL_law_118 ⟨(Nat.le_trans (m := 3000) hcl (Nat.le_of_ble_eq_true rfl)), (Nat.le_trans (m := 30000) hsl (Nat.le_of_ble_eq_true rfl))⟩ rfl (fun H locs hG => ?_)
      refine lv_iload S.1 S.2.1 dL_law_121 (lv_at hl 0 rfl) ?_
      refine lv_iconst (v := 1) S.1 S.2.1 dL_law_123 (by decide) ?_
      refine lv_ishr S.1 S.2.1 dL_law_124 ?_
      refine lv_bipush (v := 9) S.1 S.2.1 dL_law_125 (by decide) ?_
      refine hm_uS (As := [.int (v5 >>> (1 &&& 31)), .int 9]) (rest := [.int (nI (bwF v5 2)), .ref (ad (0, 0, 0))]) (st1 := [.int (nI (bwF (v5 >>> (1 &&& 31)) 9)), .int (nI (bwF v5 2)), .ref (ad (0, 0, 0))]) S hE hG (c_L_below l g ad M (v5 >>> (1 &&& 31)) 9 (by omega) (by omega)) (hm_gS hb_76 hb_77 hb_73 hb_78) hd_L_below ⟨Nat.le_of_ble_eq_true rfl, Nat.le_of_ble_eq_true rfl⟩ rfl hl.1 rfl (Nat.le_of_ble_eq_true rfl) dL_law_127 ⟨(Nat.le_trans (m := 3000) hcl (Nat.le_of_ble_eq_true rfl)), (Nat.le_trans (m := 30000) hsl (Nat.le_of_ble_eq_true rfl))⟩ rfl (fun H locs hG => ?_)
      refine lv_iconst (v := 1) S.1 S.2.1 dL_law_130 (by decide) ?_
      refine lv_iload S.1 S.2.1 dL_law_131 (lv_at hl 0 rfl) ?_
      refine lv_iconst (v := 2) S.1 S.2.1 dL_law_133 (by decide) ?_
      refine lv_ishr S.1 S.2.1 dL_law_134 ?_
      refine lv_bipush (v := 12) S.1 S.2.1 dL_law_135 (by decide) ?_
      refine hm_uS (As := [.int (v5 >>> (2 &&& 31)), .int 12]) (rest := [.int 1, .int (nI (bwF (v5 >>> (1 &&& 31)) 9)), .int (nI (bwF v5 2)), .ref (ad (0, 0, 0))]) (st1 := [.int (nI (bwF (v5 >>> (2 &&& 31)) 12)), .int 1, .int (nI (bwF (v5 >>> (1 &&& 31)) 9)), .int (nI (bwF v5 2)), .ref (ad (0, 0, 0))]) S hE hG (c_L_below l g ad M (v5 >>> (2 &&& 31)) 12 (by omega) (by omega)) (hm_gS hb_76 hb_77 hb_73 hb_78) hd_L_below ⟨Nat.le_of_ble_eq_true rfl, Nat.le_of_ble_eq_true rfl⟩ rfl hl.1 rfl (Nat.le_of_ble_eq_true rfl) dL_law_137 ⟨(Nat.le_trans (m := 3000) hcl (Nat.le_of_ble_eq_true rfl)), (Nat.le_trans (m := 30000) hsl (Nat.le_of_ble_eq_true rfl))⟩ rfl (fun H locs hG => ?_)
      refine lv_iadd S.1 S.2.1 dL_law_140 ?_
      refine hm_top (z := nI (1 + (bwF (v5 >>> (2 &&& 31)) 12))) (nI_add 1 _) ?_
      refine lv_iload S.1 S.2.1 dL_law_141 (lv_at hl 0 rfl) ?_
      refine lv_iconst (v := 4) S.1 S.2.1 dL_law_143 (by decide) ?_
      refine lv_ishr S.1 S.2.1 dL_law_144 ?_
      refine lv_iconst (v := 3) S.1 S.2.1 dL_law_145 (by decide) ?_
      refine hm_uS (As := [.int (v5 >>> (4 &&& 31)), .int 3]) (rest := [.int (nI (1 + (bwF (v5 >>> (2 &&& 31)) 12))), .int (nI (bwF (v5 >>> (1 &&& 31)) 9)), .int (nI (bwF v5 2)), .ref (ad (0, 0, 0))]) (st1 := [.int (nI (bwF (v5 >>> (4 &&& 31)) 3)), .int (nI (1 + (bwF (v5 >>> (2 &&& 31)) 12))), .int (nI (bwF (v5 >>> (1 &&& 31)) 9)), .int (nI (bwF v5 2)), .ref (ad (0, 0, 0))]) S hE hG (c_L_below l g ad M (v5 >>> (4 &&& 31)) 3 (by omega) (by omega)) (hm_gS hb_76 hb_77 hb_73 hb_78) hd_L_below ⟨Nat.le_of_ble_eq_true rfl, Nat.le_of_ble_eq_true rfl⟩ rfl hl.1 rfl (Nat.le_of_ble_eq_true rfl) dL_law_146 ⟨(Nat.le_trans (m := 3000) hcl (Nat.le_of_ble_eq_true rfl)), (Nat.le_trans (m := 30000) hsl (Nat.le_of_ble_eq_true rfl))⟩ rfl (fun H locs hG => ?_)
      refine lv_iload S.1 S.2.1 dL_law_149 (lv_at hl 0 rfl) ?_
      refine lv_iconst (v := 5) S.1 S.2.1 dL_law_151 (by decide) ?_
      refine lv_ishr S.1 S.2.1 dL_law_152 ?_
      refine lv_sipush (v := 500) S.1 S.2.1 dL_law_153 (by decide) ?_
      refine hm_uS (As := [.int (v5 >>> (5 &&& 31)), .int 500]) (rest := [.int (nI (bwF (v5 >>> (4 &&& 31)) 3)), .int (nI (1 + (bwF (v5 >>> (2 &&& 31)) 12))), .int (nI (bwF (v5 >>> (1 &&& 31)) 9)), .int (nI (bwF v5 2)), .ref (ad (0, 0, 0))]) (st1 := [.int (nI (bwF (v5 >>> (5 &&& 31)) 500)), .int (nI (bwF (v5 >>> (4 &&& 31)) 3)), .int (nI (1 + (bwF (v5 >>> (2 &&& 31)) 12))), .int (nI (bwF (v5 >>> (1 &&& 31)) 9)), .int (nI (bwF v5 2)), .ref (ad (0, 0, 0))]) S hE hG (c_L_below l g ad M (v5 >>> (5 &&& 31)) 500 (by omega) (by omega)) (hm_gS hb_76 hb_77 hb_73 hb_78) hd_L_below ⟨Nat.le_of_ble_eq_true rfl, Nat.le_of_ble_eq_true rfl⟩ rfl hl.1 rfl (Nat.le_of_ble_eq_true rfl) dL_law_156 ⟨(Nat.le_trans (m := 3000) hcl (Nat.le_of_ble_eq_true rfl)), (Nat.le_trans (m := 30000) hsl (Nat.le_of_ble_eq_true rfl))⟩ rfl (fun H locs hG => ?_)
      refine lv_bipush (v := 50) S.1 S.2.1 dL_law_159 (by decide) ?_
      refine lv_isub S.1 S.2.1 dL_law_161 ?_
      refine lv_iload S.1 S.2.1 dL_law_162 (lv_at hl 0 rfl) ?_
      refine lv_iconst (v := 3) S.1 S.2.1 dL_law_164 (by decide) ?_
      refine lv_ishr S.1 S.2.1 dL_law_165 ?_
      refine lv_iconst (v := 4) S.1 S.2.1 dL_law_166 (by decide) ?_
      refine hm_uS (As := [.int (v5 >>> (3 &&& 31)), .int 4]) (rest := [.int ((nI (bwF (v5 >>> (5 &&& 31)) 500)) - 50), .int (nI (bwF (v5 >>> (4 &&& 31)) 3)), .int (nI (1 + (bwF (v5 >>> (2 &&& 31)) 12))), .int (nI (bwF (v5 >>> (1 &&& 31)) 9)), .int (nI (bwF v5 2)), .ref (ad (0, 0, 0))]) (st1 := [.int (nI (bwF (v5 >>> (3 &&& 31)) 4)), .int ((nI (bwF (v5 >>> (5 &&& 31)) 500)) - 50), .int (nI (bwF (v5 >>> (4 &&& 31)) 3)), .int (nI (1 + (bwF (v5 >>> (2 &&& 31)) 12))), .int (nI (bwF (v5 >>> (1 &&& 31)) 9)), .int (nI (bwF v5 2)), .ref (ad (0, 0, 0))]) S hE hG (c_L_below l g ad M (v5 >>> (3 &&& 31)) 4 (by omega) (by omega)) (hm_gS hb_76 hb_77 hb_73 hb_78) hd_L_below ⟨Nat.le_of_ble_eq_true rfl, Nat.le_of_ble_eq_true rfl⟩ rfl hl.1 rfl (Nat.le_of_ble_eq_true rfl) dL_law_167 ⟨(Nat.le_trans (m := 3000) hcl (Nat.le_of_ble_eq_true rfl)), (Nat.le_trans (m := 30000) hsl (Nat.le_of_ble_eq_true rfl))⟩ rfl (fun H locs hG => ?_)
      refine lv_if_le (tgt := 177) S.1 S.2.1 dL_law_170 (by decide) (fun c170 => ?_) (fun c170 => ?_)
      · skip
        refine lv_iconst (v := 0) S.1 S.2.1 dL_law_177 (by decide) ?_
        have : (bwF v5 2) < 2 := bwF_lt _ (by decide)
        have : (bwF (v5 >>> (1 &&& 31)) 9) < 9 := bwF_lt _ (by decide)
        have : (bwF (v5 >>> (4 &&& 31)) 3) < 3 := bwF_lt _ (by decide)
        have : (bwF (v5 >>> (5 &&& 31)) 500) < 500 := bwF_lt _ (by decide)
        have hw9 : (1 + (bwF (v5 >>> (2 &&& 31)) 12)) ≤ 12 := by have := bwF_lt (v5 >>> (2 &&& 31)) (n := 12) (by decide); omega
        have hli := li_in (q := (bwF (v5 >>> (5 &&& 31)) 500)) (by omega)
        refine hm_callV (As := [.int (nI (bwF v5 2)), .int (nI (bwF (v5 >>> (1 &&& 31)) 9)), .int (nI (1 + (bwF (v5 >>> (2 &&& 31)) 12))), .int (nI (bwF (v5 >>> (4 &&& 31)) 3)), .int ((nI (bwF (v5 >>> (5 &&& 31)) 500)) - 50), .int 0]) (rest := []) (rm := rm_X6_rule) S hE hG (c_X6_rule l g ad M x hx (by omega) (nI (bwF v5 2)) (bwF (v5 >>> (1 &&& 31)) 9) (1 + (bwF (v5 >>> (2 &&& 31)) 12)) (bwF (v5 >>> (4 &&& 31)) 3) (nI (bwF (v5 >>> (5 &&& 31)) 500) - 50) false (nI_nlt (b := 0) (Nat.zero_le _) (by omega)) (nI_nlt (a := 5) (b := (bwF v5 2)) (by omega) (by decide)) (by omega) (by omega) hw9 (by omega) hli.1 hli.2) (hm_gV hb_164 hb_165 hb_166 hb_2 hb_167) ⟨rfl, hd_X6_rule⟩ hX rfl rfl ⟨Nat.le_of_ble_eq_true rfl, Nat.le_of_ble_eq_true rfl⟩ rfl hl.1 rfl (Nat.le_of_ble_eq_true rfl) dL_law_178 ⟨(Nat.le_trans (m := 3015) (Nat.add_le_add_right hcl 15) (Nat.le_of_ble_eq_true rfl)), (Nat.le_trans (m := 30068) (Nat.add_le_add_right hsl 68) (Nat.le_of_ble_eq_true rfl))⟩ (fun v9 ad_3 M_2 H locs hp9 hG => ?_)
        obtain ⟨rfl, hx8, had8, hfr8⟩ := hp9
        refine hm_st (st' := [.int (nI (xR x))]) rfl ?_
        rw [← had8] at hl
        have hx := hx8
        have hcl : cl + 15 ≤ 3000 := by omega
        have hsl : sl + 68 ≤ 30000 := by omega
        obtain ⟨hX, hLs, hLr, hLh, h7, hLg, h70, hSe, hRu, hHu, hGr, hS6, hR6, hH5⟩ := id hx
        obtain ⟨fs1, hb1⟩ := hLs.ob
        obtain ⟨fs2, hb2⟩ := hLr.ob
        obtain ⟨fs3, hb3⟩ := hLh.ob
        refine lv_iload S.1 S.2.1 dL_law_181 (lv_at hl 5 rfl) ?_
        refine lv_icmp_eq (tgt := 188) S.1 S.2.1 dL_law_183 (by decide) (fun _ => ?_) (fun h9 => absurd (by rw [hxR]) h9)
        refine lv_aload_n S.1 S.2.1 dL_law_188 rfl (lv_at hl 2 rfl) ?_
        refine lv_iload S.1 S.2.1 dL_law_189 (lv_at hl 5 rfl) ?_
        refine lv_iload S.1 S.2.1 dL_law_191 (lv_at hl 0 rfl) ?_
        refine lv_iconst (v := 5) S.1 S.2.1 dL_law_193 (by decide) ?_
        refine lv_ishr S.1 S.2.1 dL_law_194 ?_
        refine lv_sipush (v := 500) S.1 S.2.1 dL_law_195 (by decide) ?_
        refine hm_uS (As := [.int (v5 >>> (5 &&& 31)), .int 500]) (rest := [.int (nI k), .ref (ad_3 (0, 0, 0))]) (st1 := [.int (nI (bwF (v5 >>> (5 &&& 31)) 500)), .int (nI k), .ref (ad_3 (0, 0, 0))]) S hE hG (c_L_below l g ad_3 M_2 (v5 >>> (5 &&& 31)) 500 (by omega) (by omega)) (hm_gS hb_76 hb_77 hb_73 hb_78) hd_L_below ⟨Nat.le_of_ble_eq_true rfl, Nat.le_of_ble_eq_true rfl⟩ rfl hl.1 rfl (Nat.le_of_ble_eq_true rfl) dL_law_198 ⟨(Nat.le_trans (m := 3000) hcl (Nat.le_of_ble_eq_true rfl)), (Nat.le_trans (m := 30000) hsl (Nat.le_of_ble_eq_true rfl))⟩ rfl (fun H locs hG => ?_)
        refine lv_bipush (v := 50) S.1 S.2.1 dL_law_201 (by decide) ?_
        refine lv_isub S.1 S.2.1 dL_law_203 ?_
        refine lv_iload S.1 S.2.1 dL_law_204 (lv_at hl 0 rfl) ?_
        refine lv_bipush (v := 6) S.1 S.2.1 dL_law_206 (by decide) ?_
        refine lv_ishr S.1 S.2.1 dL_law_208 ?_
        refine lv_iconst (v := 4) S.1 S.2.1 dL_law_209 (by decide) ?_
        refine hm_uS (As := [.int (v5 >>> (6 &&& 31)), .int 4]) (rest := [.int ((nI (bwF (v5 >>> (5 &&& 31)) 500)) - 50), .int (nI k), .ref (ad_3 (0, 0, 0))]) (st1 := [.int (nI (bwF (v5 >>> (6 &&& 31)) 4)), .int ((nI (bwF (v5 >>> (5 &&& 31)) 500)) - 50), .int (nI k), .ref (ad_3 (0, 0, 0))]) S hE hG (c_L_below l g ad_3 M_2 (v5 >>> (6 &&& 31)) 4 (by omega) (by omega)) (hm_gS hb_76 hb_77 hb_73 hb_78) hd_L_below ⟨Nat.le_of_ble_eq_true rfl, Nat.le_of_ble_eq_true rfl⟩ rfl hl.1 rfl (Nat.le_of_ble_eq_true rfl) dL_law_210 ⟨(Nat.le_trans (m := 3000) hcl (Nat.le_of_ble_eq_true rfl)), (Nat.le_trans (m := 30000) hsl (Nat.le_of_ble_eq_true rfl))⟩ rfl (fun H locs hG => ?_)
        refine lv_iload S.1 S.2.1 dL_law_213 (lv_at hl 0 rfl) ?_
        refine lv_bipush (v := 7) S.1 S.2.1 dL_law_215 (by decide) ?_
        refine lv_ishr S.1 S.2.1 dL_law_217 ?_
        refine lv_iconst (v := 4) S.1 S.2.1 dL_law_218 (by decide) ?_
        refine hm_uS (As := [.int (v5 >>> (7 &&& 31)), .int 4]) (rest := [.int (nI (bwF (v5 >>> (6 &&& 31)) 4)), .int ((nI (bwF (v5 >>> (5 &&& 31)) 500)) - 50), .int (nI k), .ref (ad_3 (0, 0, 0))]) (st1 := [.int (nI (bwF (v5 >>> (7 &&& 31)) 4)), .int (nI (bwF (v5 >>> (6 &&& 31)) 4)), .int ((nI (bwF (v5 >>> (5 &&& 31)) 500)) - 50), .int (nI k), .ref (ad_3 (0, 0, 0))]) S hE hG (c_L_below l g ad_3 M_2 (v5 >>> (7 &&& 31)) 4 (by omega) (by omega)) (hm_gS hb_76 hb_77 hb_73 hb_78) hd_L_below ⟨Nat.le_of_ble_eq_true rfl, Nat.le_of_ble_eq_true rfl⟩ rfl hl.1 rfl (Nat.le_of_ble_eq_true rfl) dL_law_219 ⟨(Nat.le_trans (m := 3000) hcl (Nat.le_of_ble_eq_true rfl)), (Nat.le_trans (m := 30000) hsl (Nat.le_of_ble_eq_true rfl))⟩ rfl (fun H locs hG => ?_)
        have hwt : (bwF (v5 >>> (6 &&& 31)) 4) < 4 := bwF_lt _ (by decide)
        have hrk : (bwF (v5 >>> (7 &&& 31)) 4) < 4 := bwF_lt _ (by decide)
        have e8 : nI k = nI (xR x) := by rw [hxR]
        refine hm_xV (As := [.int (nI k), .int ((nI (bwF (v5 >>> (5 &&& 31)) 500)) - 50), .int (nI (bwF (v5 >>> (6 &&& 31)) 4)), .int (nI (bwF (v5 >>> (7 &&& 31)) 4))]) (rest := []) (st1 := [.int (rLi (xRu (addR x (nI (bwF v5 2), (bwF (v5 >>> (1 &&& 31)) 9), (1 + (bwF (v5 >>> (2 &&& 31)) 12)), (bwF (v5 >>> (4 &&& 31)) 3), false, nI (bwF (v5 >>> (5 &&& 31)) 500) - 50, 0, 0)) (xR x)))]) (rm := rm_X6_setRule) S hE hG ((by rw [e8]; exact c_X6_setRule l g ad_3 M_2 (addR x (nI (bwF v5 2), (bwF (v5 >>> (1 &&& 31)) 9), (1 + (bwF (v5 >>> (2 &&& 31)) 12)), (bwF (v5 >>> (4 &&& 31)) 3), false, nI (bwF (v5 >>> (5 &&& 31)) 500) - 50, 0, 0)) hx (xR x) (by show xR x < xR x + 1; omega) (nI (bwF (v5 >>> (5 &&& 31)) 500) - 50) (nI (bwF (v5 >>> (6 &&& 31)) 4)) (nI (bwF (v5 >>> (7 &&& 31)) 4)) hli.1 hli.2 (nI_nlt (b := 0) (Nat.zero_le _) (by omega)) (nI_nlt (a := 20) (b := (bwF (v5 >>> (6 &&& 31)) 4)) (by omega) (by decide)) (nI_nlt (b := 0) (Nat.zero_le _) (by omega)) (nI_nlt (a := 3) (b := (bwF (v5 >>> (7 &&& 31)) 4)) (by omega) (by decide)))) (hm_gV hb_195 hb_196 hb_197 hb_2 hb_198) hd_X6_setRule rfl hX rfl rfl ⟨Nat.le_of_ble_eq_true rfl, Nat.le_of_ble_eq_true rfl⟩ rfl hl.1 rfl (Nat.le_of_ble_eq_true rfl) dL_law_222 ⟨(Nat.le_trans (m := 3000) hcl (Nat.le_of_ble_eq_true rfl)), (Nat.le_trans (m := 30000) hsl (Nat.le_of_ble_eq_true rfl))⟩ rfl (fun M_4 H locs hx hfr1 hG => ?_)
        refine lv_pop S.1 S.2.1 dL_law_225 rfl ?_
        refine lv_iinc (v := nI (k + 1)) (lv' := [(4, .int (nI (k + 1))), (5, .int v5), (0, .ref b), (1, .ref (ad_3 (0, 0, 0))), (2, .int (nI nS)), (3, .int (nI n0))]) S.1 S.2.1 dL_law_226 hl (k := 5) rfl (nI_1 k) (by decide) rfl (fun ls hl => ?_)
        refine lv_goto (tgt := 97) S.1 S.2.1 dL_law_229 (by decide) ?_
        exact ih97 (k + 1) ad_3 M_4 _ (cl + 15) (sl + 68) ⟨by omega, hx, pA x (bwF v5 2) (bwF (v5 >>> (1 &&& 31)) 9) (1 + (bwF (v5 >>> (2 &&& 31)) 12)) (bwF (v5 >>> (4 &&& 31)) 3) (bwF (v5 >>> (5 &&& 31)) 500) (bwF (v5 >>> (6 &&& 31)) 4) (bwF (v5 >>> (7 &&& 31)) 4) false hP (by omega) (by omega) (by omega) (by omega) hw9 (by omega) (by omega) hwt hrk, by show xR x + 1 = k + 1; omega, hxS, by omega, by omega⟩ _ _ _ hG (lv_sub hl [2, 3, 4, 5, 0] rfl)
      · skip
        refine lv_iconst (v := 1) S.1 S.2.1 dL_law_173 (by decide) ?_
        refine lv_goto (tgt := 178) S.1 S.2.1 dL_law_174 (by decide) ?_
        have : (bwF v5 2) < 2 := bwF_lt _ (by decide)
        have : (bwF (v5 >>> (1 &&& 31)) 9) < 9 := bwF_lt _ (by decide)
        have : (bwF (v5 >>> (4 &&& 31)) 3) < 3 := bwF_lt _ (by decide)
        have : (bwF (v5 >>> (5 &&& 31)) 500) < 500 := bwF_lt _ (by decide)
        have hw9 : (1 + (bwF (v5 >>> (2 &&& 31)) 12)) ≤ 12 := by have := bwF_lt (v5 >>> (2 &&& 31)) (n := 12) (by decide); omega
        have hli := li_in (q := (bwF (v5 >>> (5 &&& 31)) 500)) (by omega)
        refine hm_callV (As := [.int (nI (bwF v5 2)), .int (nI (bwF (v5 >>> (1 &&& 31)) 9)), .int (nI (1 + (bwF (v5 >>> (2 &&& 31)) 12))), .int (nI (bwF (v5 >>> (4 &&& 31)) 3)), .int ((nI (bwF (v5 >>> (5 &&& 31)) 500)) - 50), .int 1]) (rest := []) (rm := rm_X6_rule) S hE hG (c_X6_rule l g ad M x hx (by omega) (nI (bwF v5 2)) (bwF (v5 >>> (1 &&& 31)) 9) (1 + (bwF (v5 >>> (2 &&& 31)) 12)) (bwF (v5 >>> (4 &&& 31)) 3) (nI (bwF (v5 >>> (5 &&& 31)) 500) - 50) true (nI_nlt (b := 0) (Nat.zero_le _) (by omega)) (nI_nlt (a := 5) (b := (bwF v5 2)) (by omega) (by decide)) (by omega) (by omega) hw9 (by omega) hli.1 hli.2) (hm_gV hb_164 hb_165 hb_166 hb_2 hb_167) ⟨rfl, hd_X6_rule⟩ hX rfl rfl ⟨Nat.le_of_ble_eq_true rfl, Nat.le_of_ble_eq_true rfl⟩ rfl hl.1 rfl (Nat.le_of_ble_eq_true rfl) dL_law_178 ⟨(Nat.le_trans (m := 3015) (Nat.add_le_add_right hcl 15) (Nat.le_of_ble_eq_true rfl)), (Nat.le_trans (m := 30068) (Nat.add_le_add_right hsl 68) (Nat.le_of_ble_eq_true rfl))⟩ (fun v9 ad_6 M_5 H locs hp9 hG => ?_)
        obtain ⟨rfl, hx8, had8, hfr8⟩ := hp9
        refine hm_st (st' := [.int (nI (xR x))]) rfl ?_
        rw [← had8] at hl
        have hx := hx8
        have hcl : cl + 15 ≤ 3000 := by omega
        have hsl : sl + 68 ≤ 30000 := by omega
        obtain ⟨hX, hLs, hLr, hLh, h7, hLg, h70, hSe, hRu, hHu, hGr, hS6, hR6, hH5⟩ := id hx
        obtain ⟨fs1, hb1⟩ := hLs.ob
        obtain ⟨fs2, hb2⟩ := hLr.ob
        obtain ⟨fs3, hb3⟩ := hLh.ob
        refine lv_iload S.1 S.2.1 dL_law_181 (lv_at hl 5 rfl) ?_
        refine lv_icmp_eq (tgt := 188) S.1 S.2.1 dL_law_183 (by decide) (fun _ => ?_) (fun h9 => absurd (by rw [hxR]) h9)
        refine lv_aload_n S.1 S.2.1 dL_law_188 rfl (lv_at hl 2 rfl) ?_
        refine lv_iload S.1 S.2.1 dL_law_189 (lv_at hl 5 rfl) ?_
        refine lv_iload S.1 S.2.1 dL_law_191 (lv_at hl 0 rfl) ?_
        refine lv_iconst (v := 5) S.1 S.2.1 dL_law_193 (by decide) ?_
        refine lv_ishr S.1 S.2.1 dL_law_194 ?_
        refine lv_sipush (v := 500) S.1 S.2.1 dL_law_195 (by decide) ?_
        refine hm_uS (As := [.int (v5 >>> (5 &&& 31)), .int 500]) (rest := [.int (nI k), .ref (ad_6 (0, 0, 0))]) (st1 := [.int (nI (bwF (v5 >>> (5 &&& 31)) 500)), .int (nI k), .ref (ad_6 (0, 0, 0))]) S hE hG (c_L_below l g ad_6 M_5 (v5 >>> (5 &&& 31)) 500 (by omega) (by omega)) (hm_gS hb_76 hb_77 hb_73 hb_78) hd_L_below ⟨Nat.le_of_ble_eq_true rfl, Nat.le_of_ble_eq_true rfl⟩ rfl hl.1 rfl (Nat.le_of_ble_eq_true rfl) dL_law_198 ⟨(Nat.le_trans (m := 3000) hcl (Nat.le_of_ble_eq_true rfl)), (Nat.le_trans (m := 30000) hsl (Nat.le_of_ble_eq_true rfl))⟩ rfl (fun H locs hG => ?_)
        refine lv_bipush (v := 50) S.1 S.2.1 dL_law_201 (by decide) ?_
        refine lv_isub S.1 S.2.1 dL_law_203 ?_
        refine lv_iload S.1 S.2.1 dL_law_204 (lv_at hl 0 rfl) ?_
        refine lv_bipush (v := 6) S.1 S.2.1 dL_law_206 (by decide) ?_
        refine lv_ishr S.1 S.2.1 dL_law_208 ?_
        refine lv_iconst (v := 4) S.1 S.2.1 dL_law_209 (by decide) ?_
        refine hm_uS (As := [.int (v5 >>> (6 &&& 31)), .int 4]) (rest := [.int ((nI (bwF (v5 >>> (5 &&& 31)) 500)) - 50), .int (nI k), .ref (ad_6 (0, 0, 0))]) (st1 := [.int (nI (bwF (v5 >>> (6 &&& 31)) 4)), .int ((nI (bwF (v5 >>> (5 &&& 31)) 500)) - 50), .int (nI k), .ref (ad_6 (0, 0, 0))]) S hE hG (c_L_below l g ad_6 M_5 (v5 >>> (6 &&& 31)) 4 (by omega) (by omega)) (hm_gS hb_76 hb_77 hb_73 hb_78) hd_L_below ⟨Nat.le_of_ble_eq_true rfl, Nat.le_of_ble_eq_true rfl⟩ rfl hl.1 rfl (Nat.le_of_ble_eq_true rfl) dL_law_210 ⟨(Nat.le_trans (m := 3000) hcl (Nat.le_of_ble_eq_true rfl)), (Nat.le_trans (m := 30000) hsl (Nat.le_of_ble_eq_true rfl))⟩ rfl (fun H locs hG => ?_)
        refine lv_iload S.1 S.2.1 dL_law_213 (lv_at hl 0 rfl) ?_
        refine lv_bipush (v := 7) S.1 S.2.1 dL_law_215 (by decide) ?_
        refine lv_ishr S.1 S.2.1 dL_law_217 ?_
        refine lv_iconst (v := 4) S.1 S.2.1 dL_law_218 (by decide) ?_
        refine hm_uS (As := [.int (v5 >>> (7 &&& 31)), .int 4]) (rest := [.int (nI (bwF (v5 >>> (6 &&& 31)) 4)), .int ((nI (bwF (v5 >>> (5 &&& 31)) 500)) - 50), .int (nI k), .ref (ad_6 (0, 0, 0))]) (st1 := [.int (nI (bwF (v5 >>> (7 &&& 31)) 4)), .int (nI (bwF (v5 >>> (6 &&& 31)) 4)), .int ((nI (bwF (v5 >>> (5 &&& 31)) 500)) - 50), .int (nI k), .ref (ad_6 (0, 0, 0))]) S hE hG (c_L_below l g ad_6 M_5 (v5 >>> (7 &&& 31)) 4 (by omega) (by omega)) (hm_gS hb_76 hb_77 hb_73 hb_78) hd_L_below ⟨Nat.le_of_ble_eq_true rfl, Nat.le_of_ble_eq_true rfl⟩ rfl hl.1 rfl (Nat.le_of_ble_eq_true rfl) dL_law_219 ⟨(Nat.le_trans (m := 3000) hcl (Nat.le_of_ble_eq_true rfl)), (Nat.le_trans (m := 30000) hsl (Nat.le_of_ble_eq_true rfl))⟩ rfl (fun H locs hG => ?_)
        have hwt : (bwF (v5 >>> (6 &&& 31)) 4) < 4 := bwF_lt _ (by decide)
        have hrk : (bwF (v5 >>> (7 &&& 31)) 4) < 4 := bwF_lt _ (by decide)
        have e8 : nI k = nI (xR x) := by rw [hxR]
        refine hm_xV (As := [.int (nI k), .int ((nI (bwF (v5 >>> (5 &&& 31)) 500)) - 50), .int (nI (bwF (v5 >>> (6 &&& 31)) 4)), .int (nI (bwF (v5 >>> (7 &&& 31)) 4))]) (rest := []) (st1 := [.int (rLi (xRu (addR x (nI (bwF v5 2), (bwF (v5 >>> (1 &&& 31)) 9), (1 + (bwF (v5 >>> (2 &&& 31)) 12)), (bwF (v5 >>> (4 &&& 31)) 3), true, nI (bwF (v5 >>> (5 &&& 31)) 500) - 50, 0, 0)) (xR x)))]) (rm := rm_X6_setRule) S hE hG ((by rw [e8]; exact c_X6_setRule l g ad_6 M_5 (addR x (nI (bwF v5 2), (bwF (v5 >>> (1 &&& 31)) 9), (1 + (bwF (v5 >>> (2 &&& 31)) 12)), (bwF (v5 >>> (4 &&& 31)) 3), true, nI (bwF (v5 >>> (5 &&& 31)) 500) - 50, 0, 0)) hx (xR x) (by show xR x < xR x + 1; omega) (nI (bwF (v5 >>> (5 &&& 31)) 500) - 50) (nI (bwF (v5 >>> (6 &&& 31)) 4)) (nI (bwF (v5 >>> (7 &&& 31)) 4)) hli.1 hli.2 (nI_nlt (b := 0) (Nat.zero_le _) (by omega)) (nI_nlt (a := 20) (b := (bwF (v5 >>> (6 &&& 31)) 4)) (by omega) (by decide)) (nI_nlt (b := 0) (Nat.zero_le _) (by omega)) (nI_nlt (a := 3) (b := (bwF (v5 >>> (7 &&& 31)) 4)) (by omega) (by decide)))) (hm_gV hb_195 hb_196 hb_197 hb_2 hb_198) hd_X6_setRule rfl hX rfl rfl ⟨Nat.le_of_ble_eq_true rfl, Nat.le_of_ble_eq_true rfl⟩ rfl hl.1 rfl (Nat.le_of_ble_eq_true rfl) dL_law_222 ⟨(Nat.le_trans (m := 3000) hcl (Nat.le_of_ble_eq_true rfl)), (Nat.le_trans (m := 30000) hsl (Nat.le_of_ble_eq_true rfl))⟩ rfl (fun M_7 H locs hx hfr1 hG => ?_)
        refine lv_pop S.1 S.2.1 dL_law_225 rfl ?_
        refine lv_iinc (v := nI (k + 1)) (lv' := [(4, .int (nI (k + 1))), (5, .int v5), (0, .ref b), (1, .ref (ad_6 (0, 0, 0))), (2, .int (nI nS)), (3, .int (nI n0))]) S.1 S.2.1 dL_law_226 hl (k := 5) rfl (nI_1 k) (by decide) rfl (fun ls hl => ?_)
        refine lv_goto (tgt := 97) S.1 S.2.1 dL_law_229 (by decide) ?_
        exact ih97 (k + 1) ad_6 M_7 _ (cl + 15) (sl + 68) ⟨by omega, hx, pA x (bwF v5 2) (bwF (v5 >>> (1 &&& 31)) 9) (1 + (bwF (v5 >>> (2 &&& 31)) 12)) (bwF (v5 >>> (4 &&& 31)) 3) (bwF (v5 >>> (5 &&& 31)) 500) (bwF (v5 >>> (6 &&& 31)) 4) (bwF (v5 >>> (7 &&& 31)) 4) true hP (by omega) (by omega) (by omega) (by omega) hw9 (by omega) (by omega) hwt hrk, by show xR x + 1 = k + 1; omega, hxS, by omega, by omega⟩ _ _ _ hG (lv_sub hl [2, 3, 4, 5, 0] rfl)
  exact L97_0 n0 0 ad M x cl sl ⟨rfl, hx, hP, hxR, enS.symm, by omega, by omega⟩ _ _ _ hG (lv_sub hl [2, 3, 4, 1, 0] rfl)

set_option maxHeartbeats 4000000 in
set_option maxRecDepth 100000 in
theorem seg_grp {p : Program} {l : Launch} {e : Env} {s : State} {m : MethodId} {below : List Frame} {meth : Method} {c : Code} {b L : Nat} {xs : Nat → Int32} {g : GV} (C0 : LC p s m meth c b L xs g) {ad : AD} {M : CT} (P : XD → Prop) (pG : ∀ y (gr rp : Nat), P y → gr < 3 → 5 ≤ rp → rp < 15 → P (gpX y gr rp)) {x : XD} (hx : hasX g ad M x) (hP : P x) (hg0 : xG x < 3) {H : Heap} {locs : List Loc} {ls : Array Slot} {cl sl : Nat} (hG : hm_G g ad M s.heap H locs) (hl : lv_has ls 20 [(0, .ref b), (1, .ref (ad (0, 0, 0))), (2, .int (nI (xS x))), (3, .int (nI (xR x)))]) (hcl : cl ≤ 3000) (hsl : sl ≤ 30000) (kk : ∀ (M1 : CT) (y : XD), hasX g ad M1 y → P y → xS y = xS x → xR y = xR x → ∀ (H : Heap) (locs : List Loc) (ls : Array Slot), hm_G g ad M1 s.heap H locs → lv_has ls 20 [(0, .ref b), (1, .ref (ad (0, 0, 0))), (2, .int (nI (xS y))), (3, .int (nI (xR y))), (4, .int 0), (5, .int 0)] → W p l e room_1 s m #[Value.ref b] below meth c H locs cl sl (lw_Z below #[Value.ref b] s) (F0 m 268 ls [])) : W p l e room_1 s m #[Value.ref b] below meth c H locs cl sl (lw_Z below #[Value.ref b] s) (F0 m 232 ls []) := by
  obtain ⟨S, hr, hlk, hE, hB0, hX0, hL⟩ := id C0
  obtain ⟨hX, hLs, hLr, hLh, h7, hLg, h70, hSe, hRu, hHu, hGr, hS6, hR6, hH5⟩ := id hx
  obtain ⟨fs1, hb1⟩ := hLs.ob
  obtain ⟨fs2, hb2⟩ := hLr.ob
  obtain ⟨fs3, hb3⟩ := hLh.ob
  refine lv_aload_n S.1 S.2.1 dL_law_232 rfl (lv_at hl 1 rfl) ?_
  refine lv_aload_n S.1 S.2.1 dL_law_233 rfl (lv_at hl 0 rfl) ?_
  refine lv_bipush (v := 12) S.1 S.2.1 dL_law_234 (by decide) ?_
  refine hm_uSX (As := [.ref b, .int 12]) (rest := [.ref (ad (0, 0, 0))]) (st1 := [.int (ceF L xs 12), .ref (ad (0, 0, 0))]) S hE hG hX0 (c_L_cell l g ad M b L xs 12 hL (by omega)) (hm_gS hb_71 hb_72 hb_73 hb_74) hd_L_cell ⟨Nat.le_of_ble_eq_true rfl, Nat.le_of_ble_eq_true rfl⟩ rfl hl.1 rfl (Nat.le_of_ble_eq_true rfl) dL_law_236 ⟨(Nat.le_trans (m := 3000) hcl (Nat.le_of_ble_eq_true rfl)), (Nat.le_trans (m := 30000) hsl (Nat.le_of_ble_eq_true rfl))⟩ rfl (fun H locs hG => ?_)
  refine lv_iconst (v := 3) S.1 S.2.1 dL_law_239 (by decide) ?_
  refine hm_uS (As := [.int (ceF L xs 12), .int 3]) (rest := [.ref (ad (0, 0, 0))]) (st1 := [.int (nI (bwF (ceF L xs 12) 3)), .ref (ad (0, 0, 0))]) S hE hG (c_L_below l g ad M (ceF L xs 12) 3 (by omega) (by omega)) (hm_gS hb_76 hb_77 hb_73 hb_78) hd_L_below ⟨Nat.le_of_ble_eq_true rfl, Nat.le_of_ble_eq_true rfl⟩ rfl hl.1 rfl (Nat.le_of_ble_eq_true rfl) dL_law_240 ⟨(Nat.le_trans (m := 3000) hcl (Nat.le_of_ble_eq_true rfl)), (Nat.le_trans (m := 30000) hsl (Nat.le_of_ble_eq_true rfl))⟩ rfl (fun H locs hG => ?_)
  refine lv_iconst (v := 5) S.1 S.2.1 dL_law_243 (by decide) ?_
  refine lv_aload_n S.1 S.2.1 dL_law_244 rfl (lv_at hl 0 rfl) ?_
  refine lv_bipush (v := 12) S.1 S.2.1 dL_law_245 (by decide) ?_
  refine hm_uSX (As := [.ref b, .int 12]) (rest := [.int 5, .int (nI (bwF (ceF L xs 12) 3)), .ref (ad (0, 0, 0))]) (st1 := [.int (ceF L xs 12), .int 5, .int (nI (bwF (ceF L xs 12) 3)), .ref (ad (0, 0, 0))]) S hE hG hX0 (c_L_cell l g ad M b L xs 12 hL (by omega)) (hm_gS hb_71 hb_72 hb_73 hb_74) hd_L_cell ⟨Nat.le_of_ble_eq_true rfl, Nat.le_of_ble_eq_true rfl⟩ rfl hl.1 rfl (Nat.le_of_ble_eq_true rfl) dL_law_247 ⟨(Nat.le_trans (m := 3000) hcl (Nat.le_of_ble_eq_true rfl)), (Nat.le_trans (m := 30000) hsl (Nat.le_of_ble_eq_true rfl))⟩ rfl (fun H locs hG => ?_)
  refine lv_iconst (v := 2) S.1 S.2.1 dL_law_250 (by decide) ?_
  refine lv_ishr S.1 S.2.1 dL_law_251 ?_
  refine lv_bipush (v := 10) S.1 S.2.1 dL_law_252 (by decide) ?_
  refine hm_uS (As := [.int ((ceF L xs 12) >>> (2 &&& 31)), .int 10]) (rest := [.int 5, .int (nI (bwF (ceF L xs 12) 3)), .ref (ad (0, 0, 0))]) (st1 := [.int (nI (bwF ((ceF L xs 12) >>> (2 &&& 31)) 10)), .int 5, .int (nI (bwF (ceF L xs 12) 3)), .ref (ad (0, 0, 0))]) S hE hG (c_L_below l g ad M ((ceF L xs 12) >>> (2 &&& 31)) 10 (by omega) (by omega)) (hm_gS hb_76 hb_77 hb_73 hb_78) hd_L_below ⟨Nat.le_of_ble_eq_true rfl, Nat.le_of_ble_eq_true rfl⟩ rfl hl.1 rfl (Nat.le_of_ble_eq_true rfl) dL_law_254 ⟨(Nat.le_trans (m := 3000) hcl (Nat.le_of_ble_eq_true rfl)), (Nat.le_trans (m := 30000) hsl (Nat.le_of_ble_eq_true rfl))⟩ rfl (fun H locs hG => ?_)
  refine lv_iadd S.1 S.2.1 dL_law_257 ?_
  refine hm_top (z := nI (5 + (bwF ((ceF L xs 12) >>> (2 &&& 31)) 10))) (nI_add 5 _) ?_
  have hgr : (bwF (ceF L xs 12) 3) < 3 := bwF_lt _ (by decide)
  have hrp : (5 + (bwF ((ceF L xs 12) >>> (2 &&& 31)) 10)) < 15 := by have := bwF_lt (ceF L xs 12 >>> (2 &&& 31)) (n := 10) (by decide); omega
  refine hm_xV (As := [.int (nI (bwF (ceF L xs 12) 3)), .int (nI (5 + (bwF ((ceF L xs 12) >>> (2 &&& 31)) 10)))]) (rest := []) (st1 := [.int (nI (xG x))]) S hE hG (c_X6_group l g ad M x hx (bwF (ceF L xs 12) 3) (5 + (bwF ((ceF L xs 12) >>> (2 &&& 31)) 10)) hgr hg0 (by omega) (by omega)) (hm_gV hb_224 hb_225 hb_226 hb_2 hb_227) hd_X6_group rfl hX rfl rfl ⟨Nat.le_of_ble_eq_true rfl, Nat.le_of_ble_eq_true rfl⟩ rfl hl.1 rfl (Nat.le_of_ble_eq_true rfl) dL_law_258 ⟨(Nat.le_trans (m := 3000) hcl (Nat.le_of_ble_eq_true rfl)), (Nat.le_trans (m := 30000) hsl (Nat.le_of_ble_eq_true rfl))⟩ rfl (fun M_1 H locs hx hfr1 hG => ?_)
  refine lv_pop S.1 S.2.1 dL_law_261 rfl ?_
  refine lv_iconst (v := 0) S.1 S.2.1 dL_law_262 (by decide) ?_
  refine lv_istore (lv' := [(4, .int 0), (0, .ref b), (1, .ref (ad (0, 0, 0))), (2, .int (nI (xS x))), (3, .int (nI (xR x)))]) S.1 S.2.1 dL_law_263 hl (by decide) rfl (fun ls hl => ?_)
  refine lv_iconst (v := 0) S.1 S.2.1 dL_law_265 (by decide) ?_
  refine lv_istore (lv' := [(5, .int 0), (4, .int 0), (0, .ref b), (1, .ref (ad (0, 0, 0))), (2, .int (nI (xS x))), (3, .int (nI (xR x)))]) S.1 S.2.1 dL_law_266 hl (by decide) rfl (fun ls hl => ?_)
  have eS : xS (gpX x (bwF (ceF L xs 12) 3) (5 + (bwF ((ceF L xs 12) >>> (2 &&& 31)) 10))) = xS x := by rw [gpX]; split <;> rfl
  have eR : xR (gpX x (bwF (ceF L xs 12) 3) (5 + (bwF ((ceF L xs 12) >>> (2 &&& 31)) 10))) = xR x := by rw [gpX]; split <;> rfl
  exact kk M_1 _ hx (pG x _ _ hP hgr (by omega) hrp) eS eR _ _ _ hG (by rw [eS, eR]; exact lv_sub hl [2, 3, 4, 5, 1, 0] rfl)
