theorem ru_or {k n : Nat} (h : k < n + 1) : nI k - 1 = -1 ∨ ∃ j, j < n ∧ nI k - 1 = nI j := by
  rcases Nat.eq_zero_or_pos k with e | e
  · subst e; exact Or.inl (by decide)
  · exact Or.inr ⟨k - 1, by omega, pk_sub (b := 1) e⟩
theorem pl_in {k : Nat} (h : k < 4) : ¬ nI k - 1 < -1 ∧ ¬ 5 < nI k - 1 := by
  rcases (show k = 0 ∨ k = 1 ∨ k = 2 ∨ k = 3 by omega) with e | e | e | e <;> subst e <;> decide

set_option maxHeartbeats 4000000 in
set_option maxRecDepth 100000 in
theorem seg_mut {p : Program} {l : Launch} {e : Env} {s : State} {m : MethodId} {below : List Frame} {meth : Method} {c : Code} {b L : Nat} {xs : Nat → Int32} {g : GV} (C0 : LC p s m meth c b L xs g) {ad : AD} {M : CT} {x : XD} (hx : hasX g ad M x) (P : XD → Prop) (pT : ∀ i v, i < xS x → v < 300 → P (setSe x i (wPr (xSe x i) (takeP (xSe x i) (nI v))))) (pR : ∀ y i, P y → i < xS y → P (setSe y i (wPr (xSe y i) (zeroP (sPr (xSe y i)))))) (pH : ∀ y ru pl tk, P y → xH y < 5 → (ru = -1 ∨ ∃ k, k < xR y ∧ ru = nI k) → 1 ≤ tk → tk ≤ 6 → P (addH y (ru, pl, nI (xC y + tk)))) (hS1 : 1 ≤ xS x) (hS6 : xS x ≤ 6) (hR6 : xR x ≤ 6) (sn i : Nat) (hi : i < 14) {H : Heap} {locs : List Loc} {ls : Array Slot} {cl sl : Nat} (hG : hm_G g ad M s.heap H locs) (hl : lv_has ls 20 [(0, .ref b), (1, .ref (ad (0, 0, 0))), (2, .int (nI (xS x))), (3, .int (nI (xR x))), (4, .int (nI sn)), (5, .int (nI i))]) (hcl : cl ≤ 3000) (hsl : sl ≤ 30000) (kk : ∀ (ad1 : AD) (M1 : CT) (y : XD) (v6 : Int32) (cl1 sl1 : Nat), hasX g ad1 M1 y → P y → xS y = xS x → xR y = xR x → cl1 ≤ cl + 2 → sl1 ≤ sl + 13 → ∀ (H : Heap) (locs : List Loc) (ls : Array Slot), hm_G g ad1 M1 s.heap H locs → lv_has ls 20 [(0, .ref b), (1, .ref (ad1 (0, 0, 0))), (2, .int (nI (xS y))), (3, .int (nI (xR y))), (4, .int (nI sn)), (5, .int (nI i)), (6, .int v6)] → W p l e room_1 s m #[Value.ref b] below meth c H locs cl1 sl1 (lw_Z below #[Value.ref b] s) (F0 m 391 ls [])) : W p l e room_1 s m #[Value.ref b] below meth c H locs cl sl (lw_Z below #[Value.ref b] s) (F0 m 275 ls []) := by
  obtain ⟨S, hr, hlk, hE, hB0, hX0, hL⟩ := id C0
  obtain ⟨hX, hLs, hLr, hLh, h7, hLg, h70, hSe, hRu, hHu, hGr, hS6, hR6, hH5⟩ := id hx
  obtain ⟨fs1, hb1⟩ := hLs.ob
  obtain ⟨fs2, hb2⟩ := hLr.ob
  obtain ⟨fs3, hb3⟩ := hLh.ob
  refine lv_aload_n S.1 S.2.1 dL_law_275 rfl (lv_at hl 0 rfl) ?_
  refine lv_iload S.1 S.2.1 dL_law_276 (lv_at hl 5 rfl) ?_
  refine hm_uSX (As := [.ref b, .int (nI i)]) (rest := []) (st1 := [.int (ceF L xs i)]) S hE hG hX0 (c_L_cell l g ad M b L xs i hL (by omega)) (hm_gS hb_71 hb_72 hb_73 hb_74) hd_L_cell ⟨Nat.le_of_ble_eq_true rfl, Nat.le_of_ble_eq_true rfl⟩ rfl hl.1 rfl (Nat.le_of_ble_eq_true rfl) dL_law_278 ⟨(Nat.le_trans (m := 3000) hcl (Nat.le_of_ble_eq_true rfl)), (Nat.le_trans (m := 30000) hsl (Nat.le_of_ble_eq_true rfl))⟩ rfl (fun H locs hG => ?_)
  refine lv_iconst (v := 3) S.1 S.2.1 dL_law_281 (by decide) ?_
  refine lv_iload S.1 S.2.1 dL_law_282 (lv_at hl 5 rfl) ?_
  refine lv_imul S.1 S.2.1 dL_law_284 ?_
  refine hm_top (z := nI (3 * i)) (pk_mul 3 i) ?_
  obtain ⟨v6, e6⟩ : ∃ q9, q9 = (ceF L xs i) + (nI (3 * i)) := ⟨_, rfl⟩
  refine lv_iadd S.1 S.2.1 dL_law_285 ?_
  refine hm_top (z := v6) (e6.symm) ?_
  refine lv_istore (lv' := [(6, .int v6), (0, .ref b), (1, .ref (ad (0, 0, 0))), (2, .int (nI (xS x))), (3, .int (nI (xR x))), (4, .int (nI sn)), (5, .int (nI i))]) S.1 S.2.1 dL_law_286 hl (by decide) rfl (fun ls hl => ?_)
  refine lv_iload S.1 S.2.1 dL_law_288 (lv_at hl 0 rfl) ?_
  refine lv_iconst (v := 1) S.1 S.2.1 dL_law_290 (by decide) ?_
  refine lv_ishr S.1 S.2.1 dL_law_291 ?_
  refine lv_iload_n S.1 S.2.1 dL_law_292 rfl (lv_at hl 3 rfl) ?_
  refine hm_uS (As := [.int (v6 >>> (1 &&& 31)), .int (nI (xS x))]) (rest := []) (st1 := [.int (nI (bwF (v6 >>> (1 &&& 31)) (xS x)))]) S hE hG (c_L_below l g ad M (v6 >>> (1 &&& 31)) (xS x) (by omega) (by omega)) (hm_gS hb_76 hb_77 hb_73 hb_78) hd_L_below ⟨Nat.le_of_ble_eq_true rfl, Nat.le_of_ble_eq_true rfl⟩ rfl hl.1 rfl (Nat.le_of_ble_eq_true rfl) dL_law_293 ⟨(Nat.le_trans (m := 3000) hcl (Nat.le_of_ble_eq_true rfl)), (Nat.le_trans (m := 30000) hsl (Nat.le_of_ble_eq_true rfl))⟩ rfl (fun H locs hG => ?_)
  refine lv_istore (lv' := [(7, .int (nI (bwF (v6 >>> (1 &&& 31)) (xS x)))), (6, .int v6), (0, .ref b), (1, .ref (ad (0, 0, 0))), (2, .int (nI (xS x))), (3, .int (nI (xR x))), (4, .int (nI sn)), (5, .int (nI i))]) S.1 S.2.1 dL_law_296 hl (by decide) rfl (fun ls hl => ?_)
  have hw9 : (bwF (v6 >>> (1 &&& 31)) (xS x)) < xS x := bwF_lt _ (by omega)
  obtain ⟨wh, ewh⟩ : ∃ q9, q9 = (bwF (v6 >>> (1 &&& 31)) (xS x)) := ⟨_, rfl⟩
  rw [← ewh] at hl hw9
  have hSy : xS x = xS x := rfl
  have hRy : xR x = xR x := rfl
  refine lv_aload_n S.1 S.2.1 dL_law_298 rfl (lv_at hl 3 rfl) ?_
  refine lv_iload S.1 S.2.1 dL_law_299 (lv_at hl 0 rfl) ?_
  refine lv_iload S.1 S.2.1 dL_law_301 (lv_at hl 1 rfl) ?_
  refine lv_iconst (v := 3) S.1 S.2.1 dL_law_303 (by decide) ?_
  refine lv_ishr S.1 S.2.1 dL_law_304 ?_
  refine lv_sipush (v := 300) S.1 S.2.1 dL_law_305 (by decide) ?_
  refine hm_uS (As := [.int (v6 >>> (3 &&& 31)), .int 300]) (rest := [.int (nI wh), .ref (ad (0, 0, 0))]) (st1 := [.int (nI (bwF (v6 >>> (3 &&& 31)) 300)), .int (nI wh), .ref (ad (0, 0, 0))]) S hE hG (c_L_below l g ad M (v6 >>> (3 &&& 31)) 300 (by omega) (by omega)) (hm_gS hb_76 hb_77 hb_73 hb_78) hd_L_below ⟨Nat.le_of_ble_eq_true rfl, Nat.le_of_ble_eq_true rfl⟩ rfl hl.1 rfl (Nat.le_of_ble_eq_true rfl) dL_law_308 ⟨(Nat.le_trans (m := 3000) hcl (Nat.le_of_ble_eq_true rfl)), (Nat.le_trans (m := 30000) hsl (Nat.le_of_ble_eq_true rfl))⟩ rfl (fun H locs hG => ?_)
  obtain ⟨tv, etv⟩ : ∃ q9, q9 = (bwF (v6 >>> (3 &&& 31)) 300) := ⟨_, rfl⟩
  have htv : tv < 300 := by rw [etv]; exact bwF_lt _ (by decide)
  refine hm_xV (As := [.int (nI wh), .int (nI (bwF (v6 >>> (3 &&& 31)) 300))]) (rest := []) (st1 := [.int (takeP (xSe x wh) (nI (bwF (v6 >>> (3 &&& 31)) 300)) 0)]) S hE hG (c_X6_tell l g ad M x hx wh (by omega) (nI (bwF (v6 >>> (3 &&& 31)) 300)) (nI_nlt (b := 0) (Nat.zero_le _) (by omega)) (nI_nlt (a := 1000) (by omega) (by decide))) (hm_gV hb_236 hb_237 hb_238 hb_2 hb_239) hd_X6_tell rfl hX rfl rfl ⟨Nat.le_of_ble_eq_true rfl, Nat.le_of_ble_eq_true rfl⟩ rfl hl.1 rfl (Nat.le_of_ble_eq_true rfl) dL_law_311 ⟨(Nat.le_trans (m := 3000) hcl (Nat.le_of_ble_eq_true rfl)), (Nat.le_trans (m := 30000) hsl (Nat.le_of_ble_eq_true rfl))⟩ rfl (fun M_1 H locs hx hfr1 hG => ?_)
  obtain ⟨y1, hx, hP, hSy, hRy⟩ : ∃ y, hasX g ad M_1 y ∧ P y ∧ xS y = xS x ∧ xR y = xR x := ⟨_, hx, (by have h9 := pT wh tv (by omega) htv; rw [etv] at h9; exact h9), hSy, hRy⟩
  obtain ⟨hX, hLs, hLr, hLh, h7, hLg, h70, hSe, hRu, hHu, hGr, hS6, hR6, hH5⟩ := id hx
  obtain ⟨fs1, hb1⟩ := hLs.ob
  obtain ⟨fs2, hb2⟩ := hLr.ob
  obtain ⟨fs3, hb3⟩ := hLh.ob
  refine lv_pop S.1 S.2.1 dL_law_314 rfl ?_
  refine lv_iload S.1 S.2.1 dL_law_315 (lv_at hl 1 rfl) ?_
  refine lv_bipush (v := 7) S.1 S.2.1 dL_law_317 (by decide) ?_
  refine hm_uS (As := [.int v6, .int 7]) (rest := []) (st1 := [.int (nI (bwF v6 7))]) S hE hG (c_L_below l g ad M_1 v6 7 (by omega) (by omega)) (hm_gS hb_76 hb_77 hb_73 hb_78) hd_L_below ⟨Nat.le_of_ble_eq_true rfl, Nat.le_of_ble_eq_true rfl⟩ rfl hl.1 rfl (Nat.le_of_ble_eq_true rfl) dL_law_319 ⟨(Nat.le_trans (m := 3000) hcl (Nat.le_of_ble_eq_true rfl)), (Nat.le_trans (m := 30000) hsl (Nat.le_of_ble_eq_true rfl))⟩ rfl (fun H locs hG => ?_)
  refine lv_if_ne (tgt := 332) S.1 S.2.1 dL_law_322 (by decide) (fun c322 => ?_) (fun c322 => ?_)
  · skip
    refine lv_iload S.1 S.2.1 dL_law_332 (lv_at hl 1 rfl) ?_
    refine lv_iconst (v := 4) S.1 S.2.1 dL_law_334 (by decide) ?_
    refine lv_ishr S.1 S.2.1 dL_law_335 ?_
    refine lv_iconst (v := 5) S.1 S.2.1 dL_law_336 (by decide) ?_
    refine hm_uS (As := [.int (v6 >>> (4 &&& 31)), .int 5]) (rest := []) (st1 := [.int (nI (bwF (v6 >>> (4 &&& 31)) 5))]) S hE hG (c_L_below l g ad M_1 (v6 >>> (4 &&& 31)) 5 (by omega) (by omega)) (hm_gS hb_76 hb_77 hb_73 hb_78) hd_L_below ⟨Nat.le_of_ble_eq_true rfl, Nat.le_of_ble_eq_true rfl⟩ rfl hl.1 rfl (Nat.le_of_ble_eq_true rfl) dL_law_337 ⟨(Nat.le_trans (m := 3000) hcl (Nat.le_of_ble_eq_true rfl)), (Nat.le_trans (m := 30000) hsl (Nat.le_of_ble_eq_true rfl))⟩ rfl (fun H locs hG => ?_)
    refine lv_if_ne (tgt := 391) S.1 S.2.1 dL_law_340 (by decide) (fun c340 => ?_) (fun c340 => ?_)
    · skip
      rw [← hSy, ← hRy] at hl
      exact kk ad M_1 y1 v6 _ _ hx hP hSy hRy (Nat.le_add_right cl 2) (Nat.le_add_right sl 13) _ _ _ hG (lv_sub hl [2, 3, 4, 5, 6, 7, 1] rfl)
    · skip
      refine lv_aload_n S.1 S.2.1 dL_law_343 rfl (lv_at hl 3 rfl) ?_
      refine lv_iconst (v := 2) S.1 S.2.1 dL_law_344 (by decide) ?_
      refine hm_uV (As := [.int 2]) (rest := []) (st1 := [.int (nI (xH y1))]) S hE hG (c_X6_many l g ad M_1 y1 hx 2 (by omega)) (hm_gV hb_262 hb_263 hb_264 hb_2 hb_265) hd_X6_many rfl hX rfl rfl ⟨Nat.le_of_ble_eq_true rfl, Nat.le_of_ble_eq_true rfl⟩ rfl hl.1 rfl (Nat.le_of_ble_eq_true rfl) dL_law_345 ⟨(Nat.le_trans (m := 3000) hcl (Nat.le_of_ble_eq_true rfl)), (Nat.le_trans (m := 30000) hsl (Nat.le_of_ble_eq_true rfl))⟩ rfl (fun H locs hG => ?_)
      refine lv_iconst (v := 5) S.1 S.2.1 dL_law_348 (by decide) ?_
      refine lv_icmp_ge (tgt := 391) S.1 S.2.1 dL_law_349 (by decide) (fun c349 => ?_) (fun c349 => ?_)
      · skip
        rw [← hSy, ← hRy] at hl
        exact kk ad M_1 y1 v6 _ _ hx hP hSy hRy (Nat.le_add_right cl 2) (Nat.le_add_right sl 13) _ _ _ hG (lv_sub hl [2, 3, 4, 5, 6, 7, 1] rfl)
      · skip
        have h349 : xH y1 < 5 := hm_nleI (a := 5) (by decide) (by omega) c349
        refine lv_aload_n S.1 S.2.1 dL_law_352 rfl (lv_at hl 3 rfl) ?_
        refine lv_iload S.1 S.2.1 dL_law_353 (lv_at hl 1 rfl) ?_
        refine lv_iconst (v := 5) S.1 S.2.1 dL_law_355 (by decide) ?_
        refine lv_ishr S.1 S.2.1 dL_law_356 ?_
        refine lv_iload_n S.1 S.2.1 dL_law_357 rfl (lv_at hl 5 rfl) ?_
        refine lv_iconst (v := 1) S.1 S.2.1 dL_law_358 (by decide) ?_
        refine lv_iadd S.1 S.2.1 dL_law_359 ?_
        refine hm_top (z := nI (xR x + 1)) (nI_1 _) ?_
        refine hm_uS (As := [.int (v6 >>> (5 &&& 31)), .int (nI (xR x + 1))]) (rest := [.ref (ad (0, 0, 0))]) (st1 := [.int (nI (bwF (v6 >>> (5 &&& 31)) (xR x + 1))), .ref (ad (0, 0, 0))]) S hE hG (c_L_below l g ad M_1 (v6 >>> (5 &&& 31)) (xR x + 1) (by omega) (by omega)) (hm_gS hb_76 hb_77 hb_73 hb_78) hd_L_below ⟨Nat.le_of_ble_eq_true rfl, Nat.le_of_ble_eq_true rfl⟩ rfl hl.1 rfl (Nat.le_of_ble_eq_true rfl) dL_law_360 ⟨(Nat.le_trans (m := 3000) hcl (Nat.le_of_ble_eq_true rfl)), (Nat.le_trans (m := 30000) hsl (Nat.le_of_ble_eq_true rfl))⟩ rfl (fun H locs hG => ?_)
        refine lv_iconst (v := 1) S.1 S.2.1 dL_law_363 (by decide) ?_
        refine lv_isub S.1 S.2.1 dL_law_364 ?_
        refine lv_iload S.1 S.2.1 dL_law_365 (lv_at hl 1 rfl) ?_
        refine lv_bipush (v := 6) S.1 S.2.1 dL_law_367 (by decide) ?_
        refine lv_ishr S.1 S.2.1 dL_law_369 ?_
        refine lv_iconst (v := 4) S.1 S.2.1 dL_law_370 (by decide) ?_
        refine hm_uS (As := [.int (v6 >>> (6 &&& 31)), .int 4]) (rest := [.int ((nI (bwF (v6 >>> (5 &&& 31)) (xR x + 1))) - 1), .ref (ad (0, 0, 0))]) (st1 := [.int (nI (bwF (v6 >>> (6 &&& 31)) 4)), .int ((nI (bwF (v6 >>> (5 &&& 31)) (xR x + 1))) - 1), .ref (ad (0, 0, 0))]) S hE hG (c_L_below l g ad M_1 (v6 >>> (6 &&& 31)) 4 (by omega) (by omega)) (hm_gS hb_76 hb_77 hb_73 hb_78) hd_L_below ⟨Nat.le_of_ble_eq_true rfl, Nat.le_of_ble_eq_true rfl⟩ rfl hl.1 rfl (Nat.le_of_ble_eq_true rfl) dL_law_371 ⟨(Nat.le_trans (m := 3000) hcl (Nat.le_of_ble_eq_true rfl)), (Nat.le_trans (m := 30000) hsl (Nat.le_of_ble_eq_true rfl))⟩ rfl (fun H locs hG => ?_)
        refine lv_iconst (v := 1) S.1 S.2.1 dL_law_374 (by decide) ?_
        refine lv_isub S.1 S.2.1 dL_law_375 ?_
        refine lv_iconst (v := 1) S.1 S.2.1 dL_law_376 (by decide) ?_
        refine lv_iload S.1 S.2.1 dL_law_377 (lv_at hl 1 rfl) ?_
        refine lv_iconst (v := 2) S.1 S.2.1 dL_law_379 (by decide) ?_
        refine lv_ishr S.1 S.2.1 dL_law_380 ?_
        refine lv_bipush (v := 6) S.1 S.2.1 dL_law_381 (by decide) ?_
        refine hm_uS (As := [.int (v6 >>> (2 &&& 31)), .int 6]) (rest := [.int 1, .int ((nI (bwF (v6 >>> (6 &&& 31)) 4)) - 1), .int ((nI (bwF (v6 >>> (5 &&& 31)) (xR x + 1))) - 1), .ref (ad (0, 0, 0))]) (st1 := [.int (nI (bwF (v6 >>> (2 &&& 31)) 6)), .int 1, .int ((nI (bwF (v6 >>> (6 &&& 31)) 4)) - 1), .int ((nI (bwF (v6 >>> (5 &&& 31)) (xR x + 1))) - 1), .ref (ad (0, 0, 0))]) S hE hG (c_L_below l g ad M_1 (v6 >>> (2 &&& 31)) 6 (by omega) (by omega)) (hm_gS hb_76 hb_77 hb_73 hb_78) hd_L_below ⟨Nat.le_of_ble_eq_true rfl, Nat.le_of_ble_eq_true rfl⟩ rfl hl.1 rfl (Nat.le_of_ble_eq_true rfl) dL_law_383 ⟨(Nat.le_trans (m := 3000) hcl (Nat.le_of_ble_eq_true rfl)), (Nat.le_trans (m := 30000) hsl (Nat.le_of_ble_eq_true rfl))⟩ rfl (fun H locs hG => ?_)
        refine lv_iadd S.1 S.2.1 dL_law_386 ?_
        refine hm_top (z := nI (1 + (bwF (v6 >>> (2 &&& 31)) 6))) (nI_add 1 _) ?_
        have hk0 : (bwF (v6 >>> (5 &&& 31)) (xR x + 1)) < xR x + 1 := bwF_lt _ (by omega)
        have hp0 := pl_in (k := (bwF (v6 >>> (6 &&& 31)) 4)) (bwF_lt _ (by decide))
        have ht0 : (1 + (bwF (v6 >>> (2 &&& 31)) 6)) ≤ 6 := by have := bwF_lt (v6 >>> (2 &&& 31)) (n := 6) (by decide); omega
        have hru := ru_or (n := xR x) hk0
        refine hm_callV (As := [.int ((nI (bwF (v6 >>> (5 &&& 31)) (xR x + 1))) - 1), .int ((nI (bwF (v6 >>> (6 &&& 31)) 4)) - 1), .int (nI (1 + (bwF (v6 >>> (2 &&& 31)) 6)))]) (rest := []) (rm := rm_X6_hush) S hE hG (c_X6_hush l g ad M_1 y1 hx h349 ((nI (bwF (v6 >>> (5 &&& 31)) (xR x + 1))) - 1) ((nI (bwF (v6 >>> (6 &&& 31)) 4)) - 1) (1 + (bwF (v6 >>> (2 &&& 31)) 6)) (by rw [hRy]; exact hru) hp0.1 hp0.2 (by omega) (by omega)) (hm_gV hb_316 hb_317 hb_318 hb_2 hb_319) ⟨rfl, hd_X6_hush⟩ hX rfl rfl ⟨Nat.le_of_ble_eq_true rfl, Nat.le_of_ble_eq_true rfl⟩ rfl hl.1 rfl (Nat.le_of_ble_eq_true rfl) dL_law_387 ⟨(Nat.le_trans (m := 3002) (Nat.add_le_add_right hcl 2) (Nat.le_of_ble_eq_true rfl)), (Nat.le_trans (m := 30013) (Nat.add_le_add_right hsl 13) (Nat.le_of_ble_eq_true rfl))⟩ (fun v9 ad_3 M_2 H locs hp9 hG => ?_)
        obtain ⟨rfl, hx, had8, hfr8⟩ := hp9
        refine hm_st (st' := [.int (nI (xH y1))]) rfl ?_
        rw [← had8] at hl
        obtain ⟨y2, hx, hP, hSy, hRy⟩ : ∃ y, hasX g ad_3 M_2 y ∧ P y ∧ xS y = xS x ∧ xR y = xR x := ⟨_, hx, (pH _ _ _ (1 + (bwF (v6 >>> (2 &&& 31)) 6)) hP h349 (by rw [hRy]; exact hru) (by omega) ht0), hSy, hRy⟩
        obtain ⟨hX, hLs, hLr, hLh, h7, hLg, h70, hSe, hRu, hHu, hGr, hS6, hR6, hH5⟩ := id hx
        obtain ⟨fs1, hb1⟩ := hLs.ob
        obtain ⟨fs2, hb2⟩ := hLr.ob
        obtain ⟨fs3, hb3⟩ := hLh.ob
        refine lv_pop S.1 S.2.1 dL_law_390 rfl ?_
        rw [← hSy, ← hRy] at hl
        exact kk ad_3 M_2 y2 v6 _ _ hx hP hSy hRy (Nat.le_refl (cl + 2)) (Nat.le_refl (sl + 13)) _ _ _ hG (lv_sub hl [2, 3, 4, 5, 6, 7, 1] rfl)
  · skip
    refine lv_aload_n S.1 S.2.1 dL_law_325 rfl (lv_at hl 3 rfl) ?_
    refine lv_iload S.1 S.2.1 dL_law_326 (lv_at hl 0 rfl) ?_
    refine hm_xV (As := [.int (nI wh)]) (rest := []) (st1 := [.int (sPr (xSe y1 wh) 0)]) S hE hG (c_X6_reset l g ad M_1 y1 hx wh (by omega)) (hm_gV hb_254 hb_255 hb_256 hb_2 hb_257) hd_X6_reset rfl hX rfl rfl ⟨Nat.le_of_ble_eq_true rfl, Nat.le_of_ble_eq_true rfl⟩ rfl hl.1 rfl (Nat.le_of_ble_eq_true rfl) dL_law_328 ⟨(Nat.le_trans (m := 3000) hcl (Nat.le_of_ble_eq_true rfl)), (Nat.le_trans (m := 30000) hsl (Nat.le_of_ble_eq_true rfl))⟩ rfl (fun M_4 H locs hx hfr1 hG => ?_)
    obtain ⟨y3, hx, hP, hSy, hRy⟩ : ∃ y, hasX g ad M_4 y ∧ P y ∧ xS y = xS x ∧ xR y = xR x := ⟨_, hx, (pR _ wh hP (by omega)), hSy, hRy⟩
    obtain ⟨hX, hLs, hLr, hLh, h7, hLg, h70, hSe, hRu, hHu, hGr, hS6, hR6, hH5⟩ := id hx
    obtain ⟨fs1, hb1⟩ := hLs.ob
    obtain ⟨fs2, hb2⟩ := hLr.ob
    obtain ⟨fs3, hb3⟩ := hLh.ob
    refine lv_pop S.1 S.2.1 dL_law_331 rfl ?_
    refine lv_iload S.1 S.2.1 dL_law_332 (lv_at hl 1 rfl) ?_
    refine lv_iconst (v := 4) S.1 S.2.1 dL_law_334 (by decide) ?_
    refine lv_ishr S.1 S.2.1 dL_law_335 ?_
    refine lv_iconst (v := 5) S.1 S.2.1 dL_law_336 (by decide) ?_
    refine hm_uS (As := [.int (v6 >>> (4 &&& 31)), .int 5]) (rest := []) (st1 := [.int (nI (bwF (v6 >>> (4 &&& 31)) 5))]) S hE hG (c_L_below l g ad M_4 (v6 >>> (4 &&& 31)) 5 (by omega) (by omega)) (hm_gS hb_76 hb_77 hb_73 hb_78) hd_L_below ⟨Nat.le_of_ble_eq_true rfl, Nat.le_of_ble_eq_true rfl⟩ rfl hl.1 rfl (Nat.le_of_ble_eq_true rfl) dL_law_337 ⟨(Nat.le_trans (m := 3000) hcl (Nat.le_of_ble_eq_true rfl)), (Nat.le_trans (m := 30000) hsl (Nat.le_of_ble_eq_true rfl))⟩ rfl (fun H locs hG => ?_)
    refine lv_if_ne (tgt := 391) S.1 S.2.1 dL_law_340 (by decide) (fun c340 => ?_) (fun c340 => ?_)
    · skip
      rw [← hSy, ← hRy] at hl
      exact kk ad M_4 y3 v6 _ _ hx hP hSy hRy (Nat.le_add_right cl 2) (Nat.le_add_right sl 13) _ _ _ hG (lv_sub hl [2, 3, 4, 5, 6, 7, 1] rfl)
    · skip
      refine lv_aload_n S.1 S.2.1 dL_law_343 rfl (lv_at hl 3 rfl) ?_
      refine lv_iconst (v := 2) S.1 S.2.1 dL_law_344 (by decide) ?_
      refine hm_uV (As := [.int 2]) (rest := []) (st1 := [.int (nI (xH y3))]) S hE hG (c_X6_many l g ad M_4 y3 hx 2 (by omega)) (hm_gV hb_262 hb_263 hb_264 hb_2 hb_265) hd_X6_many rfl hX rfl rfl ⟨Nat.le_of_ble_eq_true rfl, Nat.le_of_ble_eq_true rfl⟩ rfl hl.1 rfl (Nat.le_of_ble_eq_true rfl) dL_law_345 ⟨(Nat.le_trans (m := 3000) hcl (Nat.le_of_ble_eq_true rfl)), (Nat.le_trans (m := 30000) hsl (Nat.le_of_ble_eq_true rfl))⟩ rfl (fun H locs hG => ?_)
      refine lv_iconst (v := 5) S.1 S.2.1 dL_law_348 (by decide) ?_
      refine lv_icmp_ge (tgt := 391) S.1 S.2.1 dL_law_349 (by decide) (fun c349 => ?_) (fun c349 => ?_)
      · skip
        rw [← hSy, ← hRy] at hl
        exact kk ad M_4 y3 v6 _ _ hx hP hSy hRy (Nat.le_add_right cl 2) (Nat.le_add_right sl 13) _ _ _ hG (lv_sub hl [2, 3, 4, 5, 6, 7, 1] rfl)
      · skip
        have h349 : xH y3 < 5 := hm_nleI (a := 5) (by decide) (by omega) c349
        refine lv_aload_n S.1 S.2.1 dL_law_352 rfl (lv_at hl 3 rfl) ?_
        refine lv_iload S.1 S.2.1 dL_law_353 (lv_at hl 1 rfl) ?_
        refine lv_iconst (v := 5) S.1 S.2.1 dL_law_355 (by decide) ?_
        refine lv_ishr S.1 S.2.1 dL_law_356 ?_
        refine lv_iload_n S.1 S.2.1 dL_law_357 rfl (lv_at hl 5 rfl) ?_
        refine lv_iconst (v := 1) S.1 S.2.1 dL_law_358 (by decide) ?_
        refine lv_iadd S.1 S.2.1 dL_law_359 ?_
        refine hm_top (z := nI (xR x + 1)) (nI_1 _) ?_
        refine hm_uS (As := [.int (v6 >>> (5 &&& 31)), .int (nI (xR x + 1))]) (rest := [.ref (ad (0, 0, 0))]) (st1 := [.int (nI (bwF (v6 >>> (5 &&& 31)) (xR x + 1))), .ref (ad (0, 0, 0))]) S hE hG (c_L_below l g ad M_4 (v6 >>> (5 &&& 31)) (xR x + 1) (by omega) (by omega)) (hm_gS hb_76 hb_77 hb_73 hb_78) hd_L_below ⟨Nat.le_of_ble_eq_true rfl, Nat.le_of_ble_eq_true rfl⟩ rfl hl.1 rfl (Nat.le_of_ble_eq_true rfl) dL_law_360 ⟨(Nat.le_trans (m := 3000) hcl (Nat.le_of_ble_eq_true rfl)), (Nat.le_trans (m := 30000) hsl (Nat.le_of_ble_eq_true rfl))⟩ rfl (fun H locs hG => ?_)
        refine lv_iconst (v := 1) S.1 S.2.1 dL_law_363 (by decide) ?_
        refine lv_isub S.1 S.2.1 dL_law_364 ?_
        refine lv_iload S.1 S.2.1 dL_law_365 (lv_at hl 1 rfl) ?_
        refine lv_bipush (v := 6) S.1 S.2.1 dL_law_367 (by decide) ?_
        refine lv_ishr S.1 S.2.1 dL_law_369 ?_
        refine lv_iconst (v := 4) S.1 S.2.1 dL_law_370 (by decide) ?_
        refine hm_uS (As := [.int (v6 >>> (6 &&& 31)), .int 4]) (rest := [.int ((nI (bwF (v6 >>> (5 &&& 31)) (xR x + 1))) - 1), .ref (ad (0, 0, 0))]) (st1 := [.int (nI (bwF (v6 >>> (6 &&& 31)) 4)), .int ((nI (bwF (v6 >>> (5 &&& 31)) (xR x + 1))) - 1), .ref (ad (0, 0, 0))]) S hE hG (c_L_below l g ad M_4 (v6 >>> (6 &&& 31)) 4 (by omega) (by omega)) (hm_gS hb_76 hb_77 hb_73 hb_78) hd_L_below ⟨Nat.le_of_ble_eq_true rfl, Nat.le_of_ble_eq_true rfl⟩ rfl hl.1 rfl (Nat.le_of_ble_eq_true rfl) dL_law_371 ⟨(Nat.le_trans (m := 3000) hcl (Nat.le_of_ble_eq_true rfl)), (Nat.le_trans (m := 30000) hsl (Nat.le_of_ble_eq_true rfl))⟩ rfl (fun H locs hG => ?_)
        refine lv_iconst (v := 1) S.1 S.2.1 dL_law_374 (by decide) ?_
        refine lv_isub S.1 S.2.1 dL_law_375 ?_
        refine lv_iconst (v := 1) S.1 S.2.1 dL_law_376 (by decide) ?_
        refine lv_iload S.1 S.2.1 dL_law_377 (lv_at hl 1 rfl) ?_
        refine lv_iconst (v := 2) S.1 S.2.1 dL_law_379 (by decide) ?_
        refine lv_ishr S.1 S.2.1 dL_law_380 ?_
        refine lv_bipush (v := 6) S.1 S.2.1 dL_law_381 (by decide) ?_
        refine hm_uS (As := [.int (v6 >>> (2 &&& 31)), .int 6]) (rest := [.int 1, .int ((nI (bwF (v6 >>> (6 &&& 31)) 4)) - 1), .int ((nI (bwF (v6 >>> (5 &&& 31)) (xR x + 1))) - 1), .ref (ad (0, 0, 0))]) (st1 := [.int (nI (bwF (v6 >>> (2 &&& 31)) 6)), .int 1, .int ((nI (bwF (v6 >>> (6 &&& 31)) 4)) - 1), .int ((nI (bwF (v6 >>> (5 &&& 31)) (xR x + 1))) - 1), .ref (ad (0, 0, 0))]) S hE hG (c_L_below l g ad M_4 (v6 >>> (2 &&& 31)) 6 (by omega) (by omega)) (hm_gS hb_76 hb_77 hb_73 hb_78) hd_L_below ⟨Nat.le_of_ble_eq_true rfl, Nat.le_of_ble_eq_true rfl⟩ rfl hl.1 rfl (Nat.le_of_ble_eq_true rfl) dL_law_383 ⟨(Nat.le_trans (m := 3000) hcl (Nat.le_of_ble_eq_true rfl)), (Nat.le_trans (m := 30000) hsl (Nat.le_of_ble_eq_true rfl))⟩ rfl (fun H locs hG => ?_)
        refine lv_iadd S.1 S.2.1 dL_law_386 ?_
        refine hm_top (z := nI (1 + (bwF (v6 >>> (2 &&& 31)) 6))) (nI_add 1 _) ?_
        have hk0 : (bwF (v6 >>> (5 &&& 31)) (xR x + 1)) < xR x + 1 := bwF_lt _ (by omega)
        have hp0 := pl_in (k := (bwF (v6 >>> (6 &&& 31)) 4)) (bwF_lt _ (by decide))
        have ht0 : (1 + (bwF (v6 >>> (2 &&& 31)) 6)) ≤ 6 := by have := bwF_lt (v6 >>> (2 &&& 31)) (n := 6) (by decide); omega
        have hru := ru_or (n := xR x) hk0
        refine hm_callV (As := [.int ((nI (bwF (v6 >>> (5 &&& 31)) (xR x + 1))) - 1), .int ((nI (bwF (v6 >>> (6 &&& 31)) 4)) - 1), .int (nI (1 + (bwF (v6 >>> (2 &&& 31)) 6)))]) (rest := []) (rm := rm_X6_hush) S hE hG (c_X6_hush l g ad M_4 y3 hx h349 ((nI (bwF (v6 >>> (5 &&& 31)) (xR x + 1))) - 1) ((nI (bwF (v6 >>> (6 &&& 31)) 4)) - 1) (1 + (bwF (v6 >>> (2 &&& 31)) 6)) (by rw [hRy]; exact hru) hp0.1 hp0.2 (by omega) (by omega)) (hm_gV hb_316 hb_317 hb_318 hb_2 hb_319) ⟨rfl, hd_X6_hush⟩ hX rfl rfl ⟨Nat.le_of_ble_eq_true rfl, Nat.le_of_ble_eq_true rfl⟩ rfl hl.1 rfl (Nat.le_of_ble_eq_true rfl) dL_law_387 ⟨(Nat.le_trans (m := 3002) (Nat.add_le_add_right hcl 2) (Nat.le_of_ble_eq_true rfl)), (Nat.le_trans (m := 30013) (Nat.add_le_add_right hsl 13) (Nat.le_of_ble_eq_true rfl))⟩ (fun v9 ad_6 M_5 H locs hp9 hG => ?_)
        obtain ⟨rfl, hx, had8, hfr8⟩ := hp9
        refine hm_st (st' := [.int (nI (xH y3))]) rfl ?_
        rw [← had8] at hl
        obtain ⟨y4, hx, hP, hSy, hRy⟩ : ∃ y, hasX g ad_6 M_5 y ∧ P y ∧ xS y = xS x ∧ xR y = xR x := ⟨_, hx, (pH _ _ _ (1 + (bwF (v6 >>> (2 &&& 31)) 6)) hP h349 (by rw [hRy]; exact hru) (by omega) ht0), hSy, hRy⟩
        obtain ⟨hX, hLs, hLr, hLh, h7, hLg, h70, hSe, hRu, hHu, hGr, hS6, hR6, hH5⟩ := id hx
        obtain ⟨fs1, hb1⟩ := hLs.ob
        obtain ⟨fs2, hb2⟩ := hLr.ob
        obtain ⟨fs3, hb3⟩ := hLh.ob
        refine lv_pop S.1 S.2.1 dL_law_390 rfl ?_
        rw [← hSy, ← hRy] at hl
        exact kk ad_6 M_5 y4 v6 _ _ hx hP hSy hRy (Nat.le_refl (cl + 2)) (Nat.le_refl (sl + 13)) _ _ _ hG (lv_sub hl [2, 3, 4, 5, 6, 7, 1] rfl)

set_option maxHeartbeats 4000000 in
set_option maxRecDepth 100000 in
theorem seg_tck {p : Program} {l : Launch} {e : Env} {s : State} {m : MethodId} {below : List Frame} {meth : Method} {c : Code} {b L : Nat} {xs : Nat → Int32} {g : GV} (C0 : LC p s m meth c b L xs g) {ad : AD} {M : CT} {x : XD} (hx : hasX g ad M x) (hg3 : xG x < 3) (sn i : Nat) (v6 : Int32) {H : Heap} {locs : List Loc} {ls : Array Slot} {cl sl : Nat} (hG : hm_G g ad M s.heap H locs) (hl : lv_has ls 20 [(0, .ref b), (1, .ref (ad (0, 0, 0))), (2, .int (nI (xS x))), (3, .int (nI (xR x))), (4, .int (nI sn)), (5, .int (nI i)), (6, .int v6)]) (hcl : cl ≤ 3000) (hsl : sl ≤ 30000) (kk : ∀ (M1 : CT) (t : Nat), 1 ≤ t → t ≤ 4 → hasX g ad M1 (tkX x t) → ∀ (H : Heap) (locs : List Loc) (ls : Array Slot), hm_G g ad M1 s.heap H locs → lv_has ls 20 [(0, .ref b), (1, .ref (ad (0, 0, 0))), (2, .int (nI (xS x))), (3, .int (nI (xR x))), (4, .int (nI (sn + tkS x t))), (5, .int (nI i)), (8, .int (nI t)), (9, .int (nI (biX x t))), (10, .int (nI (tkS x t)))] → W p l e room_1 s m #[Value.ref b] below meth c H locs cl sl (lw_Z below #[Value.ref b] s) (F0 m 426 ls [])) : W p l e room_1 s m #[Value.ref b] below meth c H locs cl sl (lw_Z below #[Value.ref b] s) (F0 m 391 ls []) := by
  obtain ⟨S, hr, hlk, hE, hB0, hX0, hL⟩ := id C0
  obtain ⟨hX, hLs, hLr, hLh, h7, hLg, h70, hSe, hRu, hHu, hGr, hS6, hR6, hH5⟩ := id hx
  obtain ⟨fs1, hb1⟩ := hLs.ob
  obtain ⟨fs2, hb2⟩ := hLr.ob
  obtain ⟨fs3, hb3⟩ := hLh.ob
  refine lv_iconst (v := 1) S.1 S.2.1 dL_law_391 (by decide) ?_
  refine lv_iload S.1 S.2.1 dL_law_392 (lv_at hl 6 rfl) ?_
  refine lv_iconst (v := 5) S.1 S.2.1 dL_law_394 (by decide) ?_
  refine lv_ishr S.1 S.2.1 dL_law_395 ?_
  refine lv_iconst (v := 4) S.1 S.2.1 dL_law_396 (by decide) ?_
  refine hm_uS (As := [.int (v6 >>> (5 &&& 31)), .int 4]) (rest := [.int 1]) (st1 := [.int (nI (bwF (v6 >>> (5 &&& 31)) 4)), .int 1]) S hE hG (c_L_below l g ad M (v6 >>> (5 &&& 31)) 4 (by omega) (by omega)) (hm_gS hb_76 hb_77 hb_73 hb_78) hd_L_below ⟨Nat.le_of_ble_eq_true rfl, Nat.le_of_ble_eq_true rfl⟩ rfl hl.1 rfl (Nat.le_of_ble_eq_true rfl) dL_law_397 ⟨(Nat.le_trans (m := 3000) hcl (Nat.le_of_ble_eq_true rfl)), (Nat.le_trans (m := 30000) hsl (Nat.le_of_ble_eq_true rfl))⟩ rfl (fun H locs hG => ?_)
  obtain ⟨t, et⟩ : ∃ q9, q9 = 1 + (bwF (v6 >>> (5 &&& 31)) 4) := ⟨_, rfl⟩
  have ht4 : t ≤ 4 := by rw [et]; have := bwF_lt (v6 >>> (5 &&& 31)) (n := 4) (by decide); omega
  have ht1 : 1 ≤ t := by rw [et]; omega
  refine lv_iadd S.1 S.2.1 dL_law_400 ?_
  refine hm_top (z := nI t) (by rw [et]; exact nI_add 1 _) ?_
  refine lv_istore (lv' := [(8, .int (nI t)), (0, .ref b), (1, .ref (ad (0, 0, 0))), (2, .int (nI (xS x))), (3, .int (nI (xR x))), (4, .int (nI sn)), (5, .int (nI i)), (6, .int v6)]) S.1 S.2.1 dL_law_401 hl (by decide) rfl (fun ls hl => ?_)
  refine lv_aload_n S.1 S.2.1 dL_law_403 rfl (lv_at hl 2 rfl) ?_
  refine lv_iload S.1 S.2.1 dL_law_404 (lv_at hl 0 rfl) ?_
  refine hm_xV (As := [.int (nI t)]) (rest := []) (st1 := [.int (nI (biX x t))]) S hE hG (c_X6_burningIn l g ad M x hx t ht1 (by omega)) (hm_gV hb_326 hb_327 hb_328 hb_2 hb_329) hd_X6_burningIn rfl hX rfl rfl ⟨Nat.le_of_ble_eq_true rfl, Nat.le_of_ble_eq_true rfl⟩ rfl hl.1 rfl (Nat.le_of_ble_eq_true rfl) dL_law_406 ⟨(Nat.le_trans (m := 3000) hcl (Nat.le_of_ble_eq_true rfl)), (Nat.le_trans (m := 30000) hsl (Nat.le_of_ble_eq_true rfl))⟩ rfl (fun M_1 H locs hx hfr1 hG => ?_)
  obtain ⟨hX, hLs, hLr, hLh, h7, hLg, h70, hSe, hRu, hHu, hGr, hS6, hR6, hH5⟩ := id hx
  obtain ⟨fs1, hb1⟩ := hLs.ob
  obtain ⟨fs2, hb2⟩ := hLr.ob
  obtain ⟨fs3, hb3⟩ := hLh.ob
  refine lv_istore (lv' := [(9, .int (nI (biX x t))), (8, .int (nI t)), (0, .ref b), (1, .ref (ad (0, 0, 0))), (2, .int (nI (xS x))), (3, .int (nI (xR x))), (4, .int (nI sn)), (5, .int (nI i)), (6, .int v6)]) S.1 S.2.1 dL_law_409 hl (by decide) rfl (fun ls hl => ?_)
  refine lv_aload_n S.1 S.2.1 dL_law_411 rfl (lv_at hl 3 rfl) ?_
  refine lv_iload S.1 S.2.1 dL_law_412 (lv_at hl 1 rfl) ?_
  refine hm_xV (As := [.int (nI t)]) (rest := []) (st1 := [.int (nI (tkS x t))]) S hE hG (c_X6_tick l g ad M_1 x hx t hg3 ht1 (by omega)) (hm_gV hb_403 hb_404 hb_405 hb_2 hb_406) hd_X6_tick rfl hX rfl rfl ⟨Nat.le_of_ble_eq_true rfl, Nat.le_of_ble_eq_true rfl⟩ rfl hl.1 rfl (Nat.le_of_ble_eq_true rfl) dL_law_414 ⟨(Nat.le_trans (m := 3000) hcl (Nat.le_of_ble_eq_true rfl)), (Nat.le_trans (m := 30000) hsl (Nat.le_of_ble_eq_true rfl))⟩ rfl (fun M_2 H locs hx hfr1 hG => ?_)
  refine lv_istore (lv' := [(10, .int (nI (tkS x t))), (9, .int (nI (biX x t))), (8, .int (nI t)), (0, .ref b), (1, .ref (ad (0, 0, 0))), (2, .int (nI (xS x))), (3, .int (nI (xR x))), (4, .int (nI sn)), (5, .int (nI i)), (6, .int v6)]) S.1 S.2.1 dL_law_417 hl (by decide) rfl (fun ls hl => ?_)
  refine lv_iload S.1 S.2.1 dL_law_419 (lv_at hl 7 rfl) ?_
  refine lv_iload S.1 S.2.1 dL_law_421 (lv_at hl 0 rfl) ?_
  refine lv_iadd S.1 S.2.1 dL_law_423 ?_
  refine hm_top (z := nI (sn + tkS x t)) (nI_add _ _) ?_
  refine lv_istore (lv' := [(4, .int (nI (sn + tkS x t))), (10, .int (nI (tkS x t))), (9, .int (nI (biX x t))), (8, .int (nI t)), (0, .ref b), (1, .ref (ad (0, 0, 0))), (2, .int (nI (xS x))), (3, .int (nI (xR x))), (5, .int (nI i)), (6, .int v6)]) S.1 S.2.1 dL_law_424 hl (by decide) rfl (fun ls hl => ?_)
  exact kk M_2 t ht1 ht4 hx _ _ _ hG (lv_sub hl [4, 5, 6, 7, 0, 8, 3, 2, 1] rfl)
