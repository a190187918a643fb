def LC (p : Program) (s : State) (m : MethodId) (meth : Method) (c : Code) (b L : Nat) (xs : Nat → Int32) (g : GV) : Prop := CallFix p m c cL_law 20 s #[.ref b] hm_B RL ∧ meth.sig.returnType = ret ∧ meth.locks = false ∧ hm_E g s s.heap ∧ hm_b g 0 = s.heap.size ∧ hm_sc g b L xs s ∧ L ≤ 260
theorem lgc_self (d : Int64) : lg_cmp d d = 0 := by simp [lg_cmp]
theorem cntB_le (p : Nat → Bool) : ∀ n, cntB p n ≤ n := by
  intro n
  induction n with
  | zero => exact Nat.le_refl _
  | succ n ih => rw [cntB]; split <;> omega
theorem sumN_le {f : Nat → Nat} {B : Nat} (h : ∀ k, f k ≤ B) : ∀ n, sumN f n ≤ B * n := by
  intro n
  induction n with
  | zero => exact Nat.le_refl _
  | succ n ih =>
    have := h n
    rw [sumN, Nat.mul_succ]
    omega
theorem clX_le (x : XD) (wo : Int32) : clX x wo ≤ 12 * xR x := sumN_le (fun _ => cntB_le _ _) _
theorem ccX_le (x : XD) (h : HuD) : ccX x h ≤ 12 * xR x := sumN_le (fun _ => cntB_le _ _) _
theorem caX_le (x : XD) (le : Int32) : caX x le ≤ 12 * xR x := sumN_le (fun _ => caF_le _ _ _) _

set_option maxHeartbeats 4000000 in
set_option maxRecDepth 100000 in
theorem seg_end {p : Program} {l : Launch} {e : Env} {s : State} {m : MethodId} {below : List Frame} {meth : Method} {c : Code} {b L : Nat} {xs : Nat → Int32} {g : GV} (C0 : LC p s m meth c b L xs g) {ad : AD} {M : CT} {x : XD} (hx : hasX g ad M x) (hR1 : 1 ≤ xR x) {H : Heap} {locs : List Loc} {ls : Array Slot} {cl sl : Nat} (hG : hm_G g ad M s.heap H locs) (hl : lv_has ls 20 [(1, .ref (ad (0, 0, 0))), (3, .int (nI (xR x)))]) (hcl : cl ≤ 3000) (hsl : sl ≤ 30000)  : W p l e room_1 s m #[Value.ref b] below meth c H locs cl sl (lw_Z below #[Value.ref b] s) (F0 m 1213 ls []) := by
  obtain ⟨S, hr, hlk, hE, hB0, hX0, hL⟩ := id C0
  obtain ⟨hX, hLs, hLr, hLh, h7, hLg, h70, hSe, hRu, hHu, hGr, hS6, hR6, hH5⟩ := id hx
  obtain ⟨fs1, hb1⟩ := hLs.ob
  obtain ⟨fs2, hb2⟩ := hLr.ob
  obtain ⟨fs3, hb3⟩ := hLh.ob
  refine lv_aload_n S.1 S.2.1 dL_law_1213 rfl (lv_at hl 0 rfl) ?_
  refine hm_callV (As := []) (rest := []) (rm := rm_X6_dropRule) S hE hG (c_X6_dropRule l g ad M x hx hR1) (hm_gV hb_592 hb_593 hb_594 hb_2 hb_595) ⟨rfl, hd_X6_dropRule⟩ hX rfl rfl ⟨Nat.le_of_ble_eq_true rfl, Nat.le_of_ble_eq_true rfl⟩ rfl hl.1 rfl (Nat.le_of_ble_eq_true rfl) dL_law_1214 ⟨(Nat.le_trans (m := 3000) hcl (Nat.le_of_ble_eq_true rfl)), (Nat.le_trans (m := 30000) hsl (Nat.le_of_ble_eq_true rfl))⟩ (fun v9 ad_2 M_1 H locs hp9 hG => ?_)
  obtain rfl := hp9
  refine hm_st (st' := [.int (nI (xR x - 1))]) rfl ?_
  refine lv_iload_n S.1 S.2.1 dL_law_1217 rfl (lv_at hl 1 rfl) ?_
  refine lv_iconst (v := 1) S.1 S.2.1 dL_law_1218 (by decide) ?_
  refine lv_isub S.1 S.2.1 dL_law_1219 ?_
  refine hm_top (z := nI (xR x - 1)) (pk_sub (b := 1) hR1) ?_
  refine lv_icmp_ne (tgt := 1227) S.1 S.2.1 dL_law_1220 (by decide) (fun h9 => absurd (rfl) h9) (fun _ => ?_)
  refine lv_iconst (v := 1) S.1 S.2.1 dL_law_1223 (by decide) ?_
  refine lv_goto (tgt := 1228) S.1 S.2.1 dL_law_1224 (by decide) ?_
  refine va_forget (fun q hq => by have := hG.2.2.2 q hq; rw [← hB0]; exact this) ?_
  refine W.widen (k := room_1.cells) (n := room_1.slots) (Nat.le_trans hcl (by decide)) (Nat.le_trans hsl (by decide)) ?_
  exact lw_ret S.1 S.2.1 hr hlk dL_law_1228

set_option maxHeartbeats 4000000 in
set_option maxRecDepth 100000 in
theorem seg_dig {p : Program} {l : Launch} {e : Env} {s : State} {m : MethodId} {below : List Frame} {meth : Method} {c : Code} {b L : Nat} {xs : Nat → Int32} {g : GV} (C0 : LC p s m meth c b L xs g) {ad : AD} {M : CT} {x : XD} (hx : hasX g ad M x) (w0 : stOK x) (w1 : liOK x) (sn i : Nat) {H : Heap} {locs : List Loc} {ls : Array Slot} {cl sl : Nat} (hG : hm_G g ad M s.heap H locs) (hl : lv_has ls 20 [(0, .ref b), (1, .ref (ad (0, 0, 0))), (2, .int (nI (xS x))), (3, .int (nI (xR x))), (4, .int (nI sn)), (5, .int (nI i)), (11, .long (dgX x))]) (hcl : cl ≤ 3000) (hsl : sl ≤ 30000) (kk : ∀ (H : Heap) (locs : List Loc) (ls : Array Slot), hm_G g ad M s.heap H locs → lv_has ls 20 [(0, .ref b), (1, .ref (ad (0, 0, 0))), (2, .int (nI (xS x))), (3, .int (nI (xR x))), (4, .int (nI sn)), (5, .int (nI i))] → W p l e room_1 s m #[Value.ref b] below meth c H locs cl sl (lw_Z below #[Value.ref b] s) (F0 m 1207 ls [])) : W p l e room_1 s m #[Value.ref b] below meth c H locs cl sl (lw_Z below #[Value.ref b] s) (F0 m 1195 ls []) := by
  obtain ⟨S, hr, hlk, hE, hB0, hX0, hL⟩ := id C0
  obtain ⟨hX, hLs, hLr, hLh, h7, hLg, h70, hSe, hRu, hHu, hGr, hS6, hR6, hH5⟩ := id hx
  obtain ⟨fs1, hb1⟩ := hLs.ob
  obtain ⟨fs2, hb2⟩ := hLr.ob
  obtain ⟨fs3, hb3⟩ := hLh.ob
  refine lv_aload_n S.1 S.2.1 dL_law_1195 rfl (lv_at hl 1 rfl) ?_
  refine hm_uV (As := []) (rest := []) (st1 := [.long (dgX x)]) S hE hG (c_X6_digest l g ad M x hx w0 w1) (hm_gV hb_485 hb_486 hb_487 hb_2 hb_488) hd_X6_digest rfl hX rfl rfl ⟨Nat.le_of_ble_eq_true rfl, Nat.le_of_ble_eq_true rfl⟩ rfl hl.1 rfl (Nat.le_of_ble_eq_true rfl) dL_law_1196 ⟨(Nat.le_trans (m := 3000) hcl (Nat.le_of_ble_eq_true rfl)), (Nat.le_trans (m := 30000) hsl (Nat.le_of_ble_eq_true rfl))⟩ rfl (fun H locs hG => ?_)
  refine lv_lload S.1 S.2.1 dL_law_1199 (lv_at hl 6 rfl) ?_
  refine W.lcmp S.1 S.2.1 dL_law_1201 ?_
  refine lv_if_eq (tgt := 1207) S.1 S.2.1 dL_law_1202 (by decide) (fun _ => ?_) (fun h9 => absurd (lgc_self _) h9)
  exact kk _ _ _ hG (lv_sub hl [0, 1, 2, 3, 4, 5] rfl)

set_option maxHeartbeats 4000000 in
set_option maxRecDepth 100000 in
theorem seg_not {p : Program} {l : Launch} {e : Env} {s : State} {m : MethodId} {below : List Frame} {meth : Method} {c : Code} {b L : Nat} {xs : Nat → Int32} {g : GV} (C0 : LC p s m meth c b L xs g) {ad : AD} {M : CT} {x : XD} (hx : hasX g ad M x) (sn i : Nat) (hsn : sn < 10000) (hNe : lHe (xL x) = min 30 sn) (hN : ∀ k, k + 1 < min 30 sn → ¬ foF (xL x) k 0 < foF (xL x) (k + 1) 0 ∧ (0 < foF (xL x) k 2 ↔ 0 ≤ foF (xL x) k 3)) {H : Heap} {locs : List Loc} {ls : Array Slot} {cl sl : Nat} (hG : hm_G g ad M s.heap H locs) (hl : lv_has ls 20 [(0, .ref b), (1, .ref (ad (0, 0, 0))), (2, .int (nI (xS x))), (3, .int (nI (xR x))), (4, .int (nI sn)), (5, .int (nI i)), (11, .long (dgX x))]) (hcl : cl ≤ 3000) (hsl : sl ≤ 30000) (kk : ∀ (H : Heap) (locs : List Loc) (ls : Array Slot), hm_G g ad M s.heap H locs → lv_has ls 20 [(0, .ref b), (1, .ref (ad (0, 0, 0))), (2, .int (nI (xS x))), (3, .int (nI (xR x))), (4, .int (nI sn)), (5, .int (nI i)), (11, .long (dgX x))] → W p l e room_1 s m #[Value.ref b] below meth c H locs cl sl (lw_Z below #[Value.ref b] s) (F0 m 1195 ls [])) : W p l e room_1 s m #[Value.ref b] below meth c H locs cl sl (lw_Z below #[Value.ref b] s) (F0 m 1118 ls []) := by
  obtain ⟨S, hr, hlk, hE, hB0, hX0, hL⟩ := id C0
  obtain ⟨hX, hLs, hLr, hLh, h7, hLg, h70, hSe, hRu, hHu, hGr, hS6, hR6, hH5⟩ := id hx
  obtain ⟨fs1, hb1⟩ := hLs.ob
  obtain ⟨fs2, hb2⟩ := hLr.ob
  obtain ⟨fs3, hb3⟩ := hLh.ob
  refine lv_iconst (v := 0) S.1 S.2.1 dL_law_1118 (by decide) ?_
  refine lv_istore (lv' := [(15, .int 0), (0, .ref b), (1, .ref (ad (0, 0, 0))), (2, .int (nI (xS x))), (3, .int (nI (xR x))), (4, .int (nI sn)), (5, .int (nI i)), (11, .long (dgX x))]) S.1 S.2.1 dL_law_1119 hl (by decide) rfl (fun ls hl => ?_)
  have L1121_0 : ∀ (n : Nat) (k : Nat), n + k = min 30 sn - 1 → ∀ (H : Heap) (locs : List Loc) (ls : Array Slot), hm_G g ad M s.heap H locs → lv_has ls 20 [(0, .ref b), (1, .ref (ad (0, 0, 0))), (2, .int (nI (xS x))), (3, .int (nI (xR x))), (4, .int (nI sn)), (5, .int (nI i)), (11, .long (dgX x)), (15, .int (nI k))] → W p l e room_1 s m #[Value.ref b] below meth c H locs cl sl (lw_Z below #[Value.ref b] s) (F0 m 1121 ls []) := by
    intro n
    induction n with
    | zero =>
      intro k hk0 H locs ls hG hl
      refine lv_iload S.1 S.2.1 dL_law_1121 (lv_at hl 7 rfl) ?_
      refine lv_iconst (v := 1) S.1 S.2.1 dL_law_1123 (by decide) ?_
      refine lv_iadd S.1 S.2.1 dL_law_1124 ?_
      refine hm_top (z := nI (k + 1)) (nI_1 k) ?_
      refine lv_bipush (v := 30) S.1 S.2.1 dL_law_1125 (by decide) ?_
      refine lv_iload S.1 S.2.1 dL_law_1127 (lv_at hl 4 rfl) ?_
      refine hm_min (z := nI (min 30 sn)) S hb_3 hb_4 hb_5 hb_6 hl.1 (Nat.le_of_ble_eq_true rfl) (Nat.le_of_ble_eq_true rfl) ((Nat.le_trans (m := 3000) hcl (Nat.le_of_ble_eq_true rfl))) ((Nat.le_trans (m := 30000) hsl (Nat.le_of_ble_eq_true rfl))) (hm_minN 30 sn (by decide) (by omega)) dL_law_1129 ?_
      refine lv_icmp_ge (tgt := 1195) S.1 S.2.1 dL_law_1132 (by decide) (fun _ => ?_) (fun h9 => absurd (nI_le (by omega) (by omega)) h9)
      exact kk _ _ _ hG (lv_sub hl [0, 1, 2, 3, 4, 5, 6] rfl)
    | succ n ih1121 =>
      intro k hk0 H locs ls hG hl
      have hk9 : k + 1 < min 30 sn := by omega
      obtain ⟨hN1, hN2⟩ := hN k hk9
      refine lv_iload S.1 S.2.1 dL_law_1121 (lv_at hl 7 rfl) ?_
      refine lv_iconst (v := 1) S.1 S.2.1 dL_law_1123 (by decide) ?_
      refine lv_iadd S.1 S.2.1 dL_law_1124 ?_
      refine hm_top (z := nI (k + 1)) (nI_1 k) ?_
      refine lv_bipush (v := 30) S.1 S.2.1 dL_law_1125 (by decide) ?_
      refine lv_iload S.1 S.2.1 dL_law_1127 (lv_at hl 4 rfl) ?_
      refine hm_min (z := nI (min 30 sn)) S hb_3 hb_4 hb_5 hb_6 hl.1 (Nat.le_of_ble_eq_true rfl) (Nat.le_of_ble_eq_true rfl) ((Nat.le_trans (m := 3000) hcl (Nat.le_of_ble_eq_true rfl))) ((Nat.le_trans (m := 30000) hsl (Nat.le_of_ble_eq_true rfl))) (hm_minN 30 sn (by decide) (by omega)) dL_law_1129 ?_
      refine lv_icmp_ge (tgt := 1195) S.1 S.2.1 dL_law_1132 (by decide) (fun h9 => absurd h9 (nI_ge hk9 (by omega))) (fun _ => ?_)
      refine lv_aload_n S.1 S.2.1 dL_law_1135 rfl (lv_at hl 1 rfl) ?_
      refine lv_iload S.1 S.2.1 dL_law_1136 (lv_at hl 7 rfl) ?_
      refine lv_iconst (v := 0) S.1 S.2.1 dL_law_1138 (by decide) ?_
      refine hm_uV (As := [.int (nI k), .int 0]) (rest := []) (st1 := [.int (foF (xL x) k 0)]) S hE hG (c_X6_notice l g ad M x hx k 0 (by omega) (by omega)) (hm_gV hb_591 hb_571 hb_572 hb_2 hb_573) hd_X6_notice rfl hX rfl rfl ⟨Nat.le_of_ble_eq_true rfl, Nat.le_of_ble_eq_true rfl⟩ rfl hl.1 rfl (Nat.le_of_ble_eq_true rfl) dL_law_1139 ⟨(Nat.le_trans (m := 3000) hcl (Nat.le_of_ble_eq_true rfl)), (Nat.le_trans (m := 30000) hsl (Nat.le_of_ble_eq_true rfl))⟩ rfl (fun H locs hG => ?_)
      refine lv_aload_n S.1 S.2.1 dL_law_1142 rfl (lv_at hl 1 rfl) ?_
      refine lv_iload S.1 S.2.1 dL_law_1143 (lv_at hl 7 rfl) ?_
      refine lv_iconst (v := 1) S.1 S.2.1 dL_law_1145 (by decide) ?_
      refine lv_iadd S.1 S.2.1 dL_law_1146 ?_
      refine hm_top (z := nI (k + 1)) (nI_1 k) ?_
      refine lv_iconst (v := 0) S.1 S.2.1 dL_law_1147 (by decide) ?_
      refine hm_uV (As := [.int (nI (k + 1)), .int 0]) (rest := [.int (foF (xL x) k 0)]) (st1 := [.int (foF (xL x) (k + 1) 0), .int (foF (xL x) k 0)]) S hE hG (c_X6_notice l g ad M x hx (k + 1) 0 (by omega) (by omega)) (hm_gV hb_591 hb_571 hb_572 hb_2 hb_573) hd_X6_notice rfl hX rfl rfl ⟨Nat.le_of_ble_eq_true rfl, Nat.le_of_ble_eq_true rfl⟩ rfl hl.1 rfl (Nat.le_of_ble_eq_true rfl) dL_law_1148 ⟨(Nat.le_trans (m := 3000) hcl (Nat.le_of_ble_eq_true rfl)), (Nat.le_trans (m := 30000) hsl (Nat.le_of_ble_eq_true rfl))⟩ rfl (fun H locs hG => ?_)
      refine lv_icmp_lt (tgt := 1187) S.1 S.2.1 dL_law_1151 (by decide) (fun h9 => absurd h9 (hN1)) (fun _ => ?_)
      refine lv_aload_n S.1 S.2.1 dL_law_1154 rfl (lv_at hl 1 rfl) ?_
      refine lv_iload S.1 S.2.1 dL_law_1155 (lv_at hl 7 rfl) ?_
      refine lv_iconst (v := 2) S.1 S.2.1 dL_law_1157 (by decide) ?_
      refine hm_uV (As := [.int (nI k), .int 2]) (rest := []) (st1 := [.int (foF (xL x) k 2)]) S hE hG (c_X6_notice l g ad M x hx k 2 (by omega) (by omega)) (hm_gV hb_591 hb_571 hb_572 hb_2 hb_573) hd_X6_notice rfl hX rfl rfl ⟨Nat.le_of_ble_eq_true rfl, Nat.le_of_ble_eq_true rfl⟩ rfl hl.1 rfl (Nat.le_of_ble_eq_true rfl) dL_law_1158 ⟨(Nat.le_trans (m := 3000) hcl (Nat.le_of_ble_eq_true rfl)), (Nat.le_trans (m := 30000) hsl (Nat.le_of_ble_eq_true rfl))⟩ rfl (fun H locs hG => ?_)
      refine lv_if_le (tgt := 1168) S.1 S.2.1 dL_law_1161 (by decide) (fun c1161 => ?_) (fun c1161 => ?_)
      · skip
        refine lv_iconst (v := 0) S.1 S.2.1 dL_law_1168 (by decide) ?_
        refine lv_aload_n S.1 S.2.1 dL_law_1169 rfl (lv_at hl 1 rfl) ?_
        refine lv_iload S.1 S.2.1 dL_law_1170 (lv_at hl 7 rfl) ?_
        refine lv_iconst (v := 3) S.1 S.2.1 dL_law_1172 (by decide) ?_
        refine hm_uV (As := [.int (nI k), .int 3]) (rest := [.int 0]) (st1 := [.int (foF (xL x) k 3), .int 0]) S hE hG (c_X6_notice l g ad M x hx k 3 (by omega) (by omega)) (hm_gV hb_591 hb_571 hb_572 hb_2 hb_573) hd_X6_notice rfl hX rfl rfl ⟨Nat.le_of_ble_eq_true rfl, Nat.le_of_ble_eq_true rfl⟩ rfl hl.1 rfl (Nat.le_of_ble_eq_true rfl) dL_law_1173 ⟨(Nat.le_trans (m := 3000) hcl (Nat.le_of_ble_eq_true rfl)), (Nat.le_trans (m := 30000) hsl (Nat.le_of_ble_eq_true rfl))⟩ rfl (fun H locs hG => ?_)
        refine lv_if_lt (tgt := 1183) S.1 S.2.1 dL_law_1176 (by decide) (fun _ => ?_) (fun h9 => absurd (Int32.not_le.mp (fun h => absurd (hN2.mpr h) (Int32.not_lt.mpr c1161))) h9)
        refine lv_iconst (v := 0) S.1 S.2.1 dL_law_1183 (by decide) ?_
        refine lv_icmp_eq (tgt := 1189) S.1 S.2.1 dL_law_1184 (by decide) (fun _ => ?_) (fun h9 => absurd (by decide) h9)
        refine lv_iinc (v := nI (k + 1)) (lv' := [(15, .int (nI (k + 1))), (0, .ref b), (1, .ref (ad (0, 0, 0))), (2, .int (nI (xS x))), (3, .int (nI (xR x))), (4, .int (nI sn)), (5, .int (nI i)), (11, .long (dgX x))]) S.1 S.2.1 dL_law_1189 hl (k := 7) rfl (nI_1 k) (by decide) rfl (fun ls hl => ?_)
        refine lv_goto (tgt := 1121) S.1 S.2.1 dL_law_1192 (by decide) ?_
        exact ih1121 (k + 1) (by omega) _ _ _ hG (lv_sub hl [1, 2, 3, 4, 5, 6, 7, 0] rfl)
      · skip
        refine lv_iconst (v := 1) S.1 S.2.1 dL_law_1164 (by decide) ?_
        refine lv_goto (tgt := 1169) S.1 S.2.1 dL_law_1165 (by decide) ?_
        refine lv_aload_n S.1 S.2.1 dL_law_1169 rfl (lv_at hl 1 rfl) ?_
        refine lv_iload S.1 S.2.1 dL_law_1170 (lv_at hl 7 rfl) ?_
        refine lv_iconst (v := 3) S.1 S.2.1 dL_law_1172 (by decide) ?_
        refine hm_uV (As := [.int (nI k), .int 3]) (rest := [.int 1]) (st1 := [.int (foF (xL x) k 3), .int 1]) S hE hG (c_X6_notice l g ad M x hx k 3 (by omega) (by omega)) (hm_gV hb_591 hb_571 hb_572 hb_2 hb_573) hd_X6_notice rfl hX rfl rfl ⟨Nat.le_of_ble_eq_true rfl, Nat.le_of_ble_eq_true rfl⟩ rfl hl.1 rfl (Nat.le_of_ble_eq_true rfl) dL_law_1173 ⟨(Nat.le_trans (m := 3000) hcl (Nat.le_of_ble_eq_true rfl)), (Nat.le_trans (m := 30000) hsl (Nat.le_of_ble_eq_true rfl))⟩ rfl (fun H locs hG => ?_)
        refine lv_if_lt (tgt := 1183) S.1 S.2.1 dL_law_1176 (by decide) (fun h9 => absurd h9 (Int32.not_lt.mpr (hN2.mp (Int32.not_le.mp c1161)))) (fun _ => ?_)
        refine lv_iconst (v := 1) S.1 S.2.1 dL_law_1179 (by decide) ?_
        refine lv_goto (tgt := 1184) S.1 S.2.1 dL_law_1180 (by decide) ?_
        refine lv_icmp_eq (tgt := 1189) S.1 S.2.1 dL_law_1184 (by decide) (fun _ => ?_) (fun h9 => absurd (by decide) h9)
        refine lv_iinc (v := nI (k + 1)) (lv' := [(15, .int (nI (k + 1))), (0, .ref b), (1, .ref (ad (0, 0, 0))), (2, .int (nI (xS x))), (3, .int (nI (xR x))), (4, .int (nI sn)), (5, .int (nI i)), (11, .long (dgX x))]) S.1 S.2.1 dL_law_1189 hl (k := 7) rfl (nI_1 k) (by decide) rfl (fun ls hl => ?_)
        refine lv_goto (tgt := 1121) S.1 S.2.1 dL_law_1192 (by decide) ?_
        exact ih1121 (k + 1) (by omega) _ _ _ hG (lv_sub hl [1, 2, 3, 4, 5, 6, 7, 0] rfl)
  exact L1121_0 (min 30 sn - 1) 0 (by omega) _ _ _ hG (lv_sub hl [1, 2, 3, 4, 5, 6, 7, 0] rfl)

set_option maxHeartbeats 4000000 in
set_option maxRecDepth 100000 in
theorem seg_rul {p : Program} {l : Launch} {e : Env} {s : State} {m : MethodId} {below : List Frame} {meth : Method} {c : Code} {b L : Nat} {xs : Nat → Int32} {g : GV} (C0 : LC p s m meth c b L xs g) {ad : AD} {M : CT} {x : XD} (hx : hasX g ad M x) (sn i : Nat) (hB : ∀ r, r < xR x → byX x r (cmX x r) = 0) {H : Heap} {locs : List Loc} {ls : Array Slot} {cl sl : Nat} (hG : hm_G g ad M s.heap H locs) (hl : lv_has ls 20 [(0, .ref b), (1, .ref (ad (0, 0, 0))), (2, .int (nI (xS x))), (3, .int (nI (xR x))), (4, .int (nI sn)), (5, .int (nI i)), (11, .long (dgX x))]) (hcl : cl ≤ 3000) (hsl : sl ≤ 30000) (kk : ∀ (H : Heap) (locs : List Loc) (ls : Array Slot), hm_G g ad M s.heap H locs → lv_has ls 20 [(0, .ref b), (1, .ref (ad (0, 0, 0))), (2, .int (nI (xS x))), (3, .int (nI (xR x))), (4, .int (nI sn)), (5, .int (nI i)), (11, .long (dgX x))] → W p l e room_1 s m #[Value.ref b] below meth c H locs cl sl (lw_Z below #[Value.ref b] s) (F0 m 1118 ls [])) : W p l e room_1 s m #[Value.ref b] below meth c H locs cl sl (lw_Z below #[Value.ref b] s) (F0 m 1062 ls []) := by
  obtain ⟨S, hr, hlk, hE, hB0, hX0, hL⟩ := id C0
  obtain ⟨hX, hLs, hLr, hLh, h7, hLg, h70, hSe, hRu, hHu, hGr, hS6, hR6, hH5⟩ := id hx
  obtain ⟨fs1, hb1⟩ := hLs.ob
  obtain ⟨fs2, hb2⟩ := hLr.ob
  obtain ⟨fs3, hb3⟩ := hLh.ob
  refine lv_iconst (v := 0) S.1 S.2.1 dL_law_1062 (by decide) ?_
  refine lv_istore (lv' := [(15, .int 0), (0, .ref b), (1, .ref (ad (0, 0, 0))), (2, .int (nI (xS x))), (3, .int (nI (xR x))), (4, .int (nI sn)), (5, .int (nI i)), (11, .long (dgX x))]) S.1 S.2.1 dL_law_1063 hl (by decide) rfl (fun ls hl => ?_)
  have L1065_0 : ∀ (n : Nat) (r : Nat), n + r = xR x → ∀ (H : Heap) (locs : List Loc) (ls : Array Slot), hm_G g ad M s.heap H locs → lv_has ls 20 [(0, .ref b), (1, .ref (ad (0, 0, 0))), (2, .int (nI (xS x))), (3, .int (nI (xR x))), (4, .int (nI sn)), (5, .int (nI i)), (11, .long (dgX x)), (15, .int (nI r))] → W p l e room_1 s m #[Value.ref b] below meth c H locs cl sl (lw_Z below #[Value.ref b] s) (F0 m 1065 ls []) := by
    intro n
    induction n with
    | zero =>
      intro r h01065 H locs ls hG hl
      have e7 : r = xR x := by omega
      subst e7
      refine lv_iload S.1 S.2.1 dL_law_1065 (lv_at hl 7 rfl) ?_
      refine lv_iload_n S.1 S.2.1 dL_law_1067 rfl (lv_at hl 3 rfl) ?_
      refine lv_icmp_ge (tgt := 1118) S.1 S.2.1 dL_law_1068 (by decide) (fun _ => ?_) (fun h9 => absurd (nI_le (Nat.le_refl _) (by omega)) h9)
      exact kk _ _ _ hG (lv_sub hl [0, 1, 2, 3, 4, 5, 6] rfl)
    | succ n ih1065 =>
      intro r h01065 H locs ls hG hl
      have hr9 : r < xR x := by omega
      refine lv_iload S.1 S.2.1 dL_law_1065 (lv_at hl 7 rfl) ?_
      refine lv_iload_n S.1 S.2.1 dL_law_1067 rfl (lv_at hl 3 rfl) ?_
      refine lv_icmp_ge (tgt := 1118) S.1 S.2.1 dL_law_1068 (by decide) (fun h9 => absurd h9 (nI_ge hr9 (by omega))) (fun _ => ?_)
      refine lv_aload_n S.1 S.2.1 dL_law_1071 rfl (lv_at hl 1 rfl) ?_
      refine lv_iload S.1 S.2.1 dL_law_1072 (lv_at hl 7 rfl) ?_
      refine hm_uV (As := [.int (nI r)]) (rest := []) (st1 := [.int (cmX x r)]) S hE hG (c_X6_calm l g ad M x hx r hr9) (hm_gV hb_589 hb_518 hb_519 hb_2 hb_520) hd_X6_calm rfl hX rfl rfl ⟨Nat.le_of_ble_eq_true rfl, Nat.le_of_ble_eq_true rfl⟩ rfl hl.1 rfl (Nat.le_of_ble_eq_true rfl) dL_law_1074 ⟨(Nat.le_trans (m := 3000) hcl (Nat.le_of_ble_eq_true rfl)), (Nat.le_trans (m := 30000) hsl (Nat.le_of_ble_eq_true rfl))⟩ rfl (fun H locs hG => ?_)
      refine lv_sipush (v := 10000) S.1 S.2.1 dL_law_1077 (by decide) ?_
      refine lv_icmp_gt (tgt := 1112) S.1 S.2.1 dL_law_1080 (by decide) (fun c1080 => ?_) (fun c1080 => ?_)
      · skip
        refine lv_iinc (v := nI (r + 1)) (lv' := [(15, .int (nI (r + 1))), (0, .ref b), (1, .ref (ad (0, 0, 0))), (2, .int (nI (xS x))), (3, .int (nI (xR x))), (4, .int (nI sn)), (5, .int (nI i)), (11, .long (dgX x))]) S.1 S.2.1 dL_law_1112 hl (k := 7) rfl (nI_1 r) (by decide) rfl (fun ls hl => ?_)
        refine lv_goto (tgt := 1065) S.1 S.2.1 dL_law_1115 (by decide) ?_
        exact ih1065 (r + 1) (by omega) _ _ _ hG (lv_sub hl [1, 2, 3, 4, 5, 6, 7, 0] rfl)
      · skip
        refine lv_aload_n S.1 S.2.1 dL_law_1083 rfl (lv_at hl 1 rfl) ?_
        refine lv_iload S.1 S.2.1 dL_law_1084 (lv_at hl 7 rfl) ?_
        refine hm_uV (As := [.int (nI r)]) (rest := []) (st1 := [.int (cmX x r)]) S hE hG (c_X6_calm l g ad M x hx r hr9) (hm_gV hb_589 hb_518 hb_519 hb_2 hb_520) hd_X6_calm rfl hX rfl rfl ⟨Nat.le_of_ble_eq_true rfl, Nat.le_of_ble_eq_true rfl⟩ rfl hl.1 rfl (Nat.le_of_ble_eq_true rfl) dL_law_1086 ⟨(Nat.le_trans (m := 3000) hcl (Nat.le_of_ble_eq_true rfl)), (Nat.le_trans (m := 30000) hsl (Nat.le_of_ble_eq_true rfl))⟩ rfl (fun H locs hG => ?_)
        refine lv_sipush (v := (-10000)) S.1 S.2.1 dL_law_1089 (by decide) ?_
        refine lv_icmp_lt (tgt := 1112) S.1 S.2.1 dL_law_1092 (by decide) (fun c1092 => ?_) (fun c1092 => ?_)
        · skip
          refine lv_iinc (v := nI (r + 1)) (lv' := [(15, .int (nI (r + 1))), (0, .ref b), (1, .ref (ad (0, 0, 0))), (2, .int (nI (xS x))), (3, .int (nI (xR x))), (4, .int (nI sn)), (5, .int (nI i)), (11, .long (dgX x))]) S.1 S.2.1 dL_law_1112 hl (k := 7) rfl (nI_1 r) (by decide) rfl (fun ls hl => ?_)
          refine lv_goto (tgt := 1065) S.1 S.2.1 dL_law_1115 (by decide) ?_
          exact ih1065 (r + 1) (by omega) _ _ _ hG (lv_sub hl [1, 2, 3, 4, 5, 6, 7, 0] rfl)
        · skip
          refine lv_aload_n S.1 S.2.1 dL_law_1095 rfl (lv_at hl 1 rfl) ?_
          refine lv_iload S.1 S.2.1 dL_law_1096 (lv_at hl 7 rfl) ?_
          refine lv_aload_n S.1 S.2.1 dL_law_1098 rfl (lv_at hl 1 rfl) ?_
          refine lv_iload S.1 S.2.1 dL_law_1099 (lv_at hl 7 rfl) ?_
          refine hm_uV (As := [.int (nI r)]) (rest := [.int (nI r), .ref (ad (0, 0, 0))]) (st1 := [.int (cmX x r), .int (nI r), .ref (ad (0, 0, 0))]) S hE hG (c_X6_calm l g ad M x hx r hr9) (hm_gV hb_589 hb_518 hb_519 hb_2 hb_520) hd_X6_calm rfl hX rfl rfl ⟨Nat.le_of_ble_eq_true rfl, Nat.le_of_ble_eq_true rfl⟩ rfl hl.1 rfl (Nat.le_of_ble_eq_true rfl) dL_law_1101 ⟨(Nat.le_trans (m := 3000) hcl (Nat.le_of_ble_eq_true rfl)), (Nat.le_trans (m := 30000) hsl (Nat.le_of_ble_eq_true rfl))⟩ rfl (fun H locs hG => ?_)
          refine hm_uV (As := [.int (nI r), .int (cmX x r)]) (rest := []) (st1 := [.int (nI (byX x r (cmX x r)))]) S hE hG (c_X6_beyond l g ad M x hx r hr9 (cmX x r) c1092 c1080) (hm_gV hb_590 hb_522 hb_523 hb_2 hb_524) hd_X6_beyond rfl hX rfl rfl ⟨Nat.le_of_ble_eq_true rfl, Nat.le_of_ble_eq_true rfl⟩ rfl hl.1 rfl (Nat.le_of_ble_eq_true rfl) dL_law_1104 ⟨(Nat.le_trans (m := 3000) hcl (Nat.le_of_ble_eq_true rfl)), (Nat.le_trans (m := 30000) hsl (Nat.le_of_ble_eq_true rfl))⟩ rfl (fun H locs hG => ?_)
          refine lv_if_eq (tgt := 1112) S.1 S.2.1 dL_law_1107 (by decide) (fun _ => ?_) (fun h9 => absurd (by rw [hB r hr9]; rfl) h9)
          refine lv_iinc (v := nI (r + 1)) (lv' := [(15, .int (nI (r + 1))), (0, .ref b), (1, .ref (ad (0, 0, 0))), (2, .int (nI (xS x))), (3, .int (nI (xR x))), (4, .int (nI sn)), (5, .int (nI i)), (11, .long (dgX x))]) S.1 S.2.1 dL_law_1112 hl (k := 7) rfl (nI_1 r) (by decide) rfl (fun ls hl => ?_)
          refine lv_goto (tgt := 1065) S.1 S.2.1 dL_law_1115 (by decide) ?_
          exact ih1065 (r + 1) (by omega) _ _ _ hG (lv_sub hl [1, 2, 3, 4, 5, 6, 7, 0] rfl)
  exact L1065_0 (xR x) 0 (by omega) _ _ _ hG (lv_sub hl [1, 2, 3, 4, 5, 6, 7, 0] rfl)

set_option maxHeartbeats 4000000 in
set_option maxRecDepth 100000 in
theorem seg_hus {p : Program} {l : Launch} {e : Env} {s : State} {m : MethodId} {below : List Frame} {meth : Method} {c : Code} {b L : Nat} {xs : Nat → Int32} {g : GV} (C0 : LC p s m meth c b L xs g) {ad : AD} {M : CT} {x : XD} (hx : hasX g ad M x) (sn i : Nat) (hH : ∀ h, h < xH x → ccX x (xHu x h) ≤ caX x 1 ∧ (¬ nI (xC x) < (xHu x h).2.2 → ccX x (xHu x h) = 0) ∧ clX x (nI h) ≤ caX x 2 ∧ (¬ nI (xC x) < (xHu x h).2.2 → clX x (nI h) = clX x (-1))) {H : Heap} {locs : List Loc} {ls : Array Slot} {cl sl : Nat} (hG : hm_G g ad M s.heap H locs) (hl : lv_has ls 20 [(0, .ref b), (1, .ref (ad (0, 0, 0))), (2, .int (nI (xS x))), (3, .int (nI (xR x))), (4, .int (nI sn)), (5, .int (nI i)), (11, .long (dgX x))]) (hcl : cl ≤ 3000) (hsl : sl ≤ 30000) (kk : ∀ (H : Heap) (locs : List Loc) (ls : Array Slot), hm_G g ad M s.heap H locs → lv_has ls 20 [(0, .ref b), (1, .ref (ad (0, 0, 0))), (2, .int (nI (xS x))), (3, .int (nI (xR x))), (4, .int (nI sn)), (5, .int (nI i)), (11, .long (dgX x))] → W p l e room_1 s m #[Value.ref b] below meth c H locs cl sl (lw_Z below #[Value.ref b] s) (F0 m 1062 ls [])) : W p l e room_1 s m #[Value.ref b] below meth c H locs cl sl (lw_Z below #[Value.ref b] s) (F0 m 960 ls []) := by
  obtain ⟨S, hr, hlk, hE, hB0, hX0, hL⟩ := id C0
  obtain ⟨hX, hLs, hLr, hLh, h7, hLg, h70, hSe, hRu, hHu, hGr, hS6, hR6, hH5⟩ := id hx
  obtain ⟨fs1, hb1⟩ := hLs.ob
  obtain ⟨fs2, hb2⟩ := hLr.ob
  obtain ⟨fs3, hb3⟩ := hLh.ob
  have hq1 := caX_le x 1
  have hq2 := caX_le x 2
  refine lv_iconst (v := 0) S.1 S.2.1 dL_law_960 (by decide) ?_
  refine lv_istore (lv' := [(15, .int 0), (0, .ref b), (1, .ref (ad (0, 0, 0))), (2, .int (nI (xS x))), (3, .int (nI (xR x))), (4, .int (nI sn)), (5, .int (nI i)), (11, .long (dgX x))]) S.1 S.2.1 dL_law_961 hl (by decide) rfl (fun ls hl => ?_)
  have L963_0 : ∀ (n : Nat) (h : Nat), n + h = xH x → ∀ (H : Heap) (locs : List Loc) (ls : Array Slot), hm_G g ad M s.heap H locs → lv_has ls 20 [(0, .ref b), (1, .ref (ad (0, 0, 0))), (2, .int (nI (xS x))), (3, .int (nI (xR x))), (4, .int (nI sn)), (5, .int (nI i)), (11, .long (dgX x)), (15, .int (nI h))] → W p l e room_1 s m #[Value.ref b] below meth c H locs cl sl (lw_Z below #[Value.ref b] s) (F0 m 963 ls []) := by
    intro n
    induction n with
    | zero =>
      intro h h0963 H locs ls hG hl
      have e7 : h = xH x := by omega
      subst e7
      refine lv_iload S.1 S.2.1 dL_law_963 (lv_at hl 7 rfl) ?_
      refine lv_aload_n S.1 S.2.1 dL_law_965 rfl (lv_at hl 1 rfl) ?_
      refine lv_iconst (v := 2) S.1 S.2.1 dL_law_966 (by decide) ?_
      refine hm_uV (As := [.int 2]) (rest := [.int (nI (xH x))]) (st1 := [.int (nI (xH x)), .int (nI (xH x))]) S hE hG (c_X6_many l g ad M x hx 2 (by omega)) (hm_gV hb_262 hb_263 hb_264 hb_2 hb_265) hd_X6_many rfl hX rfl rfl ⟨Nat.le_of_ble_eq_true rfl, Nat.le_of_ble_eq_true rfl⟩ rfl hl.1 rfl (Nat.le_of_ble_eq_true rfl) dL_law_967 ⟨(Nat.le_trans (m := 3000) hcl (Nat.le_of_ble_eq_true rfl)), (Nat.le_trans (m := 30000) hsl (Nat.le_of_ble_eq_true rfl))⟩ rfl (fun H locs hG => ?_)
      refine lv_icmp_ge (tgt := 1062) S.1 S.2.1 dL_law_970 (by decide) (fun _ => ?_) (fun h9 => absurd (nI_le (Nat.le_refl _) (by omega)) h9)
      exact kk _ _ _ hG (lv_sub hl [0, 1, 2, 3, 4, 5, 6] rfl)
    | succ n ih963 =>
      intro h h0963 H locs ls hG hl
      have hh9 : h < xH x := by omega
      refine lv_iload S.1 S.2.1 dL_law_963 (lv_at hl 7 rfl) ?_
      refine lv_aload_n S.1 S.2.1 dL_law_965 rfl (lv_at hl 1 rfl) ?_
      refine lv_iconst (v := 2) S.1 S.2.1 dL_law_966 (by decide) ?_
      refine hm_uV (As := [.int 2]) (rest := [.int (nI h)]) (st1 := [.int (nI (xH x)), .int (nI h)]) S hE hG (c_X6_many l g ad M x hx 2 (by omega)) (hm_gV hb_262 hb_263 hb_264 hb_2 hb_265) hd_X6_many rfl hX rfl rfl ⟨Nat.le_of_ble_eq_true rfl, Nat.le_of_ble_eq_true rfl⟩ rfl hl.1 rfl (Nat.le_of_ble_eq_true rfl) dL_law_967 ⟨(Nat.le_trans (m := 3000) hcl (Nat.le_of_ble_eq_true rfl)), (Nat.le_trans (m := 30000) hsl (Nat.le_of_ble_eq_true rfl))⟩ rfl (fun H locs hG => ?_)
      refine lv_icmp_ge (tgt := 1062) S.1 S.2.1 dL_law_970 (by decide) (fun h9 => absurd h9 (nI_ge hh9 (by omega))) (fun _ => ?_)
      refine lv_aload_n S.1 S.2.1 dL_law_973 rfl (lv_at hl 1 rfl) ?_
      refine lv_iload S.1 S.2.1 dL_law_974 (lv_at hl 7 rfl) ?_
      refine lv_iconst (v := 3) S.1 S.2.1 dL_law_976 (by decide) ?_
      refine hm_uV (As := [.int (nI h), .int 3]) (rest := []) (st1 := [.int (nI (ccX x (xHu x h)))]) S hE hG (c_X6_ofHush l g ad M x hx h hh9 3 (by omega)) (hm_gV hb_584 hb_547 hb_548 hb_2 hb_549) hd_X6_ofHush rfl hX rfl rfl ⟨Nat.le_of_ble_eq_true rfl, Nat.le_of_ble_eq_true rfl⟩ rfl hl.1 rfl (Nat.le_of_ble_eq_true rfl) dL_law_977 ⟨(Nat.le_trans (m := 3000) hcl (Nat.le_of_ble_eq_true rfl)), (Nat.le_trans (m := 30000) hsl (Nat.le_of_ble_eq_true rfl))⟩ rfl (fun H locs hG => ?_)
      refine lv_aload_n S.1 S.2.1 dL_law_980 rfl (lv_at hl 1 rfl) ?_
      refine lv_iconst (v := 3) S.1 S.2.1 dL_law_981 (by decide) ?_
      refine hm_uV (As := [.int 3]) (rest := [.int (nI (ccX x (xHu x h)))]) (st1 := [.int (nI (caX x 1)), .int (nI (ccX x (xHu x h)))]) S hE hG (c_X6_many l g ad M x hx 3 (by omega)) (hm_gV hb_262 hb_263 hb_264 hb_2 hb_265) hd_X6_many rfl hX rfl rfl ⟨Nat.le_of_ble_eq_true rfl, Nat.le_of_ble_eq_true rfl⟩ rfl hl.1 rfl (Nat.le_of_ble_eq_true rfl) dL_law_982 ⟨(Nat.le_trans (m := 3000) hcl (Nat.le_of_ble_eq_true rfl)), (Nat.le_trans (m := 30000) hsl (Nat.le_of_ble_eq_true rfl))⟩ rfl (fun H locs hG => ?_)
      refine lv_icmp_gt (tgt := 1054) S.1 S.2.1 dL_law_985 (by decide) (fun h9 => absurd h9 (nI_nlt (hH h hh9).1 (by omega))) (fun _ => ?_)
      refine lv_aload_n S.1 S.2.1 dL_law_988 rfl (lv_at hl 1 rfl) ?_
      refine lv_iload S.1 S.2.1 dL_law_989 (lv_at hl 7 rfl) ?_
      refine lv_iconst (v := 2) S.1 S.2.1 dL_law_991 (by decide) ?_
      refine hm_uV (As := [.int (nI h), .int 2]) (rest := []) (st1 := [.int (xHu x h).2.2]) S hE hG (c_X6_ofHush l g ad M x hx h hh9 2 (by omega)) (hm_gV hb_584 hb_547 hb_548 hb_2 hb_549) hd_X6_ofHush rfl hX rfl rfl ⟨Nat.le_of_ble_eq_true rfl, Nat.le_of_ble_eq_true rfl⟩ rfl hl.1 rfl (Nat.le_of_ble_eq_true rfl) dL_law_992 ⟨(Nat.le_trans (m := 3000) hcl (Nat.le_of_ble_eq_true rfl)), (Nat.le_trans (m := 30000) hsl (Nat.le_of_ble_eq_true rfl))⟩ rfl (fun H locs hG => ?_)
      refine lv_aload_n S.1 S.2.1 dL_law_995 rfl (lv_at hl 1 rfl) ?_
      refine hm_uV (As := []) (rest := [.int (xHu x h).2.2]) (st1 := [.int (nI (xC x)), .int (xHu x h).2.2]) S hE hG (c_X6_clock l g ad M x hx) (hm_gV hb_580 hb_491 hb_492 hb_2 hb_493) hd_X6_clock rfl hX rfl rfl ⟨Nat.le_of_ble_eq_true rfl, Nat.le_of_ble_eq_true rfl⟩ rfl hl.1 rfl (Nat.le_of_ble_eq_true rfl) dL_law_996 ⟨(Nat.le_trans (m := 3000) hcl (Nat.le_of_ble_eq_true rfl)), (Nat.le_trans (m := 30000) hsl (Nat.le_of_ble_eq_true rfl))⟩ rfl (fun H locs hG => ?_)
      refine lv_icmp_gt (tgt := 1012) S.1 S.2.1 dL_law_999 (by decide) (fun c999 => ?_) (fun c999 => ?_)
      · skip
        refine lv_aload_n S.1 S.2.1 dL_law_1012 rfl (lv_at hl 1 rfl) ?_
        refine lv_iload S.1 S.2.1 dL_law_1013 (lv_at hl 7 rfl) ?_
        refine hm_uV (As := [.int (nI h)]) (rest := []) (st1 := [.int (nI (clX x (nI h)))]) S hE hG (c_X6_loudWithout l g ad M x hx h hh9) (hm_gV hb_585 hb_586 hb_587 hb_2 hb_588) hd_X6_loudWithout rfl hX rfl rfl ⟨Nat.le_of_ble_eq_true rfl, Nat.le_of_ble_eq_true rfl⟩ rfl hl.1 rfl (Nat.le_of_ble_eq_true rfl) dL_law_1015 ⟨(Nat.le_trans (m := 3000) hcl (Nat.le_of_ble_eq_true rfl)), (Nat.le_trans (m := 30000) hsl (Nat.le_of_ble_eq_true rfl))⟩ rfl (fun H locs hG => ?_)
        refine lv_aload_n S.1 S.2.1 dL_law_1018 rfl (lv_at hl 1 rfl) ?_
        refine lv_iconst (v := 4) S.1 S.2.1 dL_law_1019 (by decide) ?_
        refine hm_uV (As := [.int 4]) (rest := [.int (nI (clX x (nI h)))]) (st1 := [.int (nI (caX x 2)), .int (nI (clX x (nI h)))]) S hE hG (c_X6_many l g ad M x hx 4 (by omega)) (hm_gV hb_262 hb_263 hb_264 hb_2 hb_265) hd_X6_many rfl hX rfl rfl ⟨Nat.le_of_ble_eq_true rfl, Nat.le_of_ble_eq_true rfl⟩ rfl hl.1 rfl (Nat.le_of_ble_eq_true rfl) dL_law_1020 ⟨(Nat.le_trans (m := 3000) hcl (Nat.le_of_ble_eq_true rfl)), (Nat.le_trans (m := 30000) hsl (Nat.le_of_ble_eq_true rfl))⟩ rfl (fun H locs hG => ?_)
        refine lv_icmp_gt (tgt := 1054) S.1 S.2.1 dL_law_1023 (by decide) (fun h9 => absurd h9 (nI_nlt (hH h hh9).2.2.1 (by omega))) (fun _ => ?_)
        refine lv_aload_n S.1 S.2.1 dL_law_1026 rfl (lv_at hl 1 rfl) ?_
        refine lv_iload S.1 S.2.1 dL_law_1027 (lv_at hl 7 rfl) ?_
        refine lv_iconst (v := 2) S.1 S.2.1 dL_law_1029 (by decide) ?_
        refine hm_uV (As := [.int (nI h), .int 2]) (rest := []) (st1 := [.int (xHu x h).2.2]) S hE hG (c_X6_ofHush l g ad M x hx h hh9 2 (by omega)) (hm_gV hb_584 hb_547 hb_548 hb_2 hb_549) hd_X6_ofHush rfl hX rfl rfl ⟨Nat.le_of_ble_eq_true rfl, Nat.le_of_ble_eq_true rfl⟩ rfl hl.1 rfl (Nat.le_of_ble_eq_true rfl) dL_law_1030 ⟨(Nat.le_trans (m := 3000) hcl (Nat.le_of_ble_eq_true rfl)), (Nat.le_trans (m := 30000) hsl (Nat.le_of_ble_eq_true rfl))⟩ rfl (fun H locs hG => ?_)
        refine lv_aload_n S.1 S.2.1 dL_law_1033 rfl (lv_at hl 1 rfl) ?_
        refine hm_uV (As := []) (rest := [.int (xHu x h).2.2]) (st1 := [.int (nI (xC x)), .int (xHu x h).2.2]) S hE hG (c_X6_clock l g ad M x hx) (hm_gV hb_580 hb_491 hb_492 hb_2 hb_493) hd_X6_clock rfl hX rfl rfl ⟨Nat.le_of_ble_eq_true rfl, Nat.le_of_ble_eq_true rfl⟩ rfl hl.1 rfl (Nat.le_of_ble_eq_true rfl) dL_law_1034 ⟨(Nat.le_trans (m := 3000) hcl (Nat.le_of_ble_eq_true rfl)), (Nat.le_trans (m := 30000) hsl (Nat.le_of_ble_eq_true rfl))⟩ rfl (fun H locs hG => ?_)
        refine lv_icmp_gt (tgt := 1056) S.1 S.2.1 dL_law_1037 (by decide) (fun c1037 => ?_) (fun c1037 => ?_)
        · skip
          refine lv_iinc (v := nI (h + 1)) (lv' := [(15, .int (nI (h + 1))), (0, .ref b), (1, .ref (ad (0, 0, 0))), (2, .int (nI (xS x))), (3, .int (nI (xR x))), (4, .int (nI sn)), (5, .int (nI i)), (11, .long (dgX x))]) S.1 S.2.1 dL_law_1056 hl (k := 7) rfl (nI_1 h) (by decide) rfl (fun ls hl => ?_)
          refine lv_goto (tgt := 963) S.1 S.2.1 dL_law_1059 (by decide) ?_
          exact ih963 (h + 1) (by omega) _ _ _ hG (lv_sub hl [1, 2, 3, 4, 5, 6, 7, 0] rfl)
        · skip
          refine lv_aload_n S.1 S.2.1 dL_law_1040 rfl (lv_at hl 1 rfl) ?_
          refine lv_iload S.1 S.2.1 dL_law_1041 (lv_at hl 7 rfl) ?_
          refine hm_uV (As := [.int (nI h)]) (rest := []) (st1 := [.int (nI (clX x (nI h)))]) S hE hG (c_X6_loudWithout l g ad M x hx h hh9) (hm_gV hb_585 hb_586 hb_587 hb_2 hb_588) hd_X6_loudWithout rfl hX rfl rfl ⟨Nat.le_of_ble_eq_true rfl, Nat.le_of_ble_eq_true rfl⟩ rfl hl.1 rfl (Nat.le_of_ble_eq_true rfl) dL_law_1043 ⟨(Nat.le_trans (m := 3000) hcl (Nat.le_of_ble_eq_true rfl)), (Nat.le_trans (m := 30000) hsl (Nat.le_of_ble_eq_true rfl))⟩ rfl (fun H locs hG => ?_)
          refine lv_aload_n S.1 S.2.1 dL_law_1046 rfl (lv_at hl 1 rfl) ?_
          refine lv_iconst (v := 5) S.1 S.2.1 dL_law_1047 (by decide) ?_
          refine hm_uV (As := [.int 5]) (rest := [.int (nI (clX x (nI h)))]) (st1 := [.int (nI (clX x (-1))), .int (nI (clX x (nI h)))]) S hE hG (c_X6_many l g ad M x hx 5 (by omega)) (hm_gV hb_262 hb_263 hb_264 hb_2 hb_265) hd_X6_many rfl hX rfl rfl ⟨Nat.le_of_ble_eq_true rfl, Nat.le_of_ble_eq_true rfl⟩ rfl hl.1 rfl (Nat.le_of_ble_eq_true rfl) dL_law_1048 ⟨(Nat.le_trans (m := 3000) hcl (Nat.le_of_ble_eq_true rfl)), (Nat.le_trans (m := 30000) hsl (Nat.le_of_ble_eq_true rfl))⟩ rfl (fun H locs hG => ?_)
          refine lv_icmp_eq (tgt := 1056) S.1 S.2.1 dL_law_1051 (by decide) (fun _ => ?_) (fun h9 => absurd (by rw [(hH h hh9).2.2.2 c1037]) h9)
          refine lv_iinc (v := nI (h + 1)) (lv' := [(15, .int (nI (h + 1))), (0, .ref b), (1, .ref (ad (0, 0, 0))), (2, .int (nI (xS x))), (3, .int (nI (xR x))), (4, .int (nI sn)), (5, .int (nI i)), (11, .long (dgX x))]) S.1 S.2.1 dL_law_1056 hl (k := 7) rfl (nI_1 h) (by decide) rfl (fun ls hl => ?_)
          refine lv_goto (tgt := 963) S.1 S.2.1 dL_law_1059 (by decide) ?_
          exact ih963 (h + 1) (by omega) _ _ _ hG (lv_sub hl [1, 2, 3, 4, 5, 6, 7, 0] rfl)
      · skip
        refine lv_aload_n S.1 S.2.1 dL_law_1002 rfl (lv_at hl 1 rfl) ?_
        refine lv_iload S.1 S.2.1 dL_law_1003 (lv_at hl 7 rfl) ?_
        refine lv_iconst (v := 3) S.1 S.2.1 dL_law_1005 (by decide) ?_
        refine hm_uV (As := [.int (nI h), .int 3]) (rest := []) (st1 := [.int (nI (ccX x (xHu x h)))]) S hE hG (c_X6_ofHush l g ad M x hx h hh9 3 (by omega)) (hm_gV hb_584 hb_547 hb_548 hb_2 hb_549) hd_X6_ofHush rfl hX rfl rfl ⟨Nat.le_of_ble_eq_true rfl, Nat.le_of_ble_eq_true rfl⟩ rfl hl.1 rfl (Nat.le_of_ble_eq_true rfl) dL_law_1006 ⟨(Nat.le_trans (m := 3000) hcl (Nat.le_of_ble_eq_true rfl)), (Nat.le_trans (m := 30000) hsl (Nat.le_of_ble_eq_true rfl))⟩ rfl (fun H locs hG => ?_)
        refine lv_if_gt (tgt := 1054) S.1 S.2.1 dL_law_1009 (by decide) (fun h9 => absurd h9 (by rw [(hH h hh9).2.1 c999]; decide)) (fun _ => ?_)
        refine lv_aload_n S.1 S.2.1 dL_law_1012 rfl (lv_at hl 1 rfl) ?_
        refine lv_iload S.1 S.2.1 dL_law_1013 (lv_at hl 7 rfl) ?_
        refine hm_uV (As := [.int (nI h)]) (rest := []) (st1 := [.int (nI (clX x (nI h)))]) S hE hG (c_X6_loudWithout l g ad M x hx h hh9) (hm_gV hb_585 hb_586 hb_587 hb_2 hb_588) hd_X6_loudWithout rfl hX rfl rfl ⟨Nat.le_of_ble_eq_true rfl, Nat.le_of_ble_eq_true rfl⟩ rfl hl.1 rfl (Nat.le_of_ble_eq_true rfl) dL_law_1015 ⟨(Nat.le_trans (m := 3000) hcl (Nat.le_of_ble_eq_true rfl)), (Nat.le_trans (m := 30000) hsl (Nat.le_of_ble_eq_true rfl))⟩ rfl (fun H locs hG => ?_)
        refine lv_aload_n S.1 S.2.1 dL_law_1018 rfl (lv_at hl 1 rfl) ?_
        refine lv_iconst (v := 4) S.1 S.2.1 dL_law_1019 (by decide) ?_
        refine hm_uV (As := [.int 4]) (rest := [.int (nI (clX x (nI h)))]) (st1 := [.int (nI (caX x 2)), .int (nI (clX x (nI h)))]) S hE hG (c_X6_many l g ad M x hx 4 (by omega)) (hm_gV hb_262 hb_263 hb_264 hb_2 hb_265) hd_X6_many rfl hX rfl rfl ⟨Nat.le_of_ble_eq_true rfl, Nat.le_of_ble_eq_true rfl⟩ rfl hl.1 rfl (Nat.le_of_ble_eq_true rfl) dL_law_1020 ⟨(Nat.le_trans (m := 3000) hcl (Nat.le_of_ble_eq_true rfl)), (Nat.le_trans (m := 30000) hsl (Nat.le_of_ble_eq_true rfl))⟩ rfl (fun H locs hG => ?_)
        refine lv_icmp_gt (tgt := 1054) S.1 S.2.1 dL_law_1023 (by decide) (fun h9 => absurd h9 (nI_nlt (hH h hh9).2.2.1 (by omega))) (fun _ => ?_)
        refine lv_aload_n S.1 S.2.1 dL_law_1026 rfl (lv_at hl 1 rfl) ?_
        refine lv_iload S.1 S.2.1 dL_law_1027 (lv_at hl 7 rfl) ?_
        refine lv_iconst (v := 2) S.1 S.2.1 dL_law_1029 (by decide) ?_
        refine hm_uV (As := [.int (nI h), .int 2]) (rest := []) (st1 := [.int (xHu x h).2.2]) S hE hG (c_X6_ofHush l g ad M x hx h hh9 2 (by omega)) (hm_gV hb_584 hb_547 hb_548 hb_2 hb_549) hd_X6_ofHush rfl hX rfl rfl ⟨Nat.le_of_ble_eq_true rfl, Nat.le_of_ble_eq_true rfl⟩ rfl hl.1 rfl (Nat.le_of_ble_eq_true rfl) dL_law_1030 ⟨(Nat.le_trans (m := 3000) hcl (Nat.le_of_ble_eq_true rfl)), (Nat.le_trans (m := 30000) hsl (Nat.le_of_ble_eq_true rfl))⟩ rfl (fun H locs hG => ?_)
        refine lv_aload_n S.1 S.2.1 dL_law_1033 rfl (lv_at hl 1 rfl) ?_
        refine hm_uV (As := []) (rest := [.int (xHu x h).2.2]) (st1 := [.int (nI (xC x)), .int (xHu x h).2.2]) S hE hG (c_X6_clock l g ad M x hx) (hm_gV hb_580 hb_491 hb_492 hb_2 hb_493) hd_X6_clock rfl hX rfl rfl ⟨Nat.le_of_ble_eq_true rfl, Nat.le_of_ble_eq_true rfl⟩ rfl hl.1 rfl (Nat.le_of_ble_eq_true rfl) dL_law_1034 ⟨(Nat.le_trans (m := 3000) hcl (Nat.le_of_ble_eq_true rfl)), (Nat.le_trans (m := 30000) hsl (Nat.le_of_ble_eq_true rfl))⟩ rfl (fun H locs hG => ?_)
        refine lv_icmp_gt (tgt := 1056) S.1 S.2.1 dL_law_1037 (by decide) (fun c1037 => ?_) (fun c1037 => ?_)
        · skip
          refine lv_iinc (v := nI (h + 1)) (lv' := [(15, .int (nI (h + 1))), (0, .ref b), (1, .ref (ad (0, 0, 0))), (2, .int (nI (xS x))), (3, .int (nI (xR x))), (4, .int (nI sn)), (5, .int (nI i)), (11, .long (dgX x))]) S.1 S.2.1 dL_law_1056 hl (k := 7) rfl (nI_1 h) (by decide) rfl (fun ls hl => ?_)
          refine lv_goto (tgt := 963) S.1 S.2.1 dL_law_1059 (by decide) ?_
          exact ih963 (h + 1) (by omega) _ _ _ hG (lv_sub hl [1, 2, 3, 4, 5, 6, 7, 0] rfl)
        · skip
          refine lv_aload_n S.1 S.2.1 dL_law_1040 rfl (lv_at hl 1 rfl) ?_
          refine lv_iload S.1 S.2.1 dL_law_1041 (lv_at hl 7 rfl) ?_
          refine hm_uV (As := [.int (nI h)]) (rest := []) (st1 := [.int (nI (clX x (nI h)))]) S hE hG (c_X6_loudWithout l g ad M x hx h hh9) (hm_gV hb_585 hb_586 hb_587 hb_2 hb_588) hd_X6_loudWithout rfl hX rfl rfl ⟨Nat.le_of_ble_eq_true rfl, Nat.le_of_ble_eq_true rfl⟩ rfl hl.1 rfl (Nat.le_of_ble_eq_true rfl) dL_law_1043 ⟨(Nat.le_trans (m := 3000) hcl (Nat.le_of_ble_eq_true rfl)), (Nat.le_trans (m := 30000) hsl (Nat.le_of_ble_eq_true rfl))⟩ rfl (fun H locs hG => ?_)
          refine lv_aload_n S.1 S.2.1 dL_law_1046 rfl (lv_at hl 1 rfl) ?_
          refine lv_iconst (v := 5) S.1 S.2.1 dL_law_1047 (by decide) ?_
          refine hm_uV (As := [.int 5]) (rest := [.int (nI (clX x (nI h)))]) (st1 := [.int (nI (clX x (-1))), .int (nI (clX x (nI h)))]) S hE hG (c_X6_many l g ad M x hx 5 (by omega)) (hm_gV hb_262 hb_263 hb_264 hb_2 hb_265) hd_X6_many rfl hX rfl rfl ⟨Nat.le_of_ble_eq_true rfl, Nat.le_of_ble_eq_true rfl⟩ rfl hl.1 rfl (Nat.le_of_ble_eq_true rfl) dL_law_1048 ⟨(Nat.le_trans (m := 3000) hcl (Nat.le_of_ble_eq_true rfl)), (Nat.le_trans (m := 30000) hsl (Nat.le_of_ble_eq_true rfl))⟩ rfl (fun H locs hG => ?_)
          refine lv_icmp_eq (tgt := 1056) S.1 S.2.1 dL_law_1051 (by decide) (fun _ => ?_) (fun h9 => absurd (by rw [(hH h hh9).2.2.2 c1037]) h9)
          refine lv_iinc (v := nI (h + 1)) (lv' := [(15, .int (nI (h + 1))), (0, .ref b), (1, .ref (ad (0, 0, 0))), (2, .int (nI (xS x))), (3, .int (nI (xR x))), (4, .int (nI sn)), (5, .int (nI i)), (11, .long (dgX x))]) S.1 S.2.1 dL_law_1056 hl (k := 7) rfl (nI_1 h) (by decide) rfl (fun ls hl => ?_)
          refine lv_goto (tgt := 963) S.1 S.2.1 dL_law_1059 (by decide) ?_
          exact ih963 (h + 1) (by omega) _ _ _ hG (lv_sub hl [1, 2, 3, 4, 5, 6, 7, 0] rfl)
  exact L963_0 (xH x) 0 (by omega) _ _ _ hG (lv_sub hl [1, 2, 3, 4, 5, 6, 7, 0] rfl)

set_option maxHeartbeats 4000000 in
set_option maxRecDepth 100000 in
theorem seg_ser {p : Program} {l : Launch} {e : Env} {s : State} {m : MethodId} {below : List Frame} {meth : Method} {c : Code} {b L : Nat} {xs : Nat → Int32} {g : GV} (C0 : LC p s m meth c b L xs g) {ad : AD} {M : CT} {x : XD} (hx : hasX g ad M x) (sn i : Nat) (hS : ∀ k, k < xS x → (∀ w, w = 1 ∨ w = 5 ∨ w = 9 → ¬ lookF (xSe x k) 3 w 0 < lookF (xSe x k) 4 w 0 ∧ ¬ lookF (xSe x k) 2 w 0 < lookF (xSe x k) 4 w 0 ∧ ¬ lookF (xSe x k) 3 w 0 < lookF (xSe x k) 2 w 0 ∧ ¬ lookF (xSe x k) 6 w 0 < lookF (xSe x k) 5 w 0 ∧ ¬ lookF (xSe x k) 7 w 0 < lookF (xSe x k) 6 w 0 ∧ ¬ lookF (xSe x k) 8 w 0 < lookF (xSe x k) 7 w 0 ∧ lookF (xSe x k) 8 w 0 ≤ 500) ∧ sHe (xSe x k) = min 13 (xC x)) (hC : xC x < 10000) {H : Heap} {locs : List Loc} {ls : Array Slot} {cl sl : Nat} (hG : hm_G g ad M s.heap H locs) (hl : lv_has ls 20 [(0, .ref b), (1, .ref (ad (0, 0, 0))), (2, .int (nI (xS x))), (3, .int (nI (xR x))), (4, .int (nI sn)), (5, .int (nI i)), (11, .long (dgX x))]) (hcl : cl ≤ 3000) (hsl : sl ≤ 30000) (kk : ∀ (H : Heap) (locs : List Loc) (ls : Array Slot), hm_G g ad M s.heap H locs → lv_has ls 20 [(0, .ref b), (1, .ref (ad (0, 0, 0))), (2, .int (nI (xS x))), (3, .int (nI (xR x))), (4, .int (nI sn)), (5, .int (nI i)), (11, .long (dgX x))] → W p l e room_1 s m #[Value.ref b] below meth c H locs cl sl (lw_Z below #[Value.ref b] s) (F0 m 960 ls [])) : W p l e room_1 s m #[Value.ref b] below meth c H locs cl sl (lw_Z below #[Value.ref b] s) (F0 m 718 ls []) := by
  obtain ⟨S, hr, hlk, hE, hB0, hX0, hL⟩ := id C0
  obtain ⟨hX, hLs, hLr, hLh, h7, hLg, h70, hSe, hRu, hHu, hGr, hS6, hR6, hH5⟩ := id hx
  obtain ⟨fs1, hb1⟩ := hLs.ob
  obtain ⟨fs2, hb2⟩ := hLr.ob
  obtain ⟨fs3, hb3⟩ := hLh.ob
  refine lv_iconst (v := 0) S.1 S.2.1 dL_law_718 (by decide) ?_
  refine lv_istore (lv' := [(15, .int 0), (0, .ref b), (1, .ref (ad (0, 0, 0))), (2, .int (nI (xS x))), (3, .int (nI (xR x))), (4, .int (nI sn)), (5, .int (nI i)), (11, .long (dgX x))]) S.1 S.2.1 dL_law_719 hl (by decide) rfl (fun ls hl => ?_)
  have L721_0 : ∀ (n : Nat) (k : Nat), n + k = xS x → ∀ (H : Heap) (locs : List Loc) (ls : Array Slot), hm_G g ad M s.heap H locs → lv_has ls 20 [(0, .ref b), (1, .ref (ad (0, 0, 0))), (2, .int (nI (xS x))), (3, .int (nI (xR x))), (4, .int (nI sn)), (5, .int (nI i)), (11, .long (dgX x)), (15, .int (nI k))] → W p l e room_1 s m #[Value.ref b] below meth c H locs cl sl (lw_Z below #[Value.ref b] s) (F0 m 721 ls []) := by
    intro n
    induction n with
    | zero =>
      intro k h0721 H locs ls hG hl
      have e7 : k = xS x := by omega
      subst e7
      refine lv_iload S.1 S.2.1 dL_law_721 (lv_at hl 7 rfl) ?_
      refine lv_iload_n S.1 S.2.1 dL_law_723 rfl (lv_at hl 2 rfl) ?_
      refine lv_icmp_ge (tgt := 960) S.1 S.2.1 dL_law_724 (by decide) (fun _ => ?_) (fun h9 => absurd (nI_le (Nat.le_refl _) (by omega)) h9)
      exact kk _ _ _ hG (lv_sub hl [0, 1, 2, 3, 4, 5, 6] rfl)
    | succ n ih721 =>
      intro k h0721 H locs ls hG hl
      have hk9 : k < xS x := by omega
      refine lv_iload S.1 S.2.1 dL_law_721 (lv_at hl 7 rfl) ?_
      refine lv_iload_n S.1 S.2.1 dL_law_723 rfl (lv_at hl 2 rfl) ?_
      refine lv_icmp_ge (tgt := 960) S.1 S.2.1 dL_law_724 (by decide) (fun h9 => absurd h9 (nI_ge hk9 (by omega))) (fun _ => ?_)
      refine lv_iconst (v := 1) S.1 S.2.1 dL_law_727 (by decide) ?_
      refine lv_istore (lv' := [(16, .int 1), (0, .ref b), (1, .ref (ad (0, 0, 0))), (2, .int (nI (xS x))), (3, .int (nI (xR x))), (4, .int (nI sn)), (5, .int (nI i)), (11, .long (dgX x)), (15, .int (nI k))]) S.1 S.2.1 dL_law_728 hl (by decide) rfl (fun ls hl => ?_)
      refine lv_iload S.1 S.2.1 dL_law_730 (lv_at hl 0 rfl) ?_
      refine lv_bipush (v := 13) S.1 S.2.1 dL_law_732 (by decide) ?_
      refine lv_icmp_ge (tgt := 892) S.1 S.2.1 dL_law_734 (by decide) (fun h9 => absurd h9 (by decide)) (fun _ => ?_)
      refine lv_aload_n S.1 S.2.1 dL_law_737 rfl (lv_at hl 2 rfl) ?_
      refine lv_iload S.1 S.2.1 dL_law_738 (lv_at hl 8 rfl) ?_
      refine lv_iconst (v := 4) S.1 S.2.1 dL_law_740 (by decide) ?_
      refine lv_iload S.1 S.2.1 dL_law_741 (lv_at hl 0 rfl) ?_
      refine hm_uV (As := [.int (nI k), .int 4, .int 1]) (rest := []) (st1 := [.int (lookF (xSe x k) 4 1 0)]) S hE hG (c_X6_look l g ad M x hx k 4 1 hk9 (by omega) (by omega) (by omega)) (hm_gV hb_581 hb_514 hb_515 hb_2 hb_516) hd_X6_look rfl hX rfl rfl ⟨Nat.le_of_ble_eq_true rfl, Nat.le_of_ble_eq_true rfl⟩ rfl hl.1 rfl (Nat.le_of_ble_eq_true rfl) dL_law_743 ⟨(Nat.le_trans (m := 3000) hcl (Nat.le_of_ble_eq_true rfl)), (Nat.le_trans (m := 30000) hsl (Nat.le_of_ble_eq_true rfl))⟩ rfl (fun H locs hG => ?_)
      refine lv_aload_n S.1 S.2.1 dL_law_746 rfl (lv_at hl 2 rfl) ?_
      refine lv_iload S.1 S.2.1 dL_law_747 (lv_at hl 8 rfl) ?_
      refine lv_iconst (v := 3) S.1 S.2.1 dL_law_749 (by decide) ?_
      refine lv_iload S.1 S.2.1 dL_law_750 (lv_at hl 0 rfl) ?_
      refine hm_uV (As := [.int (nI k), .int 3, .int 1]) (rest := [.int (lookF (xSe x k) 4 1 0)]) (st1 := [.int (lookF (xSe x k) 3 1 0), .int (lookF (xSe x k) 4 1 0)]) S hE hG (c_X6_look l g ad M x hx k 3 1 hk9 (by omega) (by omega) (by omega)) (hm_gV hb_581 hb_514 hb_515 hb_2 hb_516) hd_X6_look rfl hX rfl rfl ⟨Nat.le_of_ble_eq_true rfl, Nat.le_of_ble_eq_true rfl⟩ rfl hl.1 rfl (Nat.le_of_ble_eq_true rfl) dL_law_752 ⟨(Nat.le_trans (m := 3000) hcl (Nat.le_of_ble_eq_true rfl)), (Nat.le_trans (m := 30000) hsl (Nat.le_of_ble_eq_true rfl))⟩ rfl (fun H locs hG => ?_)
      refine lv_icmp_gt (tgt := 884) S.1 S.2.1 dL_law_755 (by decide) (fun h9 => absurd h9 (((hS k hk9).1 1 (by decide)).1)) (fun _ => ?_)
      refine lv_aload_n S.1 S.2.1 dL_law_758 rfl (lv_at hl 2 rfl) ?_
      refine lv_iload S.1 S.2.1 dL_law_759 (lv_at hl 8 rfl) ?_
      refine lv_iconst (v := 2) S.1 S.2.1 dL_law_761 (by decide) ?_
      refine lv_iload S.1 S.2.1 dL_law_762 (lv_at hl 0 rfl) ?_
      refine hm_uV (As := [.int (nI k), .int 2, .int 1]) (rest := []) (st1 := [.int (lookF (xSe x k) 2 1 0)]) S hE hG (c_X6_look l g ad M x hx k 2 1 hk9 (by omega) (by omega) (by omega)) (hm_gV hb_581 hb_514 hb_515 hb_2 hb_516) hd_X6_look rfl hX rfl rfl ⟨Nat.le_of_ble_eq_true rfl, Nat.le_of_ble_eq_true rfl⟩ rfl hl.1 rfl (Nat.le_of_ble_eq_true rfl) dL_law_764 ⟨(Nat.le_trans (m := 3000) hcl (Nat.le_of_ble_eq_true rfl)), (Nat.le_trans (m := 30000) hsl (Nat.le_of_ble_eq_true rfl))⟩ rfl (fun H locs hG => ?_)
      refine lv_aload_n S.1 S.2.1 dL_law_767 rfl (lv_at hl 2 rfl) ?_
      refine lv_iload S.1 S.2.1 dL_law_768 (lv_at hl 8 rfl) ?_
      refine lv_iconst (v := 4) S.1 S.2.1 dL_law_770 (by decide) ?_
      refine lv_iload S.1 S.2.1 dL_law_771 (lv_at hl 0 rfl) ?_
      refine hm_uV (As := [.int (nI k), .int 4, .int 1]) (rest := [.int (lookF (xSe x k) 2 1 0)]) (st1 := [.int (lookF (xSe x k) 4 1 0), .int (lookF (xSe x k) 2 1 0)]) S hE hG (c_X6_look l g ad M x hx k 4 1 hk9 (by omega) (by omega) (by omega)) (hm_gV hb_581 hb_514 hb_515 hb_2 hb_516) hd_X6_look rfl hX rfl rfl ⟨Nat.le_of_ble_eq_true rfl, Nat.le_of_ble_eq_true rfl⟩ rfl hl.1 rfl (Nat.le_of_ble_eq_true rfl) dL_law_773 ⟨(Nat.le_trans (m := 3000) hcl (Nat.le_of_ble_eq_true rfl)), (Nat.le_trans (m := 30000) hsl (Nat.le_of_ble_eq_true rfl))⟩ rfl (fun H locs hG => ?_)
      refine lv_icmp_lt (tgt := 884) S.1 S.2.1 dL_law_776 (by decide) (fun h9 => absurd h9 (((hS k hk9).1 1 (by decide)).2.1)) (fun _ => ?_)
      refine lv_aload_n S.1 S.2.1 dL_law_779 rfl (lv_at hl 2 rfl) ?_
      refine lv_iload S.1 S.2.1 dL_law_780 (lv_at hl 8 rfl) ?_
      refine lv_iconst (v := 2) S.1 S.2.1 dL_law_782 (by decide) ?_
      refine lv_iload S.1 S.2.1 dL_law_783 (lv_at hl 0 rfl) ?_
      refine hm_uV (As := [.int (nI k), .int 2, .int 1]) (rest := []) (st1 := [.int (lookF (xSe x k) 2 1 0)]) S hE hG (c_X6_look l g ad M x hx k 2 1 hk9 (by omega) (by omega) (by omega)) (hm_gV hb_581 hb_514 hb_515 hb_2 hb_516) hd_X6_look rfl hX rfl rfl ⟨Nat.le_of_ble_eq_true rfl, Nat.le_of_ble_eq_true rfl⟩ rfl hl.1 rfl (Nat.le_of_ble_eq_true rfl) dL_law_785 ⟨(Nat.le_trans (m := 3000) hcl (Nat.le_of_ble_eq_true rfl)), (Nat.le_trans (m := 30000) hsl (Nat.le_of_ble_eq_true rfl))⟩ rfl (fun H locs hG => ?_)
      refine lv_aload_n S.1 S.2.1 dL_law_788 rfl (lv_at hl 2 rfl) ?_
      refine lv_iload S.1 S.2.1 dL_law_789 (lv_at hl 8 rfl) ?_
      refine lv_iconst (v := 3) S.1 S.2.1 dL_law_791 (by decide) ?_
      refine lv_iload S.1 S.2.1 dL_law_792 (lv_at hl 0 rfl) ?_
      refine hm_uV (As := [.int (nI k), .int 3, .int 1]) (rest := [.int (lookF (xSe x k) 2 1 0)]) (st1 := [.int (lookF (xSe x k) 3 1 0), .int (lookF (xSe x k) 2 1 0)]) S hE hG (c_X6_look l g ad M x hx k 3 1 hk9 (by omega) (by omega) (by omega)) (hm_gV hb_581 hb_514 hb_515 hb_2 hb_516) hd_X6_look rfl hX rfl rfl ⟨Nat.le_of_ble_eq_true rfl, Nat.le_of_ble_eq_true rfl⟩ rfl hl.1 rfl (Nat.le_of_ble_eq_true rfl) dL_law_794 ⟨(Nat.le_trans (m := 3000) hcl (Nat.le_of_ble_eq_true rfl)), (Nat.le_trans (m := 30000) hsl (Nat.le_of_ble_eq_true rfl))⟩ rfl (fun H locs hG => ?_)
      refine lv_icmp_gt (tgt := 884) S.1 S.2.1 dL_law_797 (by decide) (fun h9 => absurd h9 (((hS k hk9).1 1 (by decide)).2.2.1)) (fun _ => ?_)
      refine lv_aload_n S.1 S.2.1 dL_law_800 rfl (lv_at hl 2 rfl) ?_
      refine lv_iload S.1 S.2.1 dL_law_801 (lv_at hl 8 rfl) ?_
      refine lv_iconst (v := 5) S.1 S.2.1 dL_law_803 (by decide) ?_
      refine lv_iload S.1 S.2.1 dL_law_804 (lv_at hl 0 rfl) ?_
      refine hm_uV (As := [.int (nI k), .int 5, .int 1]) (rest := []) (st1 := [.int (lookF (xSe x k) 5 1 0)]) S hE hG (c_X6_look l g ad M x hx k 5 1 hk9 (by omega) (by omega) (by omega)) (hm_gV hb_581 hb_514 hb_515 hb_2 hb_516) hd_X6_look rfl hX rfl rfl ⟨Nat.le_of_ble_eq_true rfl, Nat.le_of_ble_eq_true rfl⟩ rfl hl.1 rfl (Nat.le_of_ble_eq_true rfl) dL_law_806 ⟨(Nat.le_trans (m := 3000) hcl (Nat.le_of_ble_eq_true rfl)), (Nat.le_trans (m := 30000) hsl (Nat.le_of_ble_eq_true rfl))⟩ rfl (fun H locs hG => ?_)
      refine lv_aload_n S.1 S.2.1 dL_law_809 rfl (lv_at hl 2 rfl) ?_
      refine lv_iload S.1 S.2.1 dL_law_810 (lv_at hl 8 rfl) ?_
      refine lv_bipush (v := 6) S.1 S.2.1 dL_law_812 (by decide) ?_
      refine lv_iload S.1 S.2.1 dL_law_814 (lv_at hl 0 rfl) ?_
      refine hm_uV (As := [.int (nI k), .int 6, .int 1]) (rest := [.int (lookF (xSe x k) 5 1 0)]) (st1 := [.int (lookF (xSe x k) 6 1 0), .int (lookF (xSe x k) 5 1 0)]) S hE hG (c_X6_look l g ad M x hx k 6 1 hk9 (by omega) (by omega) (by omega)) (hm_gV hb_581 hb_514 hb_515 hb_2 hb_516) hd_X6_look rfl hX rfl rfl ⟨Nat.le_of_ble_eq_true rfl, Nat.le_of_ble_eq_true rfl⟩ rfl hl.1 rfl (Nat.le_of_ble_eq_true rfl) dL_law_816 ⟨(Nat.le_trans (m := 3000) hcl (Nat.le_of_ble_eq_true rfl)), (Nat.le_trans (m := 30000) hsl (Nat.le_of_ble_eq_true rfl))⟩ rfl (fun H locs hG => ?_)
      refine lv_icmp_gt (tgt := 884) S.1 S.2.1 dL_law_819 (by decide) (fun h9 => absurd h9 (((hS k hk9).1 1 (by decide)).2.2.2.1)) (fun _ => ?_)
      refine lv_aload_n S.1 S.2.1 dL_law_822 rfl (lv_at hl 2 rfl) ?_
      refine lv_iload S.1 S.2.1 dL_law_823 (lv_at hl 8 rfl) ?_
      refine lv_bipush (v := 6) S.1 S.2.1 dL_law_825 (by decide) ?_
      refine lv_iload S.1 S.2.1 dL_law_827 (lv_at hl 0 rfl) ?_
      refine hm_uV (As := [.int (nI k), .int 6, .int 1]) (rest := []) (st1 := [.int (lookF (xSe x k) 6 1 0)]) S hE hG (c_X6_look l g ad M x hx k 6 1 hk9 (by omega) (by omega) (by omega)) (hm_gV hb_581 hb_514 hb_515 hb_2 hb_516) hd_X6_look rfl hX rfl rfl ⟨Nat.le_of_ble_eq_true rfl, Nat.le_of_ble_eq_true rfl⟩ rfl hl.1 rfl (Nat.le_of_ble_eq_true rfl) dL_law_829 ⟨(Nat.le_trans (m := 3000) hcl (Nat.le_of_ble_eq_true rfl)), (Nat.le_trans (m := 30000) hsl (Nat.le_of_ble_eq_true rfl))⟩ rfl (fun H locs hG => ?_)
      refine lv_aload_n S.1 S.2.1 dL_law_832 rfl (lv_at hl 2 rfl) ?_
      refine lv_iload S.1 S.2.1 dL_law_833 (lv_at hl 8 rfl) ?_
      refine lv_bipush (v := 7) S.1 S.2.1 dL_law_835 (by decide) ?_
      refine lv_iload S.1 S.2.1 dL_law_837 (lv_at hl 0 rfl) ?_
      refine hm_uV (As := [.int (nI k), .int 7, .int 1]) (rest := [.int (lookF (xSe x k) 6 1 0)]) (st1 := [.int (lookF (xSe x k) 7 1 0), .int (lookF (xSe x k) 6 1 0)]) S hE hG (c_X6_look l g ad M x hx k 7 1 hk9 (by omega) (by omega) (by omega)) (hm_gV hb_581 hb_514 hb_515 hb_2 hb_516) hd_X6_look rfl hX rfl rfl ⟨Nat.le_of_ble_eq_true rfl, Nat.le_of_ble_eq_true rfl⟩ rfl hl.1 rfl (Nat.le_of_ble_eq_true rfl) dL_law_839 ⟨(Nat.le_trans (m := 3000) hcl (Nat.le_of_ble_eq_true rfl)), (Nat.le_trans (m := 30000) hsl (Nat.le_of_ble_eq_true rfl))⟩ rfl (fun H locs hG => ?_)
      refine lv_icmp_gt (tgt := 884) S.1 S.2.1 dL_law_842 (by decide) (fun h9 => absurd h9 (((hS k hk9).1 1 (by decide)).2.2.2.2.1)) (fun _ => ?_)
      refine lv_aload_n S.1 S.2.1 dL_law_845 rfl (lv_at hl 2 rfl) ?_
      refine lv_iload S.1 S.2.1 dL_law_846 (lv_at hl 8 rfl) ?_
      refine lv_bipush (v := 7) S.1 S.2.1 dL_law_848 (by decide) ?_
      refine lv_iload S.1 S.2.1 dL_law_850 (lv_at hl 0 rfl) ?_
      refine hm_uV (As := [.int (nI k), .int 7, .int 1]) (rest := []) (st1 := [.int (lookF (xSe x k) 7 1 0)]) S hE hG (c_X6_look l g ad M x hx k 7 1 hk9 (by omega) (by omega) (by omega)) (hm_gV hb_581 hb_514 hb_515 hb_2 hb_516) hd_X6_look rfl hX rfl rfl ⟨Nat.le_of_ble_eq_true rfl, Nat.le_of_ble_eq_true rfl⟩ rfl hl.1 rfl (Nat.le_of_ble_eq_true rfl) dL_law_852 ⟨(Nat.le_trans (m := 3000) hcl (Nat.le_of_ble_eq_true rfl)), (Nat.le_trans (m := 30000) hsl (Nat.le_of_ble_eq_true rfl))⟩ rfl (fun H locs hG => ?_)
      refine lv_aload_n S.1 S.2.1 dL_law_855 rfl (lv_at hl 2 rfl) ?_
      refine lv_iload S.1 S.2.1 dL_law_856 (lv_at hl 8 rfl) ?_
      refine lv_bipush (v := 8) S.1 S.2.1 dL_law_858 (by decide) ?_
      refine lv_iload S.1 S.2.1 dL_law_860 (lv_at hl 0 rfl) ?_
      refine hm_uV (As := [.int (nI k), .int 8, .int 1]) (rest := [.int (lookF (xSe x k) 7 1 0)]) (st1 := [.int (lookF (xSe x k) 8 1 0), .int (lookF (xSe x k) 7 1 0)]) S hE hG (c_X6_look l g ad M x hx k 8 1 hk9 (by omega) (by omega) (by omega)) (hm_gV hb_581 hb_514 hb_515 hb_2 hb_516) hd_X6_look rfl hX rfl rfl ⟨Nat.le_of_ble_eq_true rfl, Nat.le_of_ble_eq_true rfl⟩ rfl hl.1 rfl (Nat.le_of_ble_eq_true rfl) dL_law_862 ⟨(Nat.le_trans (m := 3000) hcl (Nat.le_of_ble_eq_true rfl)), (Nat.le_trans (m := 30000) hsl (Nat.le_of_ble_eq_true rfl))⟩ rfl (fun H locs hG => ?_)
      refine lv_icmp_gt (tgt := 884) S.1 S.2.1 dL_law_865 (by decide) (fun h9 => absurd h9 (((hS k hk9).1 1 (by decide)).2.2.2.2.2.1)) (fun _ => ?_)
      refine lv_aload_n S.1 S.2.1 dL_law_868 rfl (lv_at hl 2 rfl) ?_
      refine lv_iload S.1 S.2.1 dL_law_869 (lv_at hl 8 rfl) ?_
      refine lv_bipush (v := 8) S.1 S.2.1 dL_law_871 (by decide) ?_
      refine lv_iload S.1 S.2.1 dL_law_873 (lv_at hl 0 rfl) ?_
      refine hm_uV (As := [.int (nI k), .int 8, .int 1]) (rest := []) (st1 := [.int (lookF (xSe x k) 8 1 0)]) S hE hG (c_X6_look l g ad M x hx k 8 1 hk9 (by omega) (by omega) (by omega)) (hm_gV hb_581 hb_514 hb_515 hb_2 hb_516) hd_X6_look rfl hX rfl rfl ⟨Nat.le_of_ble_eq_true rfl, Nat.le_of_ble_eq_true rfl⟩ rfl hl.1 rfl (Nat.le_of_ble_eq_true rfl) dL_law_875 ⟨(Nat.le_trans (m := 3000) hcl (Nat.le_of_ble_eq_true rfl)), (Nat.le_trans (m := 30000) hsl (Nat.le_of_ble_eq_true rfl))⟩ rfl (fun H locs hG => ?_)
      refine lv_sipush (v := 500) S.1 S.2.1 dL_law_878 (by decide) ?_
      refine lv_icmp_le (tgt := 886) S.1 S.2.1 dL_law_881 (by decide) (fun _ => ?_) (fun h9 => absurd (((hS k hk9).1 1 (by decide)).2.2.2.2.2.2) h9)
      refine lv_iinc (v := 5) (lv' := [(16, .int 5), (0, .ref b), (1, .ref (ad (0, 0, 0))), (2, .int (nI (xS x))), (3, .int (nI (xR x))), (4, .int (nI sn)), (5, .int (nI i)), (11, .long (dgX x)), (15, .int (nI k))]) S.1 S.2.1 dL_law_886 hl (k := 0) rfl (by decide) (by decide) rfl (fun ls hl => ?_)
      refine lv_goto (tgt := 730) S.1 S.2.1 dL_law_889 (by decide) ?_
      refine lv_iload S.1 S.2.1 dL_law_730 (lv_at hl 0 rfl) ?_
      refine lv_bipush (v := 13) S.1 S.2.1 dL_law_732 (by decide) ?_
      refine lv_icmp_ge (tgt := 892) S.1 S.2.1 dL_law_734 (by decide) (fun h9 => absurd h9 (by decide)) (fun _ => ?_)
      refine lv_aload_n S.1 S.2.1 dL_law_737 rfl (lv_at hl 2 rfl) ?_
      refine lv_iload S.1 S.2.1 dL_law_738 (lv_at hl 8 rfl) ?_
      refine lv_iconst (v := 4) S.1 S.2.1 dL_law_740 (by decide) ?_
      refine lv_iload S.1 S.2.1 dL_law_741 (lv_at hl 0 rfl) ?_
      refine hm_uV (As := [.int (nI k), .int 4, .int 5]) (rest := []) (st1 := [.int (lookF (xSe x k) 4 5 0)]) S hE hG (c_X6_look l g ad M x hx k 4 5 hk9 (by omega) (by omega) (by omega)) (hm_gV hb_581 hb_514 hb_515 hb_2 hb_516) hd_X6_look rfl hX rfl rfl ⟨Nat.le_of_ble_eq_true rfl, Nat.le_of_ble_eq_true rfl⟩ rfl hl.1 rfl (Nat.le_of_ble_eq_true rfl) dL_law_743 ⟨(Nat.le_trans (m := 3000) hcl (Nat.le_of_ble_eq_true rfl)), (Nat.le_trans (m := 30000) hsl (Nat.le_of_ble_eq_true rfl))⟩ rfl (fun H locs hG => ?_)
      refine lv_aload_n S.1 S.2.1 dL_law_746 rfl (lv_at hl 2 rfl) ?_
      refine lv_iload S.1 S.2.1 dL_law_747 (lv_at hl 8 rfl) ?_
      refine lv_iconst (v := 3) S.1 S.2.1 dL_law_749 (by decide) ?_
      refine lv_iload S.1 S.2.1 dL_law_750 (lv_at hl 0 rfl) ?_
      refine hm_uV (As := [.int (nI k), .int 3, .int 5]) (rest := [.int (lookF (xSe x k) 4 5 0)]) (st1 := [.int (lookF (xSe x k) 3 5 0), .int (lookF (xSe x k) 4 5 0)]) S hE hG (c_X6_look l g ad M x hx k 3 5 hk9 (by omega) (by omega) (by omega)) (hm_gV hb_581 hb_514 hb_515 hb_2 hb_516) hd_X6_look rfl hX rfl rfl ⟨Nat.le_of_ble_eq_true rfl, Nat.le_of_ble_eq_true rfl⟩ rfl hl.1 rfl (Nat.le_of_ble_eq_true rfl) dL_law_752 ⟨(Nat.le_trans (m := 3000) hcl (Nat.le_of_ble_eq_true rfl)), (Nat.le_trans (m := 30000) hsl (Nat.le_of_ble_eq_true rfl))⟩ rfl (fun H locs hG => ?_)
      refine lv_icmp_gt (tgt := 884) S.1 S.2.1 dL_law_755 (by decide) (fun h9 => absurd h9 (((hS k hk9).1 5 (by decide)).1)) (fun _ => ?_)
      refine lv_aload_n S.1 S.2.1 dL_law_758 rfl (lv_at hl 2 rfl) ?_
      refine lv_iload S.1 S.2.1 dL_law_759 (lv_at hl 8 rfl) ?_
      refine lv_iconst (v := 2) S.1 S.2.1 dL_law_761 (by decide) ?_
      refine lv_iload S.1 S.2.1 dL_law_762 (lv_at hl 0 rfl) ?_
      refine hm_uV (As := [.int (nI k), .int 2, .int 5]) (rest := []) (st1 := [.int (lookF (xSe x k) 2 5 0)]) S hE hG (c_X6_look l g ad M x hx k 2 5 hk9 (by omega) (by omega) (by omega)) (hm_gV hb_581 hb_514 hb_515 hb_2 hb_516) hd_X6_look rfl hX rfl rfl ⟨Nat.le_of_ble_eq_true rfl, Nat.le_of_ble_eq_true rfl⟩ rfl hl.1 rfl (Nat.le_of_ble_eq_true rfl) dL_law_764 ⟨(Nat.le_trans (m := 3000) hcl (Nat.le_of_ble_eq_true rfl)), (Nat.le_trans (m := 30000) hsl (Nat.le_of_ble_eq_true rfl))⟩ rfl (fun H locs hG => ?_)
      refine lv_aload_n S.1 S.2.1 dL_law_767 rfl (lv_at hl 2 rfl) ?_
      refine lv_iload S.1 S.2.1 dL_law_768 (lv_at hl 8 rfl) ?_
      refine lv_iconst (v := 4) S.1 S.2.1 dL_law_770 (by decide) ?_
      refine lv_iload S.1 S.2.1 dL_law_771 (lv_at hl 0 rfl) ?_
      refine hm_uV (As := [.int (nI k), .int 4, .int 5]) (rest := [.int (lookF (xSe x k) 2 5 0)]) (st1 := [.int (lookF (xSe x k) 4 5 0), .int (lookF (xSe x k) 2 5 0)]) S hE hG (c_X6_look l g ad M x hx k 4 5 hk9 (by omega) (by omega) (by omega)) (hm_gV hb_581 hb_514 hb_515 hb_2 hb_516) hd_X6_look rfl hX rfl rfl ⟨Nat.le_of_ble_eq_true rfl, Nat.le_of_ble_eq_true rfl⟩ rfl hl.1 rfl (Nat.le_of_ble_eq_true rfl) dL_law_773 ⟨(Nat.le_trans (m := 3000) hcl (Nat.le_of_ble_eq_true rfl)), (Nat.le_trans (m := 30000) hsl (Nat.le_of_ble_eq_true rfl))⟩ rfl (fun H locs hG => ?_)
      refine lv_icmp_lt (tgt := 884) S.1 S.2.1 dL_law_776 (by decide) (fun h9 => absurd h9 (((hS k hk9).1 5 (by decide)).2.1)) (fun _ => ?_)
      refine lv_aload_n S.1 S.2.1 dL_law_779 rfl (lv_at hl 2 rfl) ?_
      refine lv_iload S.1 S.2.1 dL_law_780 (lv_at hl 8 rfl) ?_
      refine lv_iconst (v := 2) S.1 S.2.1 dL_law_782 (by decide) ?_
      refine lv_iload S.1 S.2.1 dL_law_783 (lv_at hl 0 rfl) ?_
      refine hm_uV (As := [.int (nI k), .int 2, .int 5]) (rest := []) (st1 := [.int (lookF (xSe x k) 2 5 0)]) S hE hG (c_X6_look l g ad M x hx k 2 5 hk9 (by omega) (by omega) (by omega)) (hm_gV hb_581 hb_514 hb_515 hb_2 hb_516) hd_X6_look rfl hX rfl rfl ⟨Nat.le_of_ble_eq_true rfl, Nat.le_of_ble_eq_true rfl⟩ rfl hl.1 rfl (Nat.le_of_ble_eq_true rfl) dL_law_785 ⟨(Nat.le_trans (m := 3000) hcl (Nat.le_of_ble_eq_true rfl)), (Nat.le_trans (m := 30000) hsl (Nat.le_of_ble_eq_true rfl))⟩ rfl (fun H locs hG => ?_)
      refine lv_aload_n S.1 S.2.1 dL_law_788 rfl (lv_at hl 2 rfl) ?_
      refine lv_iload S.1 S.2.1 dL_law_789 (lv_at hl 8 rfl) ?_
      refine lv_iconst (v := 3) S.1 S.2.1 dL_law_791 (by decide) ?_
      refine lv_iload S.1 S.2.1 dL_law_792 (lv_at hl 0 rfl) ?_
      refine hm_uV (As := [.int (nI k), .int 3, .int 5]) (rest := [.int (lookF (xSe x k) 2 5 0)]) (st1 := [.int (lookF (xSe x k) 3 5 0), .int (lookF (xSe x k) 2 5 0)]) S hE hG (c_X6_look l g ad M x hx k 3 5 hk9 (by omega) (by omega) (by omega)) (hm_gV hb_581 hb_514 hb_515 hb_2 hb_516) hd_X6_look rfl hX rfl rfl ⟨Nat.le_of_ble_eq_true rfl, Nat.le_of_ble_eq_true rfl⟩ rfl hl.1 rfl (Nat.le_of_ble_eq_true rfl) dL_law_794 ⟨(Nat.le_trans (m := 3000) hcl (Nat.le_of_ble_eq_true rfl)), (Nat.le_trans (m := 30000) hsl (Nat.le_of_ble_eq_true rfl))⟩ rfl (fun H locs hG => ?_)
      refine lv_icmp_gt (tgt := 884) S.1 S.2.1 dL_law_797 (by decide) (fun h9 => absurd h9 (((hS k hk9).1 5 (by decide)).2.2.1)) (fun _ => ?_)
      refine lv_aload_n S.1 S.2.1 dL_law_800 rfl (lv_at hl 2 rfl) ?_
      refine lv_iload S.1 S.2.1 dL_law_801 (lv_at hl 8 rfl) ?_
      refine lv_iconst (v := 5) S.1 S.2.1 dL_law_803 (by decide) ?_
      refine lv_iload S.1 S.2.1 dL_law_804 (lv_at hl 0 rfl) ?_
      refine hm_uV (As := [.int (nI k), .int 5, .int 5]) (rest := []) (st1 := [.int (lookF (xSe x k) 5 5 0)]) S hE hG (c_X6_look l g ad M x hx k 5 5 hk9 (by omega) (by omega) (by omega)) (hm_gV hb_581 hb_514 hb_515 hb_2 hb_516) hd_X6_look rfl hX rfl rfl ⟨Nat.le_of_ble_eq_true rfl, Nat.le_of_ble_eq_true rfl⟩ rfl hl.1 rfl (Nat.le_of_ble_eq_true rfl) dL_law_806 ⟨(Nat.le_trans (m := 3000) hcl (Nat.le_of_ble_eq_true rfl)), (Nat.le_trans (m := 30000) hsl (Nat.le_of_ble_eq_true rfl))⟩ rfl (fun H locs hG => ?_)
      refine lv_aload_n S.1 S.2.1 dL_law_809 rfl (lv_at hl 2 rfl) ?_
      refine lv_iload S.1 S.2.1 dL_law_810 (lv_at hl 8 rfl) ?_
      refine lv_bipush (v := 6) S.1 S.2.1 dL_law_812 (by decide) ?_
      refine lv_iload S.1 S.2.1 dL_law_814 (lv_at hl 0 rfl) ?_
      refine hm_uV (As := [.int (nI k), .int 6, .int 5]) (rest := [.int (lookF (xSe x k) 5 5 0)]) (st1 := [.int (lookF (xSe x k) 6 5 0), .int (lookF (xSe x k) 5 5 0)]) S hE hG (c_X6_look l g ad M x hx k 6 5 hk9 (by omega) (by omega) (by omega)) (hm_gV hb_581 hb_514 hb_515 hb_2 hb_516) hd_X6_look rfl hX rfl rfl ⟨Nat.le_of_ble_eq_true rfl, Nat.le_of_ble_eq_true rfl⟩ rfl hl.1 rfl (Nat.le_of_ble_eq_true rfl) dL_law_816 ⟨(Nat.le_trans (m := 3000) hcl (Nat.le_of_ble_eq_true rfl)), (Nat.le_trans (m := 30000) hsl (Nat.le_of_ble_eq_true rfl))⟩ rfl (fun H locs hG => ?_)
      refine lv_icmp_gt (tgt := 884) S.1 S.2.1 dL_law_819 (by decide) (fun h9 => absurd h9 (((hS k hk9).1 5 (by decide)).2.2.2.1)) (fun _ => ?_)
      refine lv_aload_n S.1 S.2.1 dL_law_822 rfl (lv_at hl 2 rfl) ?_
      refine lv_iload S.1 S.2.1 dL_law_823 (lv_at hl 8 rfl) ?_
      refine lv_bipush (v := 6) S.1 S.2.1 dL_law_825 (by decide) ?_
      refine lv_iload S.1 S.2.1 dL_law_827 (lv_at hl 0 rfl) ?_
      refine hm_uV (As := [.int (nI k), .int 6, .int 5]) (rest := []) (st1 := [.int (lookF (xSe x k) 6 5 0)]) S hE hG (c_X6_look l g ad M x hx k 6 5 hk9 (by omega) (by omega) (by omega)) (hm_gV hb_581 hb_514 hb_515 hb_2 hb_516) hd_X6_look rfl hX rfl rfl ⟨Nat.le_of_ble_eq_true rfl, Nat.le_of_ble_eq_true rfl⟩ rfl hl.1 rfl (Nat.le_of_ble_eq_true rfl) dL_law_829 ⟨(Nat.le_trans (m := 3000) hcl (Nat.le_of_ble_eq_true rfl)), (Nat.le_trans (m := 30000) hsl (Nat.le_of_ble_eq_true rfl))⟩ rfl (fun H locs hG => ?_)
      refine lv_aload_n S.1 S.2.1 dL_law_832 rfl (lv_at hl 2 rfl) ?_
      refine lv_iload S.1 S.2.1 dL_law_833 (lv_at hl 8 rfl) ?_
      refine lv_bipush (v := 7) S.1 S.2.1 dL_law_835 (by decide) ?_
      refine lv_iload S.1 S.2.1 dL_law_837 (lv_at hl 0 rfl) ?_
      refine hm_uV (As := [.int (nI k), .int 7, .int 5]) (rest := [.int (lookF (xSe x k) 6 5 0)]) (st1 := [.int (lookF (xSe x k) 7 5 0), .int (lookF (xSe x k) 6 5 0)]) S hE hG (c_X6_look l g ad M x hx k 7 5 hk9 (by omega) (by omega) (by omega)) (hm_gV hb_581 hb_514 hb_515 hb_2 hb_516) hd_X6_look rfl hX rfl rfl ⟨Nat.le_of_ble_eq_true rfl, Nat.le_of_ble_eq_true rfl⟩ rfl hl.1 rfl (Nat.le_of_ble_eq_true rfl) dL_law_839 ⟨(Nat.le_trans (m := 3000) hcl (Nat.le_of_ble_eq_true rfl)), (Nat.le_trans (m := 30000) hsl (Nat.le_of_ble_eq_true rfl))⟩ rfl (fun H locs hG => ?_)
      refine lv_icmp_gt (tgt := 884) S.1 S.2.1 dL_law_842 (by decide) (fun h9 => absurd h9 (((hS k hk9).1 5 (by decide)).2.2.2.2.1)) (fun _ => ?_)
      refine lv_aload_n S.1 S.2.1 dL_law_845 rfl (lv_at hl 2 rfl) ?_
      refine lv_iload S.1 S.2.1 dL_law_846 (lv_at hl 8 rfl) ?_
      refine lv_bipush (v := 7) S.1 S.2.1 dL_law_848 (by decide) ?_
      refine lv_iload S.1 S.2.1 dL_law_850 (lv_at hl 0 rfl) ?_
      refine hm_uV (As := [.int (nI k), .int 7, .int 5]) (rest := []) (st1 := [.int (lookF (xSe x k) 7 5 0)]) S hE hG (c_X6_look l g ad M x hx k 7 5 hk9 (by omega) (by omega) (by omega)) (hm_gV hb_581 hb_514 hb_515 hb_2 hb_516) hd_X6_look rfl hX rfl rfl ⟨Nat.le_of_ble_eq_true rfl, Nat.le_of_ble_eq_true rfl⟩ rfl hl.1 rfl (Nat.le_of_ble_eq_true rfl) dL_law_852 ⟨(Nat.le_trans (m := 3000) hcl (Nat.le_of_ble_eq_true rfl)), (Nat.le_trans (m := 30000) hsl (Nat.le_of_ble_eq_true rfl))⟩ rfl (fun H locs hG => ?_)
      refine lv_aload_n S.1 S.2.1 dL_law_855 rfl (lv_at hl 2 rfl) ?_
      refine lv_iload S.1 S.2.1 dL_law_856 (lv_at hl 8 rfl) ?_
      refine lv_bipush (v := 8) S.1 S.2.1 dL_law_858 (by decide) ?_
      refine lv_iload S.1 S.2.1 dL_law_860 (lv_at hl 0 rfl) ?_
      refine hm_uV (As := [.int (nI k), .int 8, .int 5]) (rest := [.int (lookF (xSe x k) 7 5 0)]) (st1 := [.int (lookF (xSe x k) 8 5 0), .int (lookF (xSe x k) 7 5 0)]) S hE hG (c_X6_look l g ad M x hx k 8 5 hk9 (by omega) (by omega) (by omega)) (hm_gV hb_581 hb_514 hb_515 hb_2 hb_516) hd_X6_look rfl hX rfl rfl ⟨Nat.le_of_ble_eq_true rfl, Nat.le_of_ble_eq_true rfl⟩ rfl hl.1 rfl (Nat.le_of_ble_eq_true rfl) dL_law_862 ⟨(Nat.le_trans (m := 3000) hcl (Nat.le_of_ble_eq_true rfl)), (Nat.le_trans (m := 30000) hsl (Nat.le_of_ble_eq_true rfl))⟩ rfl (fun H locs hG => ?_)
      refine lv_icmp_gt (tgt := 884) S.1 S.2.1 dL_law_865 (by decide) (fun h9 => absurd h9 (((hS k hk9).1 5 (by decide)).2.2.2.2.2.1)) (fun _ => ?_)
      refine lv_aload_n S.1 S.2.1 dL_law_868 rfl (lv_at hl 2 rfl) ?_
      refine lv_iload S.1 S.2.1 dL_law_869 (lv_at hl 8 rfl) ?_
      refine lv_bipush (v := 8) S.1 S.2.1 dL_law_871 (by decide) ?_
      refine lv_iload S.1 S.2.1 dL_law_873 (lv_at hl 0 rfl) ?_
      refine hm_uV (As := [.int (nI k), .int 8, .int 5]) (rest := []) (st1 := [.int (lookF (xSe x k) 8 5 0)]) S hE hG (c_X6_look l g ad M x hx k 8 5 hk9 (by omega) (by omega) (by omega)) (hm_gV hb_581 hb_514 hb_515 hb_2 hb_516) hd_X6_look rfl hX rfl rfl ⟨Nat.le_of_ble_eq_true rfl, Nat.le_of_ble_eq_true rfl⟩ rfl hl.1 rfl (Nat.le_of_ble_eq_true rfl) dL_law_875 ⟨(Nat.le_trans (m := 3000) hcl (Nat.le_of_ble_eq_true rfl)), (Nat.le_trans (m := 30000) hsl (Nat.le_of_ble_eq_true rfl))⟩ rfl (fun H locs hG => ?_)
      refine lv_sipush (v := 500) S.1 S.2.1 dL_law_878 (by decide) ?_
      refine lv_icmp_le (tgt := 886) S.1 S.2.1 dL_law_881 (by decide) (fun _ => ?_) (fun h9 => absurd (((hS k hk9).1 5 (by decide)).2.2.2.2.2.2) h9)
      refine lv_iinc (v := 9) (lv' := [(16, .int 9), (0, .ref b), (1, .ref (ad (0, 0, 0))), (2, .int (nI (xS x))), (3, .int (nI (xR x))), (4, .int (nI sn)), (5, .int (nI i)), (11, .long (dgX x)), (15, .int (nI k))]) S.1 S.2.1 dL_law_886 hl (k := 0) rfl (by decide) (by decide) rfl (fun ls hl => ?_)
      refine lv_goto (tgt := 730) S.1 S.2.1 dL_law_889 (by decide) ?_
      refine lv_iload S.1 S.2.1 dL_law_730 (lv_at hl 0 rfl) ?_
      refine lv_bipush (v := 13) S.1 S.2.1 dL_law_732 (by decide) ?_
      refine lv_icmp_ge (tgt := 892) S.1 S.2.1 dL_law_734 (by decide) (fun h9 => absurd h9 (by decide)) (fun _ => ?_)
      refine lv_aload_n S.1 S.2.1 dL_law_737 rfl (lv_at hl 2 rfl) ?_
      refine lv_iload S.1 S.2.1 dL_law_738 (lv_at hl 8 rfl) ?_
      refine lv_iconst (v := 4) S.1 S.2.1 dL_law_740 (by decide) ?_
      refine lv_iload S.1 S.2.1 dL_law_741 (lv_at hl 0 rfl) ?_
      refine hm_uV (As := [.int (nI k), .int 4, .int 9]) (rest := []) (st1 := [.int (lookF (xSe x k) 4 9 0)]) S hE hG (c_X6_look l g ad M x hx k 4 9 hk9 (by omega) (by omega) (by omega)) (hm_gV hb_581 hb_514 hb_515 hb_2 hb_516) hd_X6_look rfl hX rfl rfl ⟨Nat.le_of_ble_eq_true rfl, Nat.le_of_ble_eq_true rfl⟩ rfl hl.1 rfl (Nat.le_of_ble_eq_true rfl) dL_law_743 ⟨(Nat.le_trans (m := 3000) hcl (Nat.le_of_ble_eq_true rfl)), (Nat.le_trans (m := 30000) hsl (Nat.le_of_ble_eq_true rfl))⟩ rfl (fun H locs hG => ?_)
      refine lv_aload_n S.1 S.2.1 dL_law_746 rfl (lv_at hl 2 rfl) ?_
      refine lv_iload S.1 S.2.1 dL_law_747 (lv_at hl 8 rfl) ?_
      refine lv_iconst (v := 3) S.1 S.2.1 dL_law_749 (by decide) ?_
      refine lv_iload S.1 S.2.1 dL_law_750 (lv_at hl 0 rfl) ?_
      refine hm_uV (As := [.int (nI k), .int 3, .int 9]) (rest := [.int (lookF (xSe x k) 4 9 0)]) (st1 := [.int (lookF (xSe x k) 3 9 0), .int (lookF (xSe x k) 4 9 0)]) S hE hG (c_X6_look l g ad M x hx k 3 9 hk9 (by omega) (by omega) (by omega)) (hm_gV hb_581 hb_514 hb_515 hb_2 hb_516) hd_X6_look rfl hX rfl rfl ⟨Nat.le_of_ble_eq_true rfl, Nat.le_of_ble_eq_true rfl⟩ rfl hl.1 rfl (Nat.le_of_ble_eq_true rfl) dL_law_752 ⟨(Nat.le_trans (m := 3000) hcl (Nat.le_of_ble_eq_true rfl)), (Nat.le_trans (m := 30000) hsl (Nat.le_of_ble_eq_true rfl))⟩ rfl (fun H locs hG => ?_)
      refine lv_icmp_gt (tgt := 884) S.1 S.2.1 dL_law_755 (by decide) (fun h9 => absurd h9 (((hS k hk9).1 9 (by decide)).1)) (fun _ => ?_)
      refine lv_aload_n S.1 S.2.1 dL_law_758 rfl (lv_at hl 2 rfl) ?_
      refine lv_iload S.1 S.2.1 dL_law_759 (lv_at hl 8 rfl) ?_
      refine lv_iconst (v := 2) S.1 S.2.1 dL_law_761 (by decide) ?_
      refine lv_iload S.1 S.2.1 dL_law_762 (lv_at hl 0 rfl) ?_
      refine hm_uV (As := [.int (nI k), .int 2, .int 9]) (rest := []) (st1 := [.int (lookF (xSe x k) 2 9 0)]) S hE hG (c_X6_look l g ad M x hx k 2 9 hk9 (by omega) (by omega) (by omega)) (hm_gV hb_581 hb_514 hb_515 hb_2 hb_516) hd_X6_look rfl hX rfl rfl ⟨Nat.le_of_ble_eq_true rfl, Nat.le_of_ble_eq_true rfl⟩ rfl hl.1 rfl (Nat.le_of_ble_eq_true rfl) dL_law_764 ⟨(Nat.le_trans (m := 3000) hcl (Nat.le_of_ble_eq_true rfl)), (Nat.le_trans (m := 30000) hsl (Nat.le_of_ble_eq_true rfl))⟩ rfl (fun H locs hG => ?_)
      refine lv_aload_n S.1 S.2.1 dL_law_767 rfl (lv_at hl 2 rfl) ?_
      refine lv_iload S.1 S.2.1 dL_law_768 (lv_at hl 8 rfl) ?_
      refine lv_iconst (v := 4) S.1 S.2.1 dL_law_770 (by decide) ?_
      refine lv_iload S.1 S.2.1 dL_law_771 (lv_at hl 0 rfl) ?_
      refine hm_uV (As := [.int (nI k), .int 4, .int 9]) (rest := [.int (lookF (xSe x k) 2 9 0)]) (st1 := [.int (lookF (xSe x k) 4 9 0), .int (lookF (xSe x k) 2 9 0)]) S hE hG (c_X6_look l g ad M x hx k 4 9 hk9 (by omega) (by omega) (by omega)) (hm_gV hb_581 hb_514 hb_515 hb_2 hb_516) hd_X6_look rfl hX rfl rfl ⟨Nat.le_of_ble_eq_true rfl, Nat.le_of_ble_eq_true rfl⟩ rfl hl.1 rfl (Nat.le_of_ble_eq_true rfl) dL_law_773 ⟨(Nat.le_trans (m := 3000) hcl (Nat.le_of_ble_eq_true rfl)), (Nat.le_trans (m := 30000) hsl (Nat.le_of_ble_eq_true rfl))⟩ rfl (fun H locs hG => ?_)
      refine lv_icmp_lt (tgt := 884) S.1 S.2.1 dL_law_776 (by decide) (fun h9 => absurd h9 (((hS k hk9).1 9 (by decide)).2.1)) (fun _ => ?_)
      refine lv_aload_n S.1 S.2.1 dL_law_779 rfl (lv_at hl 2 rfl) ?_
      refine lv_iload S.1 S.2.1 dL_law_780 (lv_at hl 8 rfl) ?_
      refine lv_iconst (v := 2) S.1 S.2.1 dL_law_782 (by decide) ?_
      refine lv_iload S.1 S.2.1 dL_law_783 (lv_at hl 0 rfl) ?_
      refine hm_uV (As := [.int (nI k), .int 2, .int 9]) (rest := []) (st1 := [.int (lookF (xSe x k) 2 9 0)]) S hE hG (c_X6_look l g ad M x hx k 2 9 hk9 (by omega) (by omega) (by omega)) (hm_gV hb_581 hb_514 hb_515 hb_2 hb_516) hd_X6_look rfl hX rfl rfl ⟨Nat.le_of_ble_eq_true rfl, Nat.le_of_ble_eq_true rfl⟩ rfl hl.1 rfl (Nat.le_of_ble_eq_true rfl) dL_law_785 ⟨(Nat.le_trans (m := 3000) hcl (Nat.le_of_ble_eq_true rfl)), (Nat.le_trans (m := 30000) hsl (Nat.le_of_ble_eq_true rfl))⟩ rfl (fun H locs hG => ?_)
      refine lv_aload_n S.1 S.2.1 dL_law_788 rfl (lv_at hl 2 rfl) ?_
      refine lv_iload S.1 S.2.1 dL_law_789 (lv_at hl 8 rfl) ?_
      refine lv_iconst (v := 3) S.1 S.2.1 dL_law_791 (by decide) ?_
      refine lv_iload S.1 S.2.1 dL_law_792 (lv_at hl 0 rfl) ?_
      refine hm_uV (As := [.int (nI k), .int 3, .int 9]) (rest := [.int (lookF (xSe x k) 2 9 0)]) (st1 := [.int (lookF (xSe x k) 3 9 0), .int (lookF (xSe x k) 2 9 0)]) S hE hG (c_X6_look l g ad M x hx k 3 9 hk9 (by omega) (by omega) (by omega)) (hm_gV hb_581 hb_514 hb_515 hb_2 hb_516) hd_X6_look rfl hX rfl rfl ⟨Nat.le_of_ble_eq_true rfl, Nat.le_of_ble_eq_true rfl⟩ rfl hl.1 rfl (Nat.le_of_ble_eq_true rfl) dL_law_794 ⟨(Nat.le_trans (m := 3000) hcl (Nat.le_of_ble_eq_true rfl)), (Nat.le_trans (m := 30000) hsl (Nat.le_of_ble_eq_true rfl))⟩ rfl (fun H locs hG => ?_)
      refine lv_icmp_gt (tgt := 884) S.1 S.2.1 dL_law_797 (by decide) (fun h9 => absurd h9 (((hS k hk9).1 9 (by decide)).2.2.1)) (fun _ => ?_)
      refine lv_aload_n S.1 S.2.1 dL_law_800 rfl (lv_at hl 2 rfl) ?_
      refine lv_iload S.1 S.2.1 dL_law_801 (lv_at hl 8 rfl) ?_
      refine lv_iconst (v := 5) S.1 S.2.1 dL_law_803 (by decide) ?_
      refine lv_iload S.1 S.2.1 dL_law_804 (lv_at hl 0 rfl) ?_
      refine hm_uV (As := [.int (nI k), .int 5, .int 9]) (rest := []) (st1 := [.int (lookF (xSe x k) 5 9 0)]) S hE hG (c_X6_look l g ad M x hx k 5 9 hk9 (by omega) (by omega) (by omega)) (hm_gV hb_581 hb_514 hb_515 hb_2 hb_516) hd_X6_look rfl hX rfl rfl ⟨Nat.le_of_ble_eq_true rfl, Nat.le_of_ble_eq_true rfl⟩ rfl hl.1 rfl (Nat.le_of_ble_eq_true rfl) dL_law_806 ⟨(Nat.le_trans (m := 3000) hcl (Nat.le_of_ble_eq_true rfl)), (Nat.le_trans (m := 30000) hsl (Nat.le_of_ble_eq_true rfl))⟩ rfl (fun H locs hG => ?_)
      refine lv_aload_n S.1 S.2.1 dL_law_809 rfl (lv_at hl 2 rfl) ?_
      refine lv_iload S.1 S.2.1 dL_law_810 (lv_at hl 8 rfl) ?_
      refine lv_bipush (v := 6) S.1 S.2.1 dL_law_812 (by decide) ?_
      refine lv_iload S.1 S.2.1 dL_law_814 (lv_at hl 0 rfl) ?_
      refine hm_uV (As := [.int (nI k), .int 6, .int 9]) (rest := [.int (lookF (xSe x k) 5 9 0)]) (st1 := [.int (lookF (xSe x k) 6 9 0), .int (lookF (xSe x k) 5 9 0)]) S hE hG (c_X6_look l g ad M x hx k 6 9 hk9 (by omega) (by omega) (by omega)) (hm_gV hb_581 hb_514 hb_515 hb_2 hb_516) hd_X6_look rfl hX rfl rfl ⟨Nat.le_of_ble_eq_true rfl, Nat.le_of_ble_eq_true rfl⟩ rfl hl.1 rfl (Nat.le_of_ble_eq_true rfl) dL_law_816 ⟨(Nat.le_trans (m := 3000) hcl (Nat.le_of_ble_eq_true rfl)), (Nat.le_trans (m := 30000) hsl (Nat.le_of_ble_eq_true rfl))⟩ rfl (fun H locs hG => ?_)
      refine lv_icmp_gt (tgt := 884) S.1 S.2.1 dL_law_819 (by decide) (fun h9 => absurd h9 (((hS k hk9).1 9 (by decide)).2.2.2.1)) (fun _ => ?_)
      refine lv_aload_n S.1 S.2.1 dL_law_822 rfl (lv_at hl 2 rfl) ?_
      refine lv_iload S.1 S.2.1 dL_law_823 (lv_at hl 8 rfl) ?_
      refine lv_bipush (v := 6) S.1 S.2.1 dL_law_825 (by decide) ?_
      refine lv_iload S.1 S.2.1 dL_law_827 (lv_at hl 0 rfl) ?_
      refine hm_uV (As := [.int (nI k), .int 6, .int 9]) (rest := []) (st1 := [.int (lookF (xSe x k) 6 9 0)]) S hE hG (c_X6_look l g ad M x hx k 6 9 hk9 (by omega) (by omega) (by omega)) (hm_gV hb_581 hb_514 hb_515 hb_2 hb_516) hd_X6_look rfl hX rfl rfl ⟨Nat.le_of_ble_eq_true rfl, Nat.le_of_ble_eq_true rfl⟩ rfl hl.1 rfl (Nat.le_of_ble_eq_true rfl) dL_law_829 ⟨(Nat.le_trans (m := 3000) hcl (Nat.le_of_ble_eq_true rfl)), (Nat.le_trans (m := 30000) hsl (Nat.le_of_ble_eq_true rfl))⟩ rfl (fun H locs hG => ?_)
      refine lv_aload_n S.1 S.2.1 dL_law_832 rfl (lv_at hl 2 rfl) ?_
      refine lv_iload S.1 S.2.1 dL_law_833 (lv_at hl 8 rfl) ?_
      refine lv_bipush (v := 7) S.1 S.2.1 dL_law_835 (by decide) ?_
      refine lv_iload S.1 S.2.1 dL_law_837 (lv_at hl 0 rfl) ?_
      refine hm_uV (As := [.int (nI k), .int 7, .int 9]) (rest := [.int (lookF (xSe x k) 6 9 0)]) (st1 := [.int (lookF (xSe x k) 7 9 0), .int (lookF (xSe x k) 6 9 0)]) S hE hG (c_X6_look l g ad M x hx k 7 9 hk9 (by omega) (by omega) (by omega)) (hm_gV hb_581 hb_514 hb_515 hb_2 hb_516) hd_X6_look rfl hX rfl rfl ⟨Nat.le_of_ble_eq_true rfl, Nat.le_of_ble_eq_true rfl⟩ rfl hl.1 rfl (Nat.le_of_ble_eq_true rfl) dL_law_839 ⟨(Nat.le_trans (m := 3000) hcl (Nat.le_of_ble_eq_true rfl)), (Nat.le_trans (m := 30000) hsl (Nat.le_of_ble_eq_true rfl))⟩ rfl (fun H locs hG => ?_)
      refine lv_icmp_gt (tgt := 884) S.1 S.2.1 dL_law_842 (by decide) (fun h9 => absurd h9 (((hS k hk9).1 9 (by decide)).2.2.2.2.1)) (fun _ => ?_)
      refine lv_aload_n S.1 S.2.1 dL_law_845 rfl (lv_at hl 2 rfl) ?_
      refine lv_iload S.1 S.2.1 dL_law_846 (lv_at hl 8 rfl) ?_
      refine lv_bipush (v := 7) S.1 S.2.1 dL_law_848 (by decide) ?_
      refine lv_iload S.1 S.2.1 dL_law_850 (lv_at hl 0 rfl) ?_
      refine hm_uV (As := [.int (nI k), .int 7, .int 9]) (rest := []) (st1 := [.int (lookF (xSe x k) 7 9 0)]) S hE hG (c_X6_look l g ad M x hx k 7 9 hk9 (by omega) (by omega) (by omega)) (hm_gV hb_581 hb_514 hb_515 hb_2 hb_516) hd_X6_look rfl hX rfl rfl ⟨Nat.le_of_ble_eq_true rfl, Nat.le_of_ble_eq_true rfl⟩ rfl hl.1 rfl (Nat.le_of_ble_eq_true rfl) dL_law_852 ⟨(Nat.le_trans (m := 3000) hcl (Nat.le_of_ble_eq_true rfl)), (Nat.le_trans (m := 30000) hsl (Nat.le_of_ble_eq_true rfl))⟩ rfl (fun H locs hG => ?_)
      refine lv_aload_n S.1 S.2.1 dL_law_855 rfl (lv_at hl 2 rfl) ?_
      refine lv_iload S.1 S.2.1 dL_law_856 (lv_at hl 8 rfl) ?_
      refine lv_bipush (v := 8) S.1 S.2.1 dL_law_858 (by decide) ?_
      refine lv_iload S.1 S.2.1 dL_law_860 (lv_at hl 0 rfl) ?_
      refine hm_uV (As := [.int (nI k), .int 8, .int 9]) (rest := [.int (lookF (xSe x k) 7 9 0)]) (st1 := [.int (lookF (xSe x k) 8 9 0), .int (lookF (xSe x k) 7 9 0)]) S hE hG (c_X6_look l g ad M x hx k 8 9 hk9 (by omega) (by omega) (by omega)) (hm_gV hb_581 hb_514 hb_515 hb_2 hb_516) hd_X6_look rfl hX rfl rfl ⟨Nat.le_of_ble_eq_true rfl, Nat.le_of_ble_eq_true rfl⟩ rfl hl.1 rfl (Nat.le_of_ble_eq_true rfl) dL_law_862 ⟨(Nat.le_trans (m := 3000) hcl (Nat.le_of_ble_eq_true rfl)), (Nat.le_trans (m := 30000) hsl (Nat.le_of_ble_eq_true rfl))⟩ rfl (fun H locs hG => ?_)
      refine lv_icmp_gt (tgt := 884) S.1 S.2.1 dL_law_865 (by decide) (fun h9 => absurd h9 (((hS k hk9).1 9 (by decide)).2.2.2.2.2.1)) (fun _ => ?_)
      refine lv_aload_n S.1 S.2.1 dL_law_868 rfl (lv_at hl 2 rfl) ?_
      refine lv_iload S.1 S.2.1 dL_law_869 (lv_at hl 8 rfl) ?_
      refine lv_bipush (v := 8) S.1 S.2.1 dL_law_871 (by decide) ?_
      refine lv_iload S.1 S.2.1 dL_law_873 (lv_at hl 0 rfl) ?_
      refine hm_uV (As := [.int (nI k), .int 8, .int 9]) (rest := []) (st1 := [.int (lookF (xSe x k) 8 9 0)]) S hE hG (c_X6_look l g ad M x hx k 8 9 hk9 (by omega) (by omega) (by omega)) (hm_gV hb_581 hb_514 hb_515 hb_2 hb_516) hd_X6_look rfl hX rfl rfl ⟨Nat.le_of_ble_eq_true rfl, Nat.le_of_ble_eq_true rfl⟩ rfl hl.1 rfl (Nat.le_of_ble_eq_true rfl) dL_law_875 ⟨(Nat.le_trans (m := 3000) hcl (Nat.le_of_ble_eq_true rfl)), (Nat.le_trans (m := 30000) hsl (Nat.le_of_ble_eq_true rfl))⟩ rfl (fun H locs hG => ?_)
      refine lv_sipush (v := 500) S.1 S.2.1 dL_law_878 (by decide) ?_
      refine lv_icmp_le (tgt := 886) S.1 S.2.1 dL_law_881 (by decide) (fun _ => ?_) (fun h9 => absurd (((hS k hk9).1 9 (by decide)).2.2.2.2.2.2) h9)
      refine lv_iinc (v := 13) (lv' := [(16, .int 13), (0, .ref b), (1, .ref (ad (0, 0, 0))), (2, .int (nI (xS x))), (3, .int (nI (xR x))), (4, .int (nI sn)), (5, .int (nI i)), (11, .long (dgX x)), (15, .int (nI k))]) S.1 S.2.1 dL_law_886 hl (k := 0) rfl (by decide) (by decide) rfl (fun ls hl => ?_)
      refine lv_goto (tgt := 730) S.1 S.2.1 dL_law_889 (by decide) ?_
      refine lv_iload S.1 S.2.1 dL_law_730 (lv_at hl 0 rfl) ?_
      refine lv_bipush (v := 13) S.1 S.2.1 dL_law_732 (by decide) ?_
      refine lv_icmp_ge (tgt := 892) S.1 S.2.1 dL_law_734 (by decide) (fun _ => ?_) (fun h9 => absurd (by decide) h9)
      refine lv_aload_n S.1 S.2.1 dL_law_892 rfl (lv_at hl 2 rfl) ?_
      refine lv_iload S.1 S.2.1 dL_law_893 (lv_at hl 8 rfl) ?_
      refine lv_iconst (v := 0) S.1 S.2.1 dL_law_895 (by decide) ?_
      refine lv_iconst (v := 1) S.1 S.2.1 dL_law_896 (by decide) ?_
      refine hm_uV (As := [.int (nI k), .int 0, .int 1]) (rest := []) (st1 := [.int (lookF (xSe x k) 0 1 0)]) S hE hG (c_X6_look l g ad M x hx k 0 1 hk9 (by omega) (by omega) (by omega)) (hm_gV hb_581 hb_514 hb_515 hb_2 hb_516) hd_X6_look rfl hX rfl rfl ⟨Nat.le_of_ble_eq_true rfl, Nat.le_of_ble_eq_true rfl⟩ rfl hl.1 rfl (Nat.le_of_ble_eq_true rfl) dL_law_897 ⟨(Nat.le_trans (m := 3000) hcl (Nat.le_of_ble_eq_true rfl)), (Nat.le_trans (m := 30000) hsl (Nat.le_of_ble_eq_true rfl))⟩ rfl (fun H locs hG => ?_)
      refine lv_aload_n S.1 S.2.1 dL_law_900 rfl (lv_at hl 2 rfl) ?_
      refine lv_iload S.1 S.2.1 dL_law_901 (lv_at hl 8 rfl) ?_
      refine lv_iconst (v := 0) S.1 S.2.1 dL_law_903 (by decide) ?_
      refine hm_uV (As := [.int (nI k), .int 0]) (rest := [.int (lookF (xSe x k) 0 1 0)]) (st1 := [.int (pastF (xSe x k) 0 0 0), .int (lookF (xSe x k) 0 1 0)]) S hE hG (c_X6_sample l g ad M x hx k 0 hk9 (by omega)) (hm_gV hb_582 hb_509 hb_510 hb_2 hb_511) hd_X6_sample rfl hX rfl rfl ⟨Nat.le_of_ble_eq_true rfl, Nat.le_of_ble_eq_true rfl⟩ rfl hl.1 rfl (Nat.le_of_ble_eq_true rfl) dL_law_904 ⟨(Nat.le_trans (m := 3000) hcl (Nat.le_of_ble_eq_true rfl)), (Nat.le_trans (m := 30000) hsl (Nat.le_of_ble_eq_true rfl))⟩ rfl (fun H locs hG => ?_)
      refine lv_icmp_ne (tgt := 952) S.1 S.2.1 dL_law_907 (by decide) (fun h9 => absurd (rfl) h9) (fun _ => ?_)
      refine lv_aload_n S.1 S.2.1 dL_law_910 rfl (lv_at hl 2 rfl) ?_
      refine lv_iload S.1 S.2.1 dL_law_911 (lv_at hl 8 rfl) ?_
      refine lv_iconst (v := 1) S.1 S.2.1 dL_law_913 (by decide) ?_
      refine hm_uV (As := [.int (nI k), .int 1]) (rest := []) (st1 := [.int (nI (sHe (xSe x k)))]) S hE hG (c_X6_now l g ad M x hx k 1 hk9 (by omega)) (hm_gV hb_583 hb_504 hb_505 hb_2 hb_506) hd_X6_now rfl hX rfl rfl ⟨Nat.le_of_ble_eq_true rfl, Nat.le_of_ble_eq_true rfl⟩ rfl hl.1 rfl (Nat.le_of_ble_eq_true rfl) dL_law_914 ⟨(Nat.le_trans (m := 3000) hcl (Nat.le_of_ble_eq_true rfl)), (Nat.le_trans (m := 30000) hsl (Nat.le_of_ble_eq_true rfl))⟩ rfl (fun H locs hG => ?_)
      refine lv_bipush (v := 13) S.1 S.2.1 dL_law_917 (by decide) ?_
      refine lv_icmp_gt (tgt := 952) S.1 S.2.1 dL_law_919 (by decide) (fun h9 => absurd h9 (nI_nlt (a := 13) (by rw [(hS k hk9).2]; omega) (by decide))) (fun _ => ?_)
      refine lv_aload_n S.1 S.2.1 dL_law_922 rfl (lv_at hl 2 rfl) ?_
      refine lv_iload S.1 S.2.1 dL_law_923 (lv_at hl 8 rfl) ?_
      refine lv_iconst (v := 1) S.1 S.2.1 dL_law_925 (by decide) ?_
      refine hm_uV (As := [.int (nI k), .int 1]) (rest := []) (st1 := [.int (nI (sHe (xSe x k)))]) S hE hG (c_X6_now l g ad M x hx k 1 hk9 (by omega)) (hm_gV hb_583 hb_504 hb_505 hb_2 hb_506) hd_X6_now rfl hX rfl rfl ⟨Nat.le_of_ble_eq_true rfl, Nat.le_of_ble_eq_true rfl⟩ rfl hl.1 rfl (Nat.le_of_ble_eq_true rfl) dL_law_926 ⟨(Nat.le_trans (m := 3000) hcl (Nat.le_of_ble_eq_true rfl)), (Nat.le_trans (m := 30000) hsl (Nat.le_of_ble_eq_true rfl))⟩ rfl (fun H locs hG => ?_)
      refine lv_bipush (v := 13) S.1 S.2.1 dL_law_929 (by decide) ?_
      refine lv_aload_n S.1 S.2.1 dL_law_931 rfl (lv_at hl 2 rfl) ?_
      refine hm_uV (As := []) (rest := [.int 13, .int (nI (sHe (xSe x k)))]) (st1 := [.int (nI (xC x)), .int 13, .int (nI (sHe (xSe x k)))]) S hE hG (c_X6_clock l g ad M x hx) (hm_gV hb_580 hb_491 hb_492 hb_2 hb_493) hd_X6_clock rfl hX rfl rfl ⟨Nat.le_of_ble_eq_true rfl, Nat.le_of_ble_eq_true rfl⟩ rfl hl.1 rfl (Nat.le_of_ble_eq_true rfl) dL_law_932 ⟨(Nat.le_trans (m := 3000) hcl (Nat.le_of_ble_eq_true rfl)), (Nat.le_trans (m := 30000) hsl (Nat.le_of_ble_eq_true rfl))⟩ rfl (fun H locs hG => ?_)
      refine hm_min (z := nI (min 13 (xC x))) S hb_3 hb_4 hb_5 hb_6 hl.1 (Nat.le_of_ble_eq_true rfl) (Nat.le_of_ble_eq_true rfl) ((Nat.le_trans (m := 3000) hcl (Nat.le_of_ble_eq_true rfl))) ((Nat.le_trans (m := 30000) hsl (Nat.le_of_ble_eq_true rfl))) (hm_minN 13 _ (by decide) (by omega)) dL_law_935 ?_
      refine lv_icmp_ne (tgt := 952) S.1 S.2.1 dL_law_938 (by decide) (fun h9 => absurd (by rw [(hS k hk9).2]) h9) (fun _ => ?_)
      refine lv_aload_n S.1 S.2.1 dL_law_941 rfl (lv_at hl 2 rfl) ?_
      refine lv_iload S.1 S.2.1 dL_law_942 (lv_at hl 8 rfl) ?_
      refine lv_bipush (v := 13) S.1 S.2.1 dL_law_944 (by decide) ?_
      refine hm_uV (As := [.int (nI k), .int 13]) (rest := []) (st1 := [.int (pastF (xSe x k) 0 13 0)]) S hE hG (c_X6_sample l g ad M x hx k 13 hk9 (by omega)) (hm_gV hb_582 hb_509 hb_510 hb_2 hb_511) hd_X6_sample rfl hX rfl rfl ⟨Nat.le_of_ble_eq_true rfl, Nat.le_of_ble_eq_true rfl⟩ rfl hl.1 rfl (Nat.le_of_ble_eq_true rfl) dL_law_946 ⟨(Nat.le_trans (m := 3000) hcl (Nat.le_of_ble_eq_true rfl)), (Nat.le_trans (m := 30000) hsl (Nat.le_of_ble_eq_true rfl))⟩ rfl (fun H locs hG => ?_)
      refine lv_if_eq (tgt := 954) S.1 S.2.1 dL_law_949 (by decide) (fun _ => ?_) (fun h9 => absurd (by rw [pastF, if_neg (by omega), if_pos (by rw [(hS k hk9).2]; omega)]) h9)
      refine lv_iinc (v := nI (k + 1)) (lv' := [(15, .int (nI (k + 1))), (16, .int 13), (0, .ref b), (1, .ref (ad (0, 0, 0))), (2, .int (nI (xS x))), (3, .int (nI (xR x))), (4, .int (nI sn)), (5, .int (nI i)), (11, .long (dgX x))]) S.1 S.2.1 dL_law_954 hl (k := 8) rfl (nI_1 k) (by decide) rfl (fun ls hl => ?_)
      refine lv_goto (tgt := 721) S.1 S.2.1 dL_law_957 (by decide) ?_
      exact ih721 (k + 1) (by omega) _ _ _ hG (lv_sub hl [2, 3, 4, 5, 6, 7, 8, 0] rfl)
  exact L721_0 (xS x) 0 (by omega) _ _ _ hG (lv_sub hl [1, 2, 3, 4, 5, 6, 7, 0] rfl)
