theorem hm_narZ (b : Bool) : narrow .boolean (.int (bI b)) = .int (bI b) := by cases b <;> rfl
theorem hm_fitZ (b : Bool) : fits .boolean (.int (bI b)) = true := by cases b <;> rfl
theorem hasX.gl {g : GV} {ad : AD} {M : CT} {x : XD} (h : hasX g ad M x) (f : Nat → GrD) (hf : ∀ j, j < 7 → f j = xGr x j) : hasX g ad M (wGr x f) := by
  obtain ⟨a1, a2, a3, a4, a5, a6, a7, a8, a9, a10, a11, a12⟩ := h
  exact ⟨a1, a2, a3, a4, a5, a6, a7, a8, a9, a10, fun j hj => by show hasGr g ad M j (f j); rw [hf j hj]; exact a11 j hj, a12⟩
theorem ga_yes (x : XD) (r k : Nat) (f : Nat → GrD) (h : lo1 x r k = true) : ga1 x r f (k + 1) = (fun j => if j = (goF x r k).toNatClampNeg then alF (ga1 x r f k j) r k else ga1 x r f k j) := by rw [ga1, if_pos h]
theorem ga_no (x : XD) (r k : Nat) (f : Nat → GrD) (h : lo1 x r k = false) : ga1 x r f (k + 1) = ga1 x r f k := by rw [ga1, h]; rfl
theorem sn_due (x : XD) (j : Nat) (h : dueF ((sn x j).1 j) (nI (xC x)) (nI (xP x)) = true) : sn x (j + 1) = (fun i => if i = j then waF (mkF ((sn x j).1 j) (nI (xC x))) (ilF ((sn x j).1 j)) else (sn x j).1 i, klF (sn x j).2.1 (nI (xC x)) (nI j) (cgF (gLo ((sn x j).1 j))) (grR x ((sn x j).1 j)), (sn x j).2.2 + 1) := by rw [sn, if_pos h]
theorem sn_not (x : XD) (j : Nat) (h : dueF ((sn x j).1 j) (nI (xC x)) (nI (xP x)) = false) : sn x (j + 1) = (fun i => if i = j then waF ((sn x j).1 j) (ilF ((sn x j).1 j)) else (sn x j).1 i, (sn x j).2.1, (sn x j).2.2) := by rw [sn, h]; rfl
def snx (x : XD) (j : Nat) : XD := wGL x (sn x j).1 (sn x j).2.1
theorem grR_eq {x y : XD} (h1 : xR x = xR y) (h2 : xRu x = xRu y) (d : GrD) : grR x d = grR y d := by
  have key : ∀ n, grL2 x d n = grL2 y d n := by
    intro n
    induction n with
    | zero => rfl
    | succ n ih => rw [grL2, grL2, ih, h2]
  rw [grR, grR, key, h1]
theorem snx_due {g : GV} {ad : AD} {M : CT} {x : XD} (j : Nat) (h : dueF ((sn x j).1 j) (nI (xC x)) (nI (xP x)) = true) (hx : hasX g ad M (setGr (setGr (setL (snx x j) (klF (xL (snx x j)) (nI (xC (snx x j))) (nI j) (cgF (gLo (xGr (snx x j) j))) (grR (snx x j) (xGr (snx x j) j)))) j (mkF (xGr (snx x j) j) (nI (xC (snx x j))))) j (waF (xGr (setGr (setL (snx x j) (klF (xL (snx x j)) (nI (xC (snx x j))) (nI j) (cgF (gLo (xGr (snx x j) j))) (grR (snx x j) (xGr (snx x j) j)))) j (mkF (xGr (snx x j) j) (nI (xC (snx x j))))) j) (ilF (xGr (setGr (setL (snx x j) (klF (xL (snx x j)) (nI (xC (snx x j))) (nI j) (cgF (gLo (xGr (snx x j) j))) (grR (snx x j) (xGr (snx x j) j)))) j (mkF (xGr (snx x j) j) (nI (xC (snx x j))))) j))))) : hasX g ad M (snx x (j + 1)) := by
  have e0 : xGr (setGr (setL (snx x j) (klF (xL (snx x j)) (nI (xC (snx x j))) (nI j) (cgF (gLo (xGr (snx x j) j))) (grR (snx x j) (xGr (snx x j) j)))) j (mkF (xGr (snx x j) j) (nI (xC (snx x j))))) j = (mkF (xGr (snx x j) j) (nI (xC (snx x j)))) := if_pos rfl
  rw [e0] at hx
  have e : snx x (j + 1) = (setGr (setGr (setL (snx x j) (klF (xL (snx x j)) (nI (xC (snx x j))) (nI j) (cgF (gLo (xGr (snx x j) j))) (grR (snx x j) (xGr (snx x j) j)))) j (mkF (xGr (snx x j) j) (nI (xC (snx x j))))) j (waF (mkF (xGr (snx x j) j) (nI (xC (snx x j)))) (ilF (mkF (xGr (snx x j) j) (nI (xC (snx x j))))))) := by
    rw [grR_eq (x := snx x j) (y := x) rfl rfl]
    show wGL x (sn x (j + 1)).1 (sn x (j + 1)).2.1 = _
    rw [sn_due x j h]
    have e2 : (fun i => if i = j then waF (mkF ((sn x j).1 j) (nI (xC x))) (ilF ((sn x j).1 j)) else (sn x j).1 i) = (fun i => if i = j then waF (mkF ((sn x j).1 j) (nI (xC x))) (ilF ((sn x j).1 j)) else if i = j then mkF ((sn x j).1 j) (nI (xC x)) else (sn x j).1 i) := by
      funext i
      by_cases h : i = j
      · rw [if_pos h, if_pos h]
      · rw [if_neg h, if_neg h, if_neg h]
    show (_, _, _, _, _, _, _, _, _, _) = (_, _, _, _, _, _, _, _, _, _)
    rw [e2]
    rfl
  rw [e]; exact hx
theorem snx_not {g : GV} {ad : AD} {M : CT} {x : XD} (j : Nat) (h : dueF ((sn x j).1 j) (nI (xC x)) (nI (xP x)) = false) (hx : hasX g ad M (setGr (snx x j) j (waF (xGr (snx x j) j) (ilF (xGr (snx x j) j))))) : hasX g ad M (snx x (j + 1)) := by
  have e : snx x (j + 1) = setGr (snx x j) j (waF (xGr (snx x j) j) (ilF (xGr (snx x j) j))) := by
    show wGL x (sn x (j + 1)).1 (sn x (j + 1)).2.1 = _
    rw [sn_not x j h]; rfl
  rw [e]; exact hx

abbrev rm_X6_gatherLoud : Room := { frames := 6, cells := 0, slots := 0, locals := 140 }
set_option maxHeartbeats 4000000 in
set_option maxRecDepth 100000 in
theorem c_X6_gatherLoud (l : Launch) (g : GV) (ad : AD) (M0 : CT) (z : XD) (hx : hasX g ad M0 z) (hg3 : xG z < 3) : hm_Met l yX6_gatherLoud cX6_gatherLoud 5 none rm_X6_gatherLoud g ad M0 [.ref (ad (0, 0, 0))] (hm_pX g ad M0 (gaX z) none) := by
  refine hm_start (own := RX6) (by decide) rfl (Nat.le_of_ble_eq_true rfl) ?_
  intro p e s m args below meth c S hr hlk hnm hE hG ls hl
  have hl : lv_has ls 5 [(0, .ref (ad (0, 0, 0)))] := hl
  have hfr : ∀ t : TG, 80 ≤ t.1 → M0 t = M0 t := fun _ _ => rfl
  obtain ⟨hX, hLs, hLr, hLh, h7, hLg, h70, hSe, hRu, hHu, hGr, hS6, hR6, hH5⟩ := id hx
  obtain ⟨fs1, hb1⟩ := hLs.ob
  obtain ⟨fs2, hb2⟩ := hLr.ob
  obtain ⟨fs3, hb3⟩ := hLh.ob
  refine lv_iconst (v := 0) S.1 S.2.1 dX6_gatherLoud_0 (by decide) ?_
  refine lv_istore_n (lv' := [(1, .int 0), (0, .ref (ad (0, 0, 0)))]) S.1 S.2.1 dX6_gatherLoud_1 rfl hl (by decide) rfl (fun ls hl => ?_)
  have L2_0 : ∀ (n : Nat) (j : Nat) (Mk : CT), n + j = 7 → hasX g ad Mk (wGr z (gc z clF j)) → (∀ t : TG, 80 ≤ t.1 → Mk t = M0 t) → ∀ (H : Heap) (locs : List Loc) (ls : Array Slot), hm_G g ad Mk s.heap H locs → lv_has ls 5 [(0, .ref (ad (0, 0, 0))), (1, .int (nI j))] → W p l e rm_X6_gatherLoud s m args below meth c H locs 0 0 (MQ below (hm_Q g (hm_pX g ad M0 (gaX z) none)) args s rm_X6_gatherLoud.cells rm_X6_gatherLoud.slots (hm_A g)) (F0 m 2 ls []) := by
    intro n
    induction n with
    | zero =>
      intro j Mk hj0 hx hfr H locs ls hG hl
      obtain ⟨hX, hLs, hLr, hLh, h7, hLg, h70, hSe, hRu, hHu, hGr, hS6, hR6, hH5⟩ := id hx
      obtain ⟨fs1, hb1⟩ := hLs.ob
      obtain ⟨fs2, hb2⟩ := hLr.ob
      obtain ⟨fs3, hb3⟩ := hLh.ob
      obtain rfl : j = 7 := by omega
      refine lv_iload_n S.1 S.2.1 dX6_gatherLoud_2 rfl (lv_at hl 1 rfl) ?_
      refine lv_bipush (v := 7) S.1 S.2.1 dX6_gatherLoud_3 (by decide) ?_
      refine lv_icmp_ge (tgt := 23) S.1 S.2.1 dX6_gatherLoud_5 (by decide) (fun _ => ?_) (fun h9 => absurd (by decide) h9)
      refine lv_iconst (v := 0) S.1 S.2.1 dX6_gatherLoud_23 (by decide) ?_
      refine lv_istore_n (lv' := [(1, .int 0), (0, .ref (ad (0, 0, 0)))]) S.1 S.2.1 dX6_gatherLoud_24 rfl hl (by decide) rfl (fun ls hl => ?_)
      have L25_1 : ∀ (n : Nat) (i : Nat) (Mk : CT), n + i = xR z → hasX g ad Mk (wGr z (ga2 z (gc z clF 7) i)) → (∀ t : TG, 80 ≤ t.1 → Mk t = M0 t) → ∀ (H : Heap) (locs : List Loc) (ls : Array Slot), hm_G g ad Mk s.heap H locs → lv_has ls 5 [(0, .ref (ad (0, 0, 0))), (1, .int (nI i))] → W p l e rm_X6_gatherLoud s m args below meth c H locs 0 0 (MQ below (hm_Q g (hm_pX g ad M0 (gaX z) none)) args s rm_X6_gatherLoud.cells rm_X6_gatherLoud.slots (hm_A g)) (F0 m 25 ls []) := by
        intro n
        induction n with
        | zero =>
          intro i Mk hi0 hx hfr H locs ls hG hl
          obtain ⟨hX, hLs, hLr, hLh, h7, hLg, h70, hSe, hRu, hHu, hGr, hS6, hR6, hH5⟩ := id hx
          obtain ⟨fs1, hb1⟩ := hLs.ob
          obtain ⟨fs2, hb2⟩ := hLr.ob
          obtain ⟨fs3, hb3⟩ := hLh.ob
          obtain rfl : i = xR z := by omega
          refine lv_iload_n S.1 S.2.1 dX6_gatherLoud_25 rfl (lv_at hl 1 rfl) ?_
          refine lv_aload_n S.1 S.2.1 dX6_gatherLoud_26 rfl (lv_at hl 0 rfl) ?_
          refine hm_get (k := 1) S hE hG hX rfl rfl hi_X60 (by decide) hb_17 rfl rfl dX6_gatherLoud_27 ?_
          refine hm_uV (As := []) (rest := [.int (nI (xR z))]) (st1 := [.int (nI (xR (wGr z (ga2 z (gc z clF 7) (xR z))))), .int (nI (xR z))]) S hE hG (c_size l hLr) (hm_gV hb_97 hb_98 hb_99 hb_15 hb_100) hd_Jx4a65c_size_8abf5 rfl hb2 rfl rfl ⟨Nat.le_of_ble_eq_true rfl, Nat.le_of_ble_eq_true rfl⟩ rfl hl.1 rfl (Nat.le_of_ble_eq_true rfl) dX6_gatherLoud_30 ⟨Nat.le_of_ble_eq_true rfl, Nat.le_of_ble_eq_true rfl⟩ rfl (fun H locs hG => ?_)
          refine lv_icmp_ge (tgt := 109) S.1 S.2.1 dX6_gatherLoud_33 (by decide) (fun _ => ?_) (fun h9 => absurd (nI_le (Nat.le_refl _) (by omega)) h9)
          exact hm_vret S hG hr hlk (⟨rfl, rfl, hx, hfr⟩) (Nat.le_of_ble_eq_true rfl) (Nat.le_of_ble_eq_true rfl) dX6_gatherLoud_109
        | succ n ih25 =>
          intro i Mk hi0 hx hfr H locs ls hG hl
          obtain ⟨hX, hLs, hLr, hLh, h7, hLg, h70, hSe, hRu, hHu, hGr, hS6, hR6, hH5⟩ := id hx
          obtain ⟨fs1, hb1⟩ := hLs.ob
          obtain ⟨fs2, hb2⟩ := hLr.ob
          obtain ⟨fs3, hb3⟩ := hLh.ob
          have hi9 : i < xR z := by omega
          refine lv_iload_n S.1 S.2.1 dX6_gatherLoud_25 rfl (lv_at hl 1 rfl) ?_
          refine lv_aload_n S.1 S.2.1 dX6_gatherLoud_26 rfl (lv_at hl 0 rfl) ?_
          refine hm_get (k := 1) S hE hG hX rfl rfl hi_X60 (by decide) hb_17 rfl rfl dX6_gatherLoud_27 ?_
          refine hm_uV (As := []) (rest := [.int (nI i)]) (st1 := [.int (nI (xR (wGr z (ga2 z (gc z clF 7) i)))), .int (nI i)]) S hE hG (c_size l hLr) (hm_gV hb_97 hb_98 hb_99 hb_15 hb_100) hd_Jx4a65c_size_8abf5 rfl hb2 rfl rfl ⟨Nat.le_of_ble_eq_true rfl, Nat.le_of_ble_eq_true rfl⟩ rfl hl.1 rfl (Nat.le_of_ble_eq_true rfl) dX6_gatherLoud_30 ⟨Nat.le_of_ble_eq_true rfl, Nat.le_of_ble_eq_true rfl⟩ rfl (fun H locs hG => ?_)
          refine lv_icmp_ge (tgt := 109) S.1 S.2.1 dX6_gatherLoud_33 (by decide) (fun h9 => absurd h9 (nI_ge hi9 (by omega))) (fun _ => ?_)
          refine lv_aload_n S.1 S.2.1 dX6_gatherLoud_36 rfl (lv_at hl 0 rfl) ?_
          refine hm_get (k := 1) S hE hG hX rfl rfl hi_X60 (by decide) hb_17 rfl rfl dX6_gatherLoud_37 ?_
          refine lv_iload_n S.1 S.2.1 dX6_gatherLoud_40 rfl (lv_at hl 1 rfl) ?_
          refine hm_uV (As := [.int (nI i)]) (rest := []) (st1 := [.ref (ad (20, i, 0))]) S hE hG (c_get l hLr i hi9) (hm_gV hb_208 hb_209 hb_210 hb_15 hb_211) hd_Jx4a65c_get_915e3 rfl hb2 rfl rfl ⟨Nat.le_of_ble_eq_true rfl, Nat.le_of_ble_eq_true rfl⟩ rfl hl.1 rfl (Nat.le_of_ble_eq_true rfl) dX6_gatherLoud_41 ⟨Nat.le_of_ble_eq_true rfl, Nat.le_of_ble_eq_true rfl⟩ rfl (fun H locs hG => ?_)
          refine hm_cast S hE hG (hRu i hi9).1 rfl rfl hb_207 dX6_gatherLoud_44 ?_
          refine lv_astore_n (lv' := [(2, .ref (ad (20, i, 0))), (0, .ref (ad (0, 0, 0))), (1, .int (nI i))]) S.1 S.2.1 dX6_gatherLoud_47 rfl hl (by decide) rfl (fun ls hl => ?_)
          refine lv_iconst (v := 0) S.1 S.2.1 dX6_gatherLoud_48 (by decide) ?_
          refine lv_istore_n (lv' := [(3, .int 0), (2, .ref (ad (20, i, 0))), (0, .ref (ad (0, 0, 0))), (1, .int (nI i))]) S.1 S.2.1 dX6_gatherLoud_49 rfl hl (by decide) rfl (fun ls hl => ?_)
          have L50_2 : ∀ (n : Nat) (k : Nat) (Mk : CT), n + k = 12 → hasX g ad Mk (wGr z (ga1 z i (ga2 z (gc z clF 7) i) k)) → (∀ t : TG, 80 ≤ t.1 → Mk t = M0 t) → ∀ (H : Heap) (locs : List Loc) (ls : Array Slot), hm_G g ad Mk s.heap H locs → lv_has ls 5 [(0, .ref (ad (0, 0, 0))), (1, .int (nI i)), (2, .ref (ad (20, i, 0))), (3, .int (nI k))] → W p l e rm_X6_gatherLoud s m args below meth c H locs 0 0 (MQ below (hm_Q g (hm_pX g ad M0 (gaX z) none)) args s rm_X6_gatherLoud.cells rm_X6_gatherLoud.slots (hm_A g)) (F0 m 50 ls []) := by
            intro n
            induction n with
            | zero =>
              intro k Mk hk0 hx hfr H locs ls hG hl
              obtain ⟨hX, hLs, hLr, hLh, h7, hLg, h70, hSe, hRu, hHu, hGr, hS6, hR6, hH5⟩ := id hx
              obtain ⟨fs1, hb1⟩ := hLs.ob
              obtain ⟨fs2, hb2⟩ := hLr.ob
              obtain ⟨fs3, hb3⟩ := hLh.ob
              obtain rfl : k = 12 := by omega
              refine lv_iload_n S.1 S.2.1 dX6_gatherLoud_50 rfl (lv_at hl 3 rfl) ?_
              refine lv_bipush (v := 12) S.1 S.2.1 dX6_gatherLoud_51 (by decide) ?_
              refine lv_icmp_ge (tgt := 103) S.1 S.2.1 dX6_gatherLoud_53 (by decide) (fun _ => ?_) (fun h9 => absurd (by decide) h9)
              refine lv_iinc (v := nI (i + 1)) (lv' := [(1, .int (nI (i + 1))), (0, .ref (ad (0, 0, 0))), (2, .ref (ad (20, i, 0))), (3, .int (nI 12))]) S.1 S.2.1 dX6_gatherLoud_103 hl (k := 1) rfl (nI_1 i) (by decide) rfl (fun ls hl => ?_)
              refine lv_goto (tgt := 25) S.1 S.2.1 dX6_gatherLoud_106 (by decide) ?_
              exact ih25 (i + 1) _ (by omega) hx hfr _ _ _ hG (lv_sub hl [1, 0] rfl)
            | succ n ih50 =>
              intro k Mk hk0 hx hfr H locs ls hG hl
              obtain ⟨hX, hLs, hLr, hLh, h7, hLg, h70, hSe, hRu, hHu, hGr, hS6, hR6, hH5⟩ := id hx
              obtain ⟨fs1, hb1⟩ := hLs.ob
              obtain ⟨fs2, hb2⟩ := hLr.ob
              obtain ⟨fs3, hb3⟩ := hLh.ob
              have hk : k < 12 := by omega
              refine lv_iload_n S.1 S.2.1 dX6_gatherLoud_50 rfl (lv_at hl 3 rfl) ?_
              refine lv_bipush (v := 12) S.1 S.2.1 dX6_gatherLoud_51 (by decide) ?_
              refine lv_icmp_ge (tgt := 103) S.1 S.2.1 dX6_gatherLoud_53 (by decide) (fun h9 => absurd h9 (nI_ge (b := 12) hk (by decide))) (fun _ => ?_)
              refine lv_aload_n S.1 S.2.1 dX6_gatherLoud_56 rfl (lv_at hl 0 rfl) ?_
              refine lv_aload_n S.1 S.2.1 dX6_gatherLoud_57 rfl (lv_at hl 2 rfl) ?_
              refine lv_iload_n S.1 S.2.1 dX6_gatherLoud_58 rfl (lv_at hl 3 rfl) ?_
              refine hm_uV (As := [.ref (ad (20, i, 0)), .int (nI k)]) (rest := []) (st1 := [.int (goF z i k)]) S hE hG (c_X6_groupOf l g ad Mk (wGr z (ga1 z i (ga2 z (gc z clF 7) i) k)) hx i hi9 k hk hg3) (hm_gV hb_429 hb_430 hb_431 hb_2 hb_432) hd_X6_groupOf rfl hX rfl rfl ⟨Nat.le_of_ble_eq_true rfl, Nat.le_of_ble_eq_true rfl⟩ rfl hl.1 rfl (Nat.le_of_ble_eq_true rfl) dX6_gatherLoud_59 ⟨Nat.le_of_ble_eq_true rfl, Nat.le_of_ble_eq_true rfl⟩ rfl (fun H locs hG => ?_)
              refine lv_istore (lv' := [(4, .int (goF z i k)), (0, .ref (ad (0, 0, 0))), (1, .int (nI i)), (2, .ref (ad (20, i, 0))), (3, .int (nI k))]) S.1 S.2.1 dX6_gatherLoud_62 hl (by decide) rfl (fun ls hl => ?_)
              refine lv_iload S.1 S.2.1 dX6_gatherLoud_64 (lv_at hl 0 rfl) ?_
              refine lv_iconst (v := 0) S.1 S.2.1 dX6_gatherLoud_66 (by decide) ?_
              refine lv_bipush (v := 6) S.1 S.2.1 dX6_gatherLoud_67 (by decide) ?_
              refine hm_uS (As := [.int (goF z i k), .int 0, .int 6]) (rest := []) (st1 := [.int (bI (decide ((goF z i k) < 0) || decide (6 < (goF z i k))))]) S hE hG (c_X6_isOutside l g ad Mk (goF z i k) 0 6) (hm_gS hb_91 hb_92 hb_2 hb_93) hd_X6_isOutside ⟨Nat.le_of_ble_eq_true rfl, Nat.le_of_ble_eq_true rfl⟩ rfl hl.1 rfl (Nat.le_of_ble_eq_true rfl) dX6_gatherLoud_69 ⟨Nat.le_of_ble_eq_true rfl, Nat.le_of_ble_eq_true rfl⟩ rfl (fun H locs hG => ?_)
              refine lv_if_ne (tgt := 97) S.1 S.2.1 dX6_gatherLoud_72 (by decide) (fun c72 => ?_) (fun c72 => ?_)
              · skip
                refine lv_iinc (v := nI (k + 1)) (lv' := [(3, .int (nI (k + 1))), (4, .int (goF z i k)), (0, .ref (ad (0, 0, 0))), (1, .int (nI i)), (2, .ref (ad (20, i, 0)))]) S.1 S.2.1 dX6_gatherLoud_97 hl (k := 4) rfl (nI_1 k) (by decide) rfl (fun ls hl => ?_)
                refine lv_goto (tgt := 50) S.1 S.2.1 dX6_gatherLoud_100 (by decide) ?_
                exact ih50 (k + 1) _ (by omega) (ga_no z i k (ga2 z (gc z clF 7) i) (by rw [lo1, bI_ne.mp c72]; rfl) ▸ hx) hfr _ _ _ hG (lv_sub hl [2, 3, 4, 0] rfl)
              · skip
                have e72 := bI_0.mp c72
                have e73 : ¬ goF z i k < 0 ∧ ¬ 6 < goF z i k := by simpa using e72
                have hj9 : (goF z i k).toNatClampNeg < 7 := by have := clamp_lt (n := 6) e73.1 e73.2 (by decide); omega
                have e74 : goF z i k = nI (goF z i k).toNatClampNeg := clamp_nI e73.1
                obtain ⟨j, ej⟩ : ∃ j, j = (goF z i k).toNatClampNeg := ⟨_, rfl⟩
                rw [← ej] at hj9 e74
                rw [e74] at hl
                refine lv_aload_n S.1 S.2.1 dX6_gatherLoud_75 rfl (lv_at hl 1 rfl) ?_
                refine lv_aload_n S.1 S.2.1 dX6_gatherLoud_76 rfl (lv_at hl 3 rfl) ?_
                refine lv_iload_n S.1 S.2.1 dX6_gatherLoud_77 rfl (lv_at hl 4 rfl) ?_
                refine lv_iconst (v := (-1)) S.1 S.2.1 dX6_gatherLoud_78 (by decide) ?_
                refine hm_uV (As := [.ref (ad (20, i, 0)), .int (nI k), .int (-1)]) (rest := []) (st1 := [.int (hrF z i k (-1))]) S hE hG (c_X6_hearing l g ad Mk (wGr z (ga1 z i (ga2 z (gc z clF 7) i) k)) hx i hi9 k hk (-1)) (hm_gV hb_280 hb_281 hb_282 hb_2 hb_283) hd_X6_hearing rfl hX rfl rfl ⟨Nat.le_of_ble_eq_true rfl, Nat.le_of_ble_eq_true rfl⟩ rfl hl.1 rfl (Nat.le_of_ble_eq_true rfl) dX6_gatherLoud_79 ⟨Nat.le_of_ble_eq_true rfl, Nat.le_of_ble_eq_true rfl⟩ rfl (fun H locs hG => ?_)
                refine lv_if_ne (tgt := 97) S.1 S.2.1 dX6_gatherLoud_82 (by decide) (fun c82 => ?_) (fun c82 => ?_)
                · skip
                  refine lv_iinc (v := nI (k + 1)) (lv' := [(3, .int (nI (k + 1))), (4, .int (nI j)), (0, .ref (ad (0, 0, 0))), (1, .int (nI i)), (2, .ref (ad (20, i, 0)))]) S.1 S.2.1 dX6_gatherLoud_97 hl (k := 4) rfl (nI_1 k) (by decide) rfl (fun ls hl => ?_)
                  refine lv_goto (tgt := 50) S.1 S.2.1 dX6_gatherLoud_100 (by decide) ?_
                  exact ih50 (k + 1) _ (by omega) (ga_no z i k (ga2 z (gc z clF 7) i) (by rw [lo1, e72, decide_eq_false (show ¬ hrF z i k (-1) = 0 from c82)]; rfl) ▸ hx) hfr _ _ _ hG (lv_sub hl [2, 3, 4, 0] rfl)
                · skip
                  refine lv_aload_n S.1 S.2.1 dX6_gatherLoud_85 rfl (lv_at hl 1 rfl) ?_
                  refine hm_get (k := 3) S hE hG hX rfl rfl hi_X60 (by decide) hb_20 rfl rfl dX6_gatherLoud_86 ?_
                  refine lv_iload S.1 S.2.1 dX6_gatherLoud_89 (lv_at hl 0 rfl) ?_
                  refine hm_aldq (q := (ad (60, j, 0))) S hE hG h7 rfl rfl (vp_in_nI hj9 (by decide)) (by rw [nI_clamp (Nat.lt_trans hj9 (by decide))]; exact if_pos hj9) dX6_gatherLoud_91 ?_
                  refine lv_iload_n S.1 S.2.1 dX6_gatherLoud_92 rfl (lv_at hl 2 rfl) ?_
                  refine lv_iload_n S.1 S.2.1 dX6_gatherLoud_93 rfl (lv_at hl 4 rfl) ?_
                  refine hm_uV (As := [.int (nI i), .int (nI k)]) (rest := []) (st1 := []) S hE hG (c_X1_addLoud l g ad Mk j (xGr (wGr z (ga1 z i (ga2 z (gc z clF 7) i) k)) j) (hGr j hj9) i k (by omega)) (hm_gV hb_433 hb_434 hb_435 hb_22 hb_436) hd_X1_addLoud rfl (hGr j hj9).1 rfl rfl ⟨Nat.le_of_ble_eq_true rfl, Nat.le_of_ble_eq_true rfl⟩ rfl hl.1 rfl (Nat.le_of_ble_eq_true rfl) dX6_gatherLoud_94 ⟨Nat.le_of_ble_eq_true rfl, Nat.le_of_ble_eq_true rfl⟩ rfl (fun H locs hG => ?_)
                  obtain ⟨M_4, eM_4⟩ : ∃ q9, q9 = hm_up Mk (61, j, 0) (hm_ia g 6 (gLo (alF (xGr (wGr z (ga1 z i (ga2 z (gc z clF 7) i) k)) j) i k))) := ⟨_, rfl⟩
                  have hG : hm_G g ad M_4 s.heap H locs := by rw [eM_4]; exact hG
                  have hx : hasX g ad M_4 (setGr (wGr z (ga1 z i (ga2 z (gc z clF 7) i) k)) j (alF (xGr (wGr z (ga1 z i (ga2 z (gc z clF 7) i) k)) j) i k)) := by rw [eM_4]; exact hx.gro j _ (fun h => al_has i k (hGr j h)) (fun t h1 h2 h3 => hm_up_n h2)
                  have hfr : ∀ t : TG, 80 ≤ t.1 → M_4 t = M0 t := fun t ht => by rw [eM_4]; exact (cl_up (by simp) ht).trans (hfr t ht)
                  obtain ⟨hX, hLs, hLr, hLh, h7, hLg, h70, hSe, hRu, hHu, hGr, hS6, hR6, hH5⟩ := id hx
                  obtain ⟨fs1, hb1⟩ := hLs.ob
                  obtain ⟨fs2, hb2⟩ := hLr.ob
                  obtain ⟨fs3, hb3⟩ := hLh.ob
                  have hx2 : hasX g ad M_4 (wGr z (ga1 z i (ga2 z (gc z clF 7) i) (k + 1))) := by
                    rw [ga_yes z i k _ (by rw [lo1, e72, decide_eq_true (show hrF z i k (-1) = 0 from c82)]; rfl), ← ej]
                    refine (?_ : setGr (wGr z (ga1 z i (ga2 z (gc z clF 7) i) k)) j (alF (xGr (wGr z (ga1 z i (ga2 z (gc z clF 7) i) k)) j) i k) = wGr z (fun q => if q = j then alF (ga1 z i (ga2 z (gc z clF 7) i) k q) i k else ga1 z i (ga2 z (gc z clF 7) i) k q)) ▸ hx
                    have e2 : (fun q => if q = j then alF (ga1 z i (ga2 z (gc z clF 7) i) k j) i k else ga1 z i (ga2 z (gc z clF 7) i) k q) = (fun q => if q = j then alF (ga1 z i (ga2 z (gc z clF 7) i) k q) i k else ga1 z i (ga2 z (gc z clF 7) i) k q) := by
                      funext q
                      by_cases h : q = j
                      · rw [if_pos h, if_pos h, h]
                      · rw [if_neg h, if_neg h]
                    rw [← e2]
                    rfl
                  refine lv_iinc (v := nI (k + 1)) (lv' := [(3, .int (nI (k + 1))), (4, .int (nI j)), (0, .ref (ad (0, 0, 0))), (1, .int (nI i)), (2, .ref (ad (20, i, 0)))]) S.1 S.2.1 dX6_gatherLoud_97 hl (k := 4) rfl (nI_1 k) (by decide) rfl (fun ls hl => ?_)
                  refine lv_goto (tgt := 50) S.1 S.2.1 dX6_gatherLoud_100 (by decide) ?_
                  exact ih50 (k + 1) _ (by omega) hx2 hfr _ _ _ hG (lv_sub hl [2, 3, 4, 0] rfl)
          exact L50_2 12 0 Mk rfl hx hfr _ _ _ hG (lv_sub hl [2, 3, 1, 0] rfl)
      exact L25_1 (xR z) 0 Mk rfl hx hfr _ _ _ hG (lv_sub hl [1, 0] rfl)
    | succ n ih2 =>
      intro j Mk hj0 hx hfr H locs ls hG hl
      obtain ⟨hX, hLs, hLr, hLh, h7, hLg, h70, hSe, hRu, hHu, hGr, hS6, hR6, hH5⟩ := id hx
      obtain ⟨fs1, hb1⟩ := hLs.ob
      obtain ⟨fs2, hb2⟩ := hLr.ob
      obtain ⟨fs3, hb3⟩ := hLh.ob
      have hj9 : j < 7 := by omega
      refine lv_iload_n S.1 S.2.1 dX6_gatherLoud_2 rfl (lv_at hl 1 rfl) ?_
      refine lv_bipush (v := 7) S.1 S.2.1 dX6_gatherLoud_3 (by decide) ?_
      refine lv_icmp_ge (tgt := 23) S.1 S.2.1 dX6_gatherLoud_5 (by decide) (fun h9 => absurd h9 (nI_ge (b := 7) hj9 (by decide))) (fun _ => ?_)
      refine lv_aload_n S.1 S.2.1 dX6_gatherLoud_8 rfl (lv_at hl 0 rfl) ?_
      refine hm_get (k := 3) S hE hG hX rfl rfl hi_X60 (by decide) hb_20 rfl rfl dX6_gatherLoud_9 ?_
      refine lv_iload_n S.1 S.2.1 dX6_gatherLoud_12 rfl (lv_at hl 1 rfl) ?_
      refine hm_aldq (q := (ad (60, j, 0))) S hE hG h7 rfl rfl (vp_in_nI hj9 (by decide)) (by rw [nI_clamp (Nat.lt_trans hj9 (by decide))]; exact if_pos hj9) dX6_gatherLoud_13 ?_
      refine hm_uV (As := []) (rest := []) (st1 := []) S hE hG (c_X1_clearLoud l g ad Mk j (xGr (wGr z (gc z clF j)) j) (hGr j hj9)) (hm_gV hb_425 hb_426 hb_427 hb_22 hb_428) hd_X1_clearLoud rfl (hGr j hj9).1 rfl rfl ⟨Nat.le_of_ble_eq_true rfl, Nat.le_of_ble_eq_true rfl⟩ rfl hl.1 rfl (Nat.le_of_ble_eq_true rfl) dX6_gatherLoud_14 ⟨Nat.le_of_ble_eq_true rfl, Nat.le_of_ble_eq_true rfl⟩ rfl (fun H locs hG => ?_)
      obtain ⟨M_5, eM_5⟩ : ∃ q9, q9 = hm_up Mk (61, j, 0) (hm_ia g 6 (gLo (clF (xGr (wGr z (gc z clF j)) j)))) := ⟨_, rfl⟩
      have hG : hm_G g ad M_5 s.heap H locs := by rw [eM_5]; exact hG
      have hx : hasX g ad M_5 (setGr (wGr z (gc z clF j)) j (clF (xGr (wGr z (gc z clF j)) j))) := by rw [eM_5]; exact hx.gro j _ (fun h => cl_has (hGr j h)) (fun t h1 h2 h3 => hm_up_n h2)
      have hfr : ∀ t : TG, 80 ≤ t.1 → M_5 t = M0 t := fun t ht => by rw [eM_5]; exact (cl_up (by simp) ht).trans (hfr t ht)
      obtain ⟨hX, hLs, hLr, hLh, h7, hLg, h70, hSe, hRu, hHu, hGr, hS6, hR6, hH5⟩ := id hx
      obtain ⟨fs1, hb1⟩ := hLs.ob
      obtain ⟨fs2, hb2⟩ := hLr.ob
      obtain ⟨fs3, hb3⟩ := hLh.ob
      refine lv_iinc (v := nI (j + 1)) (lv' := [(1, .int (nI (j + 1))), (0, .ref (ad (0, 0, 0)))]) S.1 S.2.1 dX6_gatherLoud_17 hl (k := 1) rfl (nI_1 j) (by decide) rfl (fun ls hl => ?_)
      refine lv_goto (tgt := 2) S.1 S.2.1 dX6_gatherLoud_20 (by decide) ?_
      exact ih2 (j + 1) _ (by omega) (gc_1 z clF j ▸ hx) hfr _ _ _ hG (lv_sub hl [1, 0] rfl)
  exact L2_0 7 0 M0 rfl ((gc_0 z clF).symm ▸ hx) hfr _ _ _ hG (lv_sub hl [1, 0] rfl)

abbrev rm_X6_sendNotices : Room := { frames := 7, cells := 0, slots := 0, locals := 164 }
set_option maxHeartbeats 4000000 in
set_option maxRecDepth 100000 in
theorem c_X6_sendNotices (l : Launch) (g : GV) (ad : AD) (M0 : CT) (z : XD) (hx : hasX g ad M0 z) (hg3 : xG z < 3) : hm_Met l yX6_sendNotices cX6_sendNotices 4 (some .int) rm_X6_sendNotices g ad M0 [.ref (ad (0, 0, 0))] (hm_pX g ad M0 (snX z) (some (.int (nI (snN z))))) := by
  refine hm_start (own := RX6) (by decide) rfl (Nat.le_of_ble_eq_true rfl) ?_
  intro p e s m args below meth c S hr hlk hnm hE hG ls hl
  have hl : lv_has ls 4 [(0, .ref (ad (0, 0, 0)))] := hl
  have hfr : ∀ t : TG, 80 ≤ t.1 → M0 t = M0 t := fun _ _ => rfl
  obtain ⟨hX, hLs, hLr, hLh, h7, hLg, h70, hSe, hRu, hHu, hGr, hS6, hR6, hH5⟩ := id hx
  obtain ⟨fs1, hb1⟩ := hLs.ob
  obtain ⟨fs2, hb2⟩ := hLr.ob
  obtain ⟨fs3, hb3⟩ := hLh.ob
  refine lv_aload_n S.1 S.2.1 dX6_sendNotices_0 rfl (lv_at hl 0 rfl) ?_
  refine hm_xV (As := []) (rest := []) (st1 := []) S hE hG (c_X6_gatherLoud l g ad M0 z hx hg3) (hm_gV hb_421 hb_422 hb_423 hb_2 hb_424) hd_X6_gatherLoud rfl hX rfl rfl ⟨Nat.le_of_ble_eq_true rfl, Nat.le_of_ble_eq_true rfl⟩ rfl hl.1 rfl (Nat.le_of_ble_eq_true rfl) dX6_sendNotices_1 ⟨Nat.le_of_ble_eq_true rfl, Nat.le_of_ble_eq_true rfl⟩ rfl (fun M_1 H locs hx hfr1 hG => ?_)
  have hfr : ∀ t : TG, 80 ≤ t.1 → M_1 t = M0 t := fun t ht => (hfr1 t ht).trans (hfr t ht)
  obtain ⟨hX, hLs, hLr, hLh, h7, hLg, h70, hSe, hRu, hHu, hGr, hS6, hR6, hH5⟩ := id hx
  obtain ⟨fs1, hb1⟩ := hLs.ob
  obtain ⟨fs2, hb2⟩ := hLr.ob
  obtain ⟨fs3, hb3⟩ := hLh.ob
  refine lv_iconst (v := 0) S.1 S.2.1 dX6_sendNotices_4 (by decide) ?_
  refine lv_istore_n (lv' := [(1, .int 0), (0, .ref (ad (0, 0, 0)))]) S.1 S.2.1 dX6_sendNotices_5 rfl hl (by decide) rfl (fun ls hl => ?_)
  refine lv_iconst (v := 0) S.1 S.2.1 dX6_sendNotices_6 (by decide) ?_
  refine lv_istore_n (lv' := [(2, .int 0), (1, .int 0), (0, .ref (ad (0, 0, 0)))]) S.1 S.2.1 dX6_sendNotices_7 rfl hl (by decide) rfl (fun ls hl => ?_)
  have L8_1 : ∀ (n : Nat) (j : Nat) (Mk : CT), n + j = 7 → hasX g ad Mk (snx (gaX z) j) → (∀ t : TG, 80 ≤ t.1 → Mk t = M0 t) → ∀ (H : Heap) (locs : List Loc) (ls : Array Slot), hm_G g ad Mk s.heap H locs → lv_has ls 4 [(0, .ref (ad (0, 0, 0))), (1, .int (nI (sn (gaX z) j).2.2)), (2, .int (nI j))] → W p l e rm_X6_sendNotices s m args below meth c H locs 0 0 (MQ below (hm_Q g (hm_pX g ad M0 (snX z) (some (.int (nI (snN z)))))) args s rm_X6_sendNotices.cells rm_X6_sendNotices.slots (hm_A g)) (F0 m 8 ls []) := by
    intro n
    induction n with
    | zero =>
      intro j Mk hj0 hx hfr H locs ls hG hl
      obtain ⟨hX, hLs, hLr, hLh, h7, hLg, h70, hSe, hRu, hHu, hGr, hS6, hR6, hH5⟩ := id hx
      obtain ⟨fs1, hb1⟩ := hLs.ob
      obtain ⟨fs2, hb2⟩ := hLr.ob
      obtain ⟨fs3, hb3⟩ := hLh.ob
      obtain rfl : j = 7 := by omega
      refine lv_iload_n S.1 S.2.1 dX6_sendNotices_8 rfl (lv_at hl 2 rfl) ?_
      refine lv_bipush (v := 7) S.1 S.2.1 dX6_sendNotices_9 (by decide) ?_
      refine lv_icmp_ge (tgt := 82) S.1 S.2.1 dX6_sendNotices_11 (by decide) (fun _ => ?_) (fun h9 => absurd (by decide) h9)
      refine lv_iload_n S.1 S.2.1 dX6_sendNotices_82 rfl (lv_at hl 1 rfl) ?_
      exact hm_iret S hG hr hlk (⟨rfl, rfl, hx, hfr⟩) (Nat.le_of_ble_eq_true rfl) (Nat.le_of_ble_eq_true rfl) dX6_sendNotices_83
    | succ n ih8 =>
      intro j Mk hj0 hx hfr H locs ls hG hl
      obtain ⟨hX, hLs, hLr, hLh, h7, hLg, h70, hSe, hRu, hHu, hGr, hS6, hR6, hH5⟩ := id hx
      obtain ⟨fs1, hb1⟩ := hLs.ob
      obtain ⟨fs2, hb2⟩ := hLr.ob
      obtain ⟨fs3, hb3⟩ := hLh.ob
      have hj9 : j < 7 := by omega
      refine lv_iload_n S.1 S.2.1 dX6_sendNotices_8 rfl (lv_at hl 2 rfl) ?_
      refine lv_bipush (v := 7) S.1 S.2.1 dX6_sendNotices_9 (by decide) ?_
      refine lv_icmp_ge (tgt := 82) S.1 S.2.1 dX6_sendNotices_11 (by decide) (fun h9 => absurd h9 (nI_ge (b := 7) hj9 (by decide))) (fun _ => ?_)
      refine lv_aload_n S.1 S.2.1 dX6_sendNotices_14 rfl (lv_at hl 0 rfl) ?_
      refine hm_get (k := 3) S hE hG hX rfl rfl hi_X60 (by decide) hb_20 rfl rfl dX6_sendNotices_15 ?_
      refine lv_iload_n S.1 S.2.1 dX6_sendNotices_18 rfl (lv_at hl 2 rfl) ?_
      refine hm_aldq (q := (ad (60, j, 0))) S hE hG h7 rfl rfl (vp_in_nI hj9 (by decide)) (by rw [nI_clamp (Nat.lt_trans hj9 (by decide))]; exact if_pos hj9) dX6_sendNotices_19 ?_
      refine lv_astore_n (lv' := [(3, .ref (ad (60, j, 0))), (0, .ref (ad (0, 0, 0))), (1, .int (nI (sn (gaX z) j).2.2)), (2, .int (nI j))]) S.1 S.2.1 dX6_sendNotices_20 rfl hl (by decide) rfl (fun ls hl => ?_)
      refine lv_aload_n S.1 S.2.1 dX6_sendNotices_21 rfl (lv_at hl 0 rfl) ?_
      refine lv_aload_n S.1 S.2.1 dX6_sendNotices_22 rfl (lv_at hl 1 rfl) ?_
      refine hm_get (k := 6) S hE hG hX rfl rfl hi_X60 (by decide) hb_31 rfl rfl dX6_sendNotices_23 ?_
      refine lv_aload_n S.1 S.2.1 dX6_sendNotices_26 rfl (lv_at hl 1 rfl) ?_
      refine hm_get (k := 8) S hE hG hX rfl rfl hi_X60 (by decide) hb_33 rfl rfl dX6_sendNotices_27 ?_
      refine hm_uV (As := [.int (nI (xC (snx (gaX z) j))), .int (nI (xP (snx (gaX z) j)))]) (rest := []) (st1 := [.int (bI (dueF (xGr (snx (gaX z) j) j) (nI (xC (snx (gaX z) j))) (nI (xP (snx (gaX z) j)))))]) S hE hG (c_X1_isDue l g ad Mk j (xGr (snx (gaX z) j) j) (hGr j hj9) (nI (xC (snx (gaX z) j))) (nI (xP (snx (gaX z) j)))) (hm_gV hb_437 hb_438 hb_439 hb_22 hb_440) hd_X1_isDue rfl (hGr j hj9).1 rfl rfl ⟨Nat.le_of_ble_eq_true rfl, Nat.le_of_ble_eq_true rfl⟩ rfl hl.1 rfl (Nat.le_of_ble_eq_true rfl) dX6_sendNotices_30 ⟨Nat.le_of_ble_eq_true rfl, Nat.le_of_ble_eq_true rfl⟩ rfl (fun H locs hG => ?_)
      refine lv_if_eq (tgt := 68) S.1 S.2.1 dX6_sendNotices_33 (by decide) (fun c33 => ?_) (fun c33 => ?_)
      · skip
        have e33 : dueF ((sn (gaX z) j).1 j) (nI (xC (gaX z))) (nI (xP (gaX z))) = false := bI_0.mp c33
        have e9 : (sn (gaX z) (j + 1)).2.2 = (sn (gaX z) j).2.2 := by rw [sn_not _ _ e33]
        rw [← e9] at hl
        refine lv_aload_n S.1 S.2.1 dX6_sendNotices_68 rfl (lv_at hl 0 rfl) ?_
        refine lv_aload_n S.1 S.2.1 dX6_sendNotices_69 rfl (lv_at hl 0 rfl) ?_
        refine hm_uV (As := []) (rest := [.ref (ad (60, j, 0))]) (st1 := [.int (bI (ilF (xGr (snx (gaX z) j) j))), .ref (ad (60, j, 0))]) S hE hG (c_X1_isLoud l g ad Mk j (xGr (snx (gaX z) j) j) (hGr j hj9)) (hm_gV hb_484 hb_442 hb_443 hb_22 hb_444) hd_X1_isLoud rfl (hGr j hj9).1 rfl rfl ⟨Nat.le_of_ble_eq_true rfl, Nat.le_of_ble_eq_true rfl⟩ rfl hl.1 rfl (Nat.le_of_ble_eq_true rfl) dX6_sendNotices_70 ⟨Nat.le_of_ble_eq_true rfl, Nat.le_of_ble_eq_true rfl⟩ rfl (fun H locs hG => ?_)
        refine hm_put (k := 3) (fs' := [.ref (ad (61, j, 0)), .ref (ad (62, j, 0)), .int (gAt (xGr (snx (gaX z) j) j)), .int (bI (ilF (xGr (snx (gaX z) j) j)))]) S hE hG (hGr j hj9).1 rfl rfl hi_X10 tyX1_ok nmX1 (by decide) hb_420 rfl rfl (hm_narZ _) (hm_fitZ _) (Nat.le_of_ble_eq_true rfl) rfl dX6_sendNotices_73 (fun H locs hG => ?_)
        obtain ⟨M_3, eM_3⟩ : ∃ q9, q9 = hm_up Mk (60, j, 0) (.inr (2, [.ref (ad (61, j, 0)), .ref (ad (62, j, 0)), .int (gAt (xGr (snx (gaX z) j) j)), .int (bI (ilF (xGr (snx (gaX z) j) j)))])) := ⟨_, rfl⟩
        rw [← eM_3] at hG
        have h_4 : M_3 (0, 0, 0) = some (.inr (7, [.ref (ad (1, 0, 0)), .ref (ad (2, 0, 0)), .ref (ad (3, 0, 0)), .ref (ad (7, 0, 0)), .ref (ad (8, 0, 0)), .ref (ad (70, 0, 0)), .int (nI (xC (snx (gaX z) j))), .int (nI (xG (snx (gaX z) j))), .int (nI (xP (snx (gaX z) j)))])) := by rw [eM_3]; exact (hm_up_n (by simp)).trans hX
        have h_5 : M_3 (1, 0, 0) = some (.inr (0, fs1)) := by rw [eM_3]; exact (hm_up_n (by simp)).trans hb1
        have h_6 : M_3 (2, 0, 0) = some (.inr (0, fs2)) := by rw [eM_3]; exact (hm_up_n (by simp)).trans hb2
        have h_7 : M_3 (3, 0, 0) = some (.inr (0, fs3)) := by rw [eM_3]; exact (hm_up_n (by simp)).trans hb3
        have h_8 : M_3 (7, 0, 0) = some (hm_ra g 1 7 (grpA ad)) := by rw [eM_3]; exact (hm_up_n (by simp)).trans h7
        have h_9 : M_3 (8, 0, 0) = some (.inr (4, [.ref (ad (9, 0, 0)), .int (nI (lLa (xL (snx (gaX z) j)))), .int (nI (lHe (xL (snx (gaX z) j)))), .int (nI (lEv (xL (snx (gaX z) j))))])) := by rw [eM_3]; exact (hm_up_n (by simp)).trans hLg.1
        have h_10 : M_3 (60, j, 0) = some (.inr (2, [.ref (ad (61, j, 0)), .ref (ad (62, j, 0)), .int (gAt (xGr (snx (gaX z) j) j)), .int (bI (ilF (xGr (snx (gaX z) j) j)))])) := by rw [eM_3]; exact hm_up_s
        have hx : hasX g ad M_3 (setGr (snx (gaX z) j) j (waF (xGr (snx (gaX z) j) j) (ilF (xGr (snx (gaX z) j) j)))) := by rw [eM_3]; exact hx.gro j _ (fun h => wa_has (ilF (xGr (snx (gaX z) j) j)) (hGr j h)) (fun t h1 h2 h3 => hm_up_n h1)
        have hfr : ∀ t : TG, 80 ≤ t.1 → M_3 t = M0 t := fun t ht => by rw [eM_3]; exact (cl_up (by simp) ht).trans (hfr t ht)
        obtain ⟨hX, hLs, hLr, hLh, h7, hLg, h70, hSe, hRu, hHu, hGr, hS6, hR6, hH5⟩ := id hx
        obtain ⟨fs1, hb1⟩ := hLs.ob
        obtain ⟨fs2, hb2⟩ := hLr.ob
        obtain ⟨fs3, hb3⟩ := hLh.ob
        refine lv_iinc (v := nI (j + 1)) (lv' := [(2, .int (nI (j + 1))), (3, .ref (ad (60, j, 0))), (0, .ref (ad (0, 0, 0))), (1, .int (nI (sn (gaX z) (j + 1)).2.2))]) S.1 S.2.1 dX6_sendNotices_76 hl (k := 3) rfl (nI_1 j) (by decide) rfl (fun ls hl => ?_)
        refine lv_goto (tgt := 8) S.1 S.2.1 dX6_sendNotices_79 (by decide) ?_
        exact ih8 (j + 1) _ (by omega) (snx_not j e33 hx) hfr _ _ _ hG (lv_sub hl [2, 3, 0] rfl)
      · skip
        have e33 : dueF ((sn (gaX z) j).1 j) (nI (xC (gaX z))) (nI (xP (gaX z))) = true := bI_ne.mp c33
        refine lv_aload_n S.1 S.2.1 dX6_sendNotices_36 rfl (lv_at hl 1 rfl) ?_
        refine hm_get (k := 4) S hE hG hX rfl rfl hi_X60 (by decide) hb_26 rfl rfl dX6_sendNotices_37 ?_
        refine lv_aload_n S.1 S.2.1 dX6_sendNotices_40 rfl (lv_at hl 1 rfl) ?_
        refine hm_get (k := 6) S hE hG hX rfl rfl hi_X60 (by decide) hb_31 rfl rfl dX6_sendNotices_41 ?_
        refine lv_iload_n S.1 S.2.1 dX6_sendNotices_44 rfl (lv_at hl 3 rfl) ?_
        refine lv_aload_n S.1 S.2.1 dX6_sendNotices_45 rfl (lv_at hl 0 rfl) ?_
        refine hm_uV (As := []) (rest := [.int (nI j), .int (nI (xC (snx (gaX z) j))), .ref (ad (8, 0, 0))]) (st1 := [.int (cgF (gLo (xGr (snx (gaX z) j) j))), .int (nI j), .int (nI (xC (snx (gaX z) j))), .ref (ad (8, 0, 0))]) S hE hG (c_X1_countLoudNow l g ad Mk j (xGr (snx (gaX z) j) j) (hGr j hj9)) (hm_gV hb_464 hb_446 hb_447 hb_22 hb_448) hd_X1_countLoudNow rfl (hGr j hj9).1 rfl rfl ⟨Nat.le_of_ble_eq_true rfl, Nat.le_of_ble_eq_true rfl⟩ rfl hl.1 rfl (Nat.le_of_ble_eq_true rfl) dX6_sendNotices_46 ⟨Nat.le_of_ble_eq_true rfl, Nat.le_of_ble_eq_true rfl⟩ rfl (fun H locs hG => ?_)
        refine lv_aload_n S.1 S.2.1 dX6_sendNotices_49 rfl (lv_at hl 1 rfl) ?_
        refine lv_aload_n S.1 S.2.1 dX6_sendNotices_50 rfl (lv_at hl 0 rfl) ?_
        refine hm_uV (As := [.ref (ad (60, j, 0))]) (rest := [.int (cgF (gLo (xGr (snx (gaX z) j) j))), .int (nI j), .int (nI (xC (snx (gaX z) j))), .ref (ad (8, 0, 0))]) (st1 := [.int (grR (snx (gaX z) j) (xGr (snx (gaX z) j) j)), .int (cgF (gLo (xGr (snx (gaX z) j) j))), .int (nI j), .int (nI (xC (snx (gaX z) j))), .ref (ad (8, 0, 0))]) S hE hG (c_X6_greatestRank l g ad Mk (snx (gaX z) j) hx j hj9) (hm_gV hb_465 hb_466 hb_467 hb_2 hb_468) hd_X6_greatestRank rfl hX rfl rfl ⟨Nat.le_of_ble_eq_true rfl, Nat.le_of_ble_eq_true rfl⟩ rfl hl.1 rfl (Nat.le_of_ble_eq_true rfl) dX6_sendNotices_51 ⟨Nat.le_of_ble_eq_true rfl, Nat.le_of_ble_eq_true rfl⟩ rfl (fun H locs hG => ?_)
        refine hm_uV (As := [.int (nI (xC (snx (gaX z) j))), .int (nI j), .int (cgF (gLo (xGr (snx (gaX z) j) j))), .int (grR (snx (gaX z) j) (xGr (snx (gaX z) j) j))]) (rest := []) (st1 := []) S hE hG (c_X3_keep l g ad Mk (xL (snx (gaX z) j)) hLg (nI (xC (snx (gaX z) j))) (nI j) (cgF (gLo (xGr (snx (gaX z) j) j))) (grR (snx (gaX z) j) (xGr (snx (gaX z) j) j))) (hm_gV hb_474 hb_475 hb_476 hb_25 hb_477) hd_X3_keep rfl hLg.1 rfl rfl ⟨Nat.le_of_ble_eq_true rfl, Nat.le_of_ble_eq_true rfl⟩ rfl hl.1 rfl (Nat.le_of_ble_eq_true rfl) dX6_sendNotices_54 ⟨Nat.le_of_ble_eq_true rfl, Nat.le_of_ble_eq_true rfl⟩ rfl (fun H locs hG => ?_)
        obtain ⟨M_11, eM_11⟩ : ∃ q9, q9 = klM g ad Mk (xL (snx (gaX z) j)) (nI (xC (snx (gaX z) j))) (nI j) (cgF (gLo (xGr (snx (gaX z) j) j))) (grR (snx (gaX z) j) (xGr (snx (gaX z) j) j)) := ⟨_, rfl⟩
        have hG : hm_G g ad M_11 s.heap H locs := by rw [eM_11]; exact hG
        have hx : hasX g ad M_11 (setL (snx (gaX z) j) (klF (xL (snx (gaX z) j)) (nI (xC (snx (gaX z) j))) (nI j) (cgF (gLo (xGr (snx (gaX z) j) j))) (grR (snx (gaX z) j) (xGr (snx (gaX z) j) j)))) := by rw [eM_11]; exact hx.log _ (kl_has hLg) (fun t h1 h2 => (hm_up_n (h2 _)).trans (hm_up_n h1))
        have hfr : ∀ t : TG, 80 ≤ t.1 → M_11 t = M0 t := fun t ht => by rw [eM_11]; exact (((cl_up (by simp) ht).trans (cl_up (by simp) ht))).trans (hfr t ht)
        obtain ⟨hX, hLs, hLr, hLh, h7, hLg, h70, hSe, hRu, hHu, hGr, hS6, hR6, hH5⟩ := id hx
        obtain ⟨fs1, hb1⟩ := hLs.ob
        obtain ⟨fs2, hb2⟩ := hLr.ob
        obtain ⟨fs3, hb3⟩ := hLh.ob
        refine lv_aload_n S.1 S.2.1 dX6_sendNotices_57 rfl (lv_at hl 0 rfl) ?_
        refine lv_aload_n S.1 S.2.1 dX6_sendNotices_58 rfl (lv_at hl 1 rfl) ?_
        refine hm_get (k := 6) S hE hG hX rfl rfl hi_X60 (by decide) hb_31 rfl rfl dX6_sendNotices_59 ?_
        refine hm_uV (As := [.int (nI (xC (setL (snx (gaX z) j) (klF (xL (snx (gaX z) j)) (nI (xC (snx (gaX z) j))) (nI j) (cgF (gLo (xGr (snx (gaX z) j) j))) (grR (snx (gaX z) j) (xGr (snx (gaX z) j) j))))))]) (rest := []) (st1 := []) S hE hG (c_X1_markTold l g ad M_11 j (xGr (setL (snx (gaX z) j) (klF (xL (snx (gaX z) j)) (nI (xC (snx (gaX z) j))) (nI j) (cgF (gLo (xGr (snx (gaX z) j) j))) (grR (snx (gaX z) j) (xGr (snx (gaX z) j) j)))) j) (hGr j hj9) (nI (xC (setL (snx (gaX z) j) (klF (xL (snx (gaX z) j)) (nI (xC (snx (gaX z) j))) (nI j) (cgF (gLo (xGr (snx (gaX z) j) j))) (grR (snx (gaX z) j) (xGr (snx (gaX z) j) j))))))) (hm_gV hb_479 hb_480 hb_481 hb_22 hb_482) hd_X1_markTold rfl (hGr j hj9).1 rfl rfl ⟨Nat.le_of_ble_eq_true rfl, Nat.le_of_ble_eq_true rfl⟩ rfl hl.1 rfl (Nat.le_of_ble_eq_true rfl) dX6_sendNotices_62 ⟨Nat.le_of_ble_eq_true rfl, Nat.le_of_ble_eq_true rfl⟩ rfl (fun H locs hG => ?_)
        obtain ⟨M_12, eM_12⟩ : ∃ q9, q9 = hm_up (hm_up M_11 (60, j, 0) (grE ad j (mkF (xGr (snx (gaX z) j) j) (nI (xC (snx (gaX z) j)))))) (62, j, 0) (hm_ia g 6 (gTo (mkF (xGr (snx (gaX z) j) j) (nI (xC (snx (gaX z) j)))))) := ⟨_, rfl⟩
        have hG : hm_G g ad M_12 s.heap H locs := by rw [eM_12]; exact hG
        have hx : hasX g ad M_12 (setGr (setL (snx (gaX z) j) (klF (xL (snx (gaX z) j)) (nI (xC (snx (gaX z) j))) (nI j) (cgF (gLo (xGr (snx (gaX z) j) j))) (grR (snx (gaX z) j) (xGr (snx (gaX z) j) j)))) j (mkF (xGr (snx (gaX z) j) j) (nI (xC (snx (gaX z) j))))) := by rw [eM_12]; exact hx.gro j _ (fun h => mk_has (nI (xC (snx (gaX z) j))) (hGr j h)) (fun t h1 h2 h3 => (hm_up_n h3).trans (hm_up_n h1))
        have hfr : ∀ t : TG, 80 ≤ t.1 → M_12 t = M0 t := fun t ht => by rw [eM_12]; exact (((cl_up (by simp) ht).trans (cl_up (by simp) ht))).trans (hfr t ht)
        obtain ⟨hX, hLs, hLr, hLh, h7, hLg, h70, hSe, hRu, hHu, hGr, hS6, hR6, hH5⟩ := id hx
        obtain ⟨fs1, hb1⟩ := hLs.ob
        obtain ⟨fs2, hb2⟩ := hLr.ob
        obtain ⟨fs3, hb3⟩ := hLh.ob
        refine lv_iinc (v := nI (sn (gaX z) (j + 1)).2.2) (lv' := [(1, .int (nI (sn (gaX z) (j + 1)).2.2)), (3, .ref (ad (60, j, 0))), (0, .ref (ad (0, 0, 0))), (2, .int (nI j))]) S.1 S.2.1 dX6_sendNotices_65 hl (k := 2) rfl (by rw [sn_due _ _ e33]; exact nI_1 _) (by decide) rfl (fun ls hl => ?_)
        refine lv_aload_n S.1 S.2.1 dX6_sendNotices_68 rfl (lv_at hl 1 rfl) ?_
        refine lv_aload_n S.1 S.2.1 dX6_sendNotices_69 rfl (lv_at hl 1 rfl) ?_
        refine hm_uV (As := []) (rest := [.ref (ad (60, j, 0))]) (st1 := [.int (bI (ilF (xGr (setGr (setL (snx (gaX z) j) (klF (xL (snx (gaX z) j)) (nI (xC (snx (gaX z) j))) (nI j) (cgF (gLo (xGr (snx (gaX z) j) j))) (grR (snx (gaX z) j) (xGr (snx (gaX z) j) j)))) j (mkF (xGr (snx (gaX z) j) j) (nI (xC (snx (gaX z) j))))) j))), .ref (ad (60, j, 0))]) S hE hG (c_X1_isLoud l g ad M_12 j (xGr (setGr (setL (snx (gaX z) j) (klF (xL (snx (gaX z) j)) (nI (xC (snx (gaX z) j))) (nI j) (cgF (gLo (xGr (snx (gaX z) j) j))) (grR (snx (gaX z) j) (xGr (snx (gaX z) j) j)))) j (mkF (xGr (snx (gaX z) j) j) (nI (xC (snx (gaX z) j))))) j) (hGr j hj9)) (hm_gV hb_484 hb_442 hb_443 hb_22 hb_444) hd_X1_isLoud rfl (hGr j hj9).1 rfl rfl ⟨Nat.le_of_ble_eq_true rfl, Nat.le_of_ble_eq_true rfl⟩ rfl hl.1 rfl (Nat.le_of_ble_eq_true rfl) dX6_sendNotices_70 ⟨Nat.le_of_ble_eq_true rfl, Nat.le_of_ble_eq_true rfl⟩ rfl (fun H locs hG => ?_)
        refine hm_put (k := 3) (fs' := [.ref (ad (61, j, 0)), .ref (ad (62, j, 0)), .int (gAt (xGr (setGr (setL (snx (gaX z) j) (klF (xL (snx (gaX z) j)) (nI (xC (snx (gaX z) j))) (nI j) (cgF (gLo (xGr (snx (gaX z) j) j))) (grR (snx (gaX z) j) (xGr (snx (gaX z) j) j)))) j (mkF (xGr (snx (gaX z) j) j) (nI (xC (snx (gaX z) j))))) j)), .int (bI (ilF (xGr (setGr (setL (snx (gaX z) j) (klF (xL (snx (gaX z) j)) (nI (xC (snx (gaX z) j))) (nI j) (cgF (gLo (xGr (snx (gaX z) j) j))) (grR (snx (gaX z) j) (xGr (snx (gaX z) j) j)))) j (mkF (xGr (snx (gaX z) j) j) (nI (xC (snx (gaX z) j))))) j)))]) S hE hG (hGr j hj9).1 rfl rfl hi_X10 tyX1_ok nmX1 (by decide) hb_420 rfl rfl (hm_narZ _) (hm_fitZ _) (Nat.le_of_ble_eq_true rfl) rfl dX6_sendNotices_73 (fun H locs hG => ?_)
        obtain ⟨M_13, eM_13⟩ : ∃ q9, q9 = hm_up M_12 (60, j, 0) (.inr (2, [.ref (ad (61, j, 0)), .ref (ad (62, j, 0)), .int (gAt (xGr (setGr (setL (snx (gaX z) j) (klF (xL (snx (gaX z) j)) (nI (xC (snx (gaX z) j))) (nI j) (cgF (gLo (xGr (snx (gaX z) j) j))) (grR (snx (gaX z) j) (xGr (snx (gaX z) j) j)))) j (mkF (xGr (snx (gaX z) j) j) (nI (xC (snx (gaX z) j))))) j)), .int (bI (ilF (xGr (setGr (setL (snx (gaX z) j) (klF (xL (snx (gaX z) j)) (nI (xC (snx (gaX z) j))) (nI j) (cgF (gLo (xGr (snx (gaX z) j) j))) (grR (snx (gaX z) j) (xGr (snx (gaX z) j) j)))) j (mkF (xGr (snx (gaX z) j) j) (nI (xC (snx (gaX z) j))))) j)))])) := ⟨_, rfl⟩
        rw [← eM_13] at hG
        have h_14 : M_13 (0, 0, 0) = some (.inr (7, [.ref (ad (1, 0, 0)), .ref (ad (2, 0, 0)), .ref (ad (3, 0, 0)), .ref (ad (7, 0, 0)), .ref (ad (8, 0, 0)), .ref (ad (70, 0, 0)), .int (nI (xC (setGr (setL (snx (gaX z) j) (klF (xL (snx (gaX z) j)) (nI (xC (snx (gaX z) j))) (nI j) (cgF (gLo (xGr (snx (gaX z) j) j))) (grR (snx (gaX z) j) (xGr (snx (gaX z) j) j)))) j (mkF (xGr (snx (gaX z) j) j) (nI (xC (snx (gaX z) j))))))), .int (nI (xG (setGr (setL (snx (gaX z) j) (klF (xL (snx (gaX z) j)) (nI (xC (snx (gaX z) j))) (nI j) (cgF (gLo (xGr (snx (gaX z) j) j))) (grR (snx (gaX z) j) (xGr (snx (gaX z) j) j)))) j (mkF (xGr (snx (gaX z) j) j) (nI (xC (snx (gaX z) j))))))), .int (nI (xP (setGr (setL (snx (gaX z) j) (klF (xL (snx (gaX z) j)) (nI (xC (snx (gaX z) j))) (nI j) (cgF (gLo (xGr (snx (gaX z) j) j))) (grR (snx (gaX z) j) (xGr (snx (gaX z) j) j)))) j (mkF (xGr (snx (gaX z) j) j) (nI (xC (snx (gaX z) j)))))))])) := by rw [eM_13]; exact (hm_up_n (by simp)).trans hX
        have h_15 : M_13 (1, 0, 0) = some (.inr (0, fs1)) := by rw [eM_13]; exact (hm_up_n (by simp)).trans hb1
        have h_16 : M_13 (2, 0, 0) = some (.inr (0, fs2)) := by rw [eM_13]; exact (hm_up_n (by simp)).trans hb2
        have h_17 : M_13 (3, 0, 0) = some (.inr (0, fs3)) := by rw [eM_13]; exact (hm_up_n (by simp)).trans hb3
        have h_18 : M_13 (7, 0, 0) = some (hm_ra g 1 7 (grpA ad)) := by rw [eM_13]; exact (hm_up_n (by simp)).trans h7
        have h_19 : M_13 (8, 0, 0) = some (.inr (4, [.ref (ad (9, 0, 0)), .int (nI (lLa (xL (setGr (setL (snx (gaX z) j) (klF (xL (snx (gaX z) j)) (nI (xC (snx (gaX z) j))) (nI j) (cgF (gLo (xGr (snx (gaX z) j) j))) (grR (snx (gaX z) j) (xGr (snx (gaX z) j) j)))) j (mkF (xGr (snx (gaX z) j) j) (nI (xC (snx (gaX z) j)))))))), .int (nI (lHe (xL (setGr (setL (snx (gaX z) j) (klF (xL (snx (gaX z) j)) (nI (xC (snx (gaX z) j))) (nI j) (cgF (gLo (xGr (snx (gaX z) j) j))) (grR (snx (gaX z) j) (xGr (snx (gaX z) j) j)))) j (mkF (xGr (snx (gaX z) j) j) (nI (xC (snx (gaX z) j)))))))), .int (nI (lEv (xL (setGr (setL (snx (gaX z) j) (klF (xL (snx (gaX z) j)) (nI (xC (snx (gaX z) j))) (nI j) (cgF (gLo (xGr (snx (gaX z) j) j))) (grR (snx (gaX z) j) (xGr (snx (gaX z) j) j)))) j (mkF (xGr (snx (gaX z) j) j) (nI (xC (snx (gaX z) j))))))))])) := by rw [eM_13]; exact (hm_up_n (by simp)).trans hLg.1
        have h_20 : M_13 (60, j, 0) = some (.inr (2, [.ref (ad (61, j, 0)), .ref (ad (62, j, 0)), .int (gAt (xGr (setGr (setL (snx (gaX z) j) (klF (xL (snx (gaX z) j)) (nI (xC (snx (gaX z) j))) (nI j) (cgF (gLo (xGr (snx (gaX z) j) j))) (grR (snx (gaX z) j) (xGr (snx (gaX z) j) j)))) j (mkF (xGr (snx (gaX z) j) j) (nI (xC (snx (gaX z) j))))) j)), .int (bI (ilF (xGr (setGr (setL (snx (gaX z) j) (klF (xL (snx (gaX z) j)) (nI (xC (snx (gaX z) j))) (nI j) (cgF (gLo (xGr (snx (gaX z) j) j))) (grR (snx (gaX z) j) (xGr (snx (gaX z) j) j)))) j (mkF (xGr (snx (gaX z) j) j) (nI (xC (snx (gaX z) j))))) j)))])) := by rw [eM_13]; exact hm_up_s
        have hx : hasX g ad M_13 (setGr (setGr (setL (snx (gaX z) j) (klF (xL (snx (gaX z) j)) (nI (xC (snx (gaX z) j))) (nI j) (cgF (gLo (xGr (snx (gaX z) j) j))) (grR (snx (gaX z) j) (xGr (snx (gaX z) j) j)))) j (mkF (xGr (snx (gaX z) j) j) (nI (xC (snx (gaX z) j))))) j (waF (xGr (setGr (setL (snx (gaX z) j) (klF (xL (snx (gaX z) j)) (nI (xC (snx (gaX z) j))) (nI j) (cgF (gLo (xGr (snx (gaX z) j) j))) (grR (snx (gaX z) j) (xGr (snx (gaX z) j) j)))) j (mkF (xGr (snx (gaX z) j) j) (nI (xC (snx (gaX z) j))))) j) (ilF (xGr (setGr (setL (snx (gaX z) j) (klF (xL (snx (gaX z) j)) (nI (xC (snx (gaX z) j))) (nI j) (cgF (gLo (xGr (snx (gaX z) j) j))) (grR (snx (gaX z) j) (xGr (snx (gaX z) j) j)))) j (mkF (xGr (snx (gaX z) j) j) (nI (xC (snx (gaX z) j))))) j)))) := by rw [eM_13]; exact hx.gro j _ (fun h => wa_has (ilF (xGr (setGr (setL (snx (gaX z) j) (klF (xL (snx (gaX z) j)) (nI (xC (snx (gaX z) j))) (nI j) (cgF (gLo (xGr (snx (gaX z) j) j))) (grR (snx (gaX z) j) (xGr (snx (gaX z) j) j)))) j (mkF (xGr (snx (gaX z) j) j) (nI (xC (snx (gaX z) j))))) j)) (hGr j h)) (fun t h1 h2 h3 => hm_up_n h1)
        have hfr : ∀ t : TG, 80 ≤ t.1 → M_13 t = M0 t := fun t ht => by rw [eM_13]; exact (cl_up (by simp) ht).trans (hfr t ht)
        obtain ⟨hX, hLs, hLr, hLh, h7, hLg, h70, hSe, hRu, hHu, hGr, hS6, hR6, hH5⟩ := id hx
        obtain ⟨fs1, hb1⟩ := hLs.ob
        obtain ⟨fs2, hb2⟩ := hLr.ob
        obtain ⟨fs3, hb3⟩ := hLh.ob
        refine lv_iinc (v := nI (j + 1)) (lv' := [(2, .int (nI (j + 1))), (1, .int (nI (sn (gaX z) (j + 1)).2.2)), (3, .ref (ad (60, j, 0))), (0, .ref (ad (0, 0, 0)))]) S.1 S.2.1 dX6_sendNotices_76 hl (k := 3) rfl (nI_1 j) (by decide) rfl (fun ls hl => ?_)
        refine lv_goto (tgt := 8) S.1 S.2.1 dX6_sendNotices_79 (by decide) ?_
        exact ih8 (j + 1) _ (by omega) (snx_due j e33 hx) hfr _ _ _ hG (lv_sub hl [3, 1, 0] rfl)
  exact L8_1 7 0 M_1 rfl hx hfr _ _ _ hG (lv_sub hl [2, 1, 0] rfl)

theorem tkX_G (x : XD) : ∀ n, xG (tkX x n) = xG x := by
  intro n
  induction n with
  | zero => rfl
  | succ n ih => exact ih

abbrev rm_X6_tick : Room := { frames := 8, cells := 0, slots := 0, locals := 187 }
set_option maxHeartbeats 4000000 in
set_option maxRecDepth 100000 in
theorem c_X6_tick (l : Launch) (g : GV) (ad : AD) (M0 : CT) (z : XD) (hx : hasX g ad M0 z) (nt : Nat) (hg3 : xG z < 3) (h1 : 1 ≤ nt) (h2 : nt ≤ 10) : hm_Met l yX6_tick cX6_tick 5 (some .int) rm_X6_tick g ad M0 [.ref (ad (0, 0, 0)), .int (nI nt)] (hm_pX g ad M0 (tkX z nt) (some (.int (nI (tkS z nt))))) := by
  refine hm_start (own := RX6) (by decide) rfl (Nat.le_of_ble_eq_true rfl) ?_
  intro p e s m args below meth c S hr hlk hnm hE hG ls hl
  have hl : lv_has ls 5 [(0, .ref (ad (0, 0, 0))), (1, .int (nI nt))] := hl
  have hfr : ∀ t : TG, 80 ≤ t.1 → M0 t = M0 t := fun _ _ => rfl
  obtain ⟨hX, hLs, hLr, hLh, h7, hLg, h70, hSe, hRu, hHu, hGr, hS6, hR6, hH5⟩ := id hx
  obtain ⟨fs1, hb1⟩ := hLs.ob
  obtain ⟨fs2, hb2⟩ := hLr.ob
  obtain ⟨fs3, hb3⟩ := hLh.ob
  refine lv_iload_n S.1 S.2.1 dX6_tick_0 rfl (lv_at hl 1 rfl) ?_
  refine hm_uS (As := [.int (nI nt)]) (rest := []) (st1 := []) S hE hG (c_X6_requireTicks l g ad M0 (nI nt) (nI_nlt (b := 1) h1 (by omega)) (nI_nlt (a := 10) h2 (by decide))) (hm_gS hb_330 hb_331 hb_2 hb_332) hd_X6_requireTicks ⟨Nat.le_of_ble_eq_true rfl, Nat.le_of_ble_eq_true rfl⟩ rfl hl.1 rfl (Nat.le_of_ble_eq_true rfl) dX6_tick_1 ⟨Nat.le_of_ble_eq_true rfl, Nat.le_of_ble_eq_true rfl⟩ rfl (fun H locs hG => ?_)
  refine lv_iconst (v := 0) S.1 S.2.1 dX6_tick_4 (by decide) ?_
  refine lv_istore_n (lv' := [(2, .int 0), (0, .ref (ad (0, 0, 0))), (1, .int (nI nt))]) S.1 S.2.1 dX6_tick_5 rfl hl (by decide) rfl (fun ls hl => ?_)
  refine lv_iconst (v := 0) S.1 S.2.1 dX6_tick_6 (by decide) ?_
  refine lv_istore_n (lv' := [(3, .int 0), (2, .int 0), (0, .ref (ad (0, 0, 0))), (1, .int (nI nt))]) S.1 S.2.1 dX6_tick_7 rfl hl (by decide) rfl (fun ls hl => ?_)
  have L8_0 : ∀ (n : Nat) (t0 : Nat) (Mk : CT), n + t0 = nt → hasX g ad Mk (tkX z t0) → (∀ t : TG, 80 ≤ t.1 → Mk t = M0 t) → ∀ (H : Heap) (locs : List Loc) (ls : Array Slot), hm_G g ad Mk s.heap H locs → lv_has ls 5 [(0, .ref (ad (0, 0, 0))), (1, .int (nI nt)), (2, .int (nI (tkS z t0))), (3, .int (nI t0))] → W p l e rm_X6_tick s m args below meth c H locs 0 0 (MQ below (hm_Q g (hm_pX g ad M0 (tkX z nt) (some (.int (nI (tkS z nt)))))) args s rm_X6_tick.cells rm_X6_tick.slots (hm_A g)) (F0 m 8 ls []) := by
    intro n
    induction n with
    | zero =>
      intro t0 Mk ht0 hx hfr H locs ls hG hl
      obtain ⟨hX, hLs, hLr, hLh, h7, hLg, h70, hSe, hRu, hHu, hGr, hS6, hR6, hH5⟩ := id hx
      obtain ⟨fs1, hb1⟩ := hLs.ob
      obtain ⟨fs2, hb2⟩ := hLr.ob
      obtain ⟨fs3, hb3⟩ := hLh.ob
      obtain rfl : t0 = nt := by omega
      refine lv_iload_n S.1 S.2.1 dX6_tick_8 rfl (lv_at hl 3 rfl) ?_
      refine lv_iload_n S.1 S.2.1 dX6_tick_9 rfl (lv_at hl 1 rfl) ?_
      refine lv_icmp_ge (tgt := 109) S.1 S.2.1 dX6_tick_10 (by decide) (fun _ => ?_) (fun h9 => absurd (nI_le (Nat.le_refl _) (by omega)) h9)
      refine lv_iload_n S.1 S.2.1 dX6_tick_109 rfl (lv_at hl 2 rfl) ?_
      exact hm_iret S hG hr hlk (⟨rfl, rfl, hx, hfr⟩) (Nat.le_of_ble_eq_true rfl) (Nat.le_of_ble_eq_true rfl) dX6_tick_110
    | succ n ih8 =>
      intro t0 Mk ht0 hx hfr H locs ls hG hl
      obtain ⟨hX, hLs, hLr, hLh, h7, hLg, h70, hSe, hRu, hHu, hGr, hS6, hR6, hH5⟩ := id hx
      obtain ⟨fs1, hb1⟩ := hLs.ob
      obtain ⟨fs2, hb2⟩ := hLr.ob
      obtain ⟨fs3, hb3⟩ := hLh.ob
      have ht9 : t0 < nt := by omega
      obtain ⟨y, ey⟩ : ∃ y, y = tkX z t0 := ⟨_, rfl⟩
      have hg4 : xG y < 3 := by rw [ey, tkX_G]; exact hg3
      rw [← ey] at hx
      obtain ⟨hX, hLs, hLr, hLh, h7, hLg, h70, hSe, hRu, hHu, hGr, hS6, hR6, hH5⟩ := id hx
      obtain ⟨fs1, hb1⟩ := hLs.ob
      obtain ⟨fs2, hb2⟩ := hLr.ob
      obtain ⟨fs3, hb3⟩ := hLh.ob
      refine lv_iload_n S.1 S.2.1 dX6_tick_8 rfl (lv_at hl 3 rfl) ?_
      refine lv_iload_n S.1 S.2.1 dX6_tick_9 rfl (lv_at hl 1 rfl) ?_
      refine lv_icmp_ge (tgt := 109) S.1 S.2.1 dX6_tick_10 (by decide) (fun h9 => absurd h9 (nI_ge ht9 (by omega))) (fun _ => ?_)
      refine lv_aload_n S.1 S.2.1 dX6_tick_13 rfl (lv_at hl 0 rfl) ?_
      refine lv_dup S.1 S.2.1 dX6_tick_14 rfl ?_
      refine hm_get (k := 6) S hE hG hX rfl rfl hi_X60 (by decide) hb_31 rfl rfl dX6_tick_15 ?_
      refine lv_iconst (v := 1) S.1 S.2.1 dX6_tick_18 (by decide) ?_
      refine lv_iadd S.1 S.2.1 dX6_tick_19 ?_
      refine hm_top (z := nI (xC y + 1)) (nI_1 _) ?_
      refine hm_put (k := 6) (fs' := [.ref (ad (1, 0, 0)), .ref (ad (2, 0, 0)), .ref (ad (3, 0, 0)), .ref (ad (7, 0, 0)), .ref (ad (8, 0, 0)), .ref (ad (70, 0, 0)), .int (nI (xC y + 1)), .int (nI (xG y)), .int (nI (xP y))]) S hE hG hX rfl rfl hi_X60 tyX6_ok nmX6 (by decide) hb_31 rfl rfl (by rfl) (by rfl) (Nat.le_of_ble_eq_true rfl) rfl dX6_tick_20 (fun H locs hG => ?_)
      obtain ⟨M_2, eM_2⟩ : ∃ q9, q9 = hm_up Mk (0, 0, 0) (.inr (7, [.ref (ad (1, 0, 0)), .ref (ad (2, 0, 0)), .ref (ad (3, 0, 0)), .ref (ad (7, 0, 0)), .ref (ad (8, 0, 0)), .ref (ad (70, 0, 0)), .int (nI (xC y + 1)), .int (nI (xG y)), .int (nI (xP y))])) := ⟨_, rfl⟩
      rw [← eM_2] at hG
      have h_3 : M_2 (0, 0, 0) = some (.inr (7, [.ref (ad (1, 0, 0)), .ref (ad (2, 0, 0)), .ref (ad (3, 0, 0)), .ref (ad (7, 0, 0)), .ref (ad (8, 0, 0)), .ref (ad (70, 0, 0)), .int (nI (xC y + 1)), .int (nI (xG y)), .int (nI (xP y))])) := by rw [eM_2]; exact hm_up_s
      have h_4 : M_2 (1, 0, 0) = some (.inr (0, fs1)) := by rw [eM_2]; exact (hm_up_n (by simp)).trans hb1
      have h_5 : M_2 (2, 0, 0) = some (.inr (0, fs2)) := by rw [eM_2]; exact (hm_up_n (by simp)).trans hb2
      have h_6 : M_2 (3, 0, 0) = some (.inr (0, fs3)) := by rw [eM_2]; exact (hm_up_n (by simp)).trans hb3
      have h_7 : M_2 (7, 0, 0) = some (hm_ra g 1 7 (grpA ad)) := by rw [eM_2]; exact (hm_up_n (by simp)).trans h7
      have h_8 : M_2 (8, 0, 0) = some (.inr (4, [.ref (ad (9, 0, 0)), .int (nI (lLa (xL y))), .int (nI (lHe (xL y))), .int (nI (lEv (xL y)))])) := by rw [eM_2]; exact (hm_up_n (by simp)).trans hLg.1
      have hx : hasX g ad M_2 (setC y (xC y + 1)) := by rw [eM_2]; exact hx.fld (setC y (xC y + 1)) rfl rfl rfl rfl rfl rfl rfl rfl rfl
      have hfr : ∀ t : TG, 80 ≤ t.1 → M_2 t = M0 t := fun t ht => by rw [eM_2]; exact (cl_up (by simp) ht).trans (hfr t ht)
      obtain ⟨hX, hLs, hLr, hLh, h7, hLg, h70, hSe, hRu, hHu, hGr, hS6, hR6, hH5⟩ := id hx
      obtain ⟨fs1, hb1⟩ := hLs.ob
      obtain ⟨fs2, hb2⟩ := hLr.ob
      obtain ⟨fs3, hb3⟩ := hLh.ob
      refine lv_iconst (v := 0) S.1 S.2.1 dX6_tick_23 (by decide) ?_
      refine lv_istore (lv' := [(4, .int 0), (0, .ref (ad (0, 0, 0))), (1, .int (nI nt)), (2, .int (nI (tkS z t0))), (3, .int (nI t0))]) S.1 S.2.1 dX6_tick_24 hl (by decide) rfl (fun ls hl => ?_)
      have L26_8 : ∀ (n : Nat) (i : Nat) (Mk : CT), n + i = xS y → hasX g ad Mk (wSe (setC y (xC y + 1)) (sk (setC y (xC y + 1)) i)) → (∀ t : TG, 80 ≤ t.1 → Mk t = M0 t) → ∀ (H : Heap) (locs : List Loc) (ls : Array Slot), hm_G g ad Mk s.heap H locs → lv_has ls 5 [(0, .ref (ad (0, 0, 0))), (1, .int (nI nt)), (2, .int (nI (tkS z t0))), (3, .int (nI t0)), (4, .int (nI i))] → W p l e rm_X6_tick s m args below meth c H locs 0 0 (MQ below (hm_Q g (hm_pX g ad M0 (tkX z nt) (some (.int (nI (tkS z nt)))))) args s rm_X6_tick.cells rm_X6_tick.slots (hm_A g)) (F0 m 26 ls []) := by
        intro n
        induction n with
        | zero =>
          intro i Mk hi0 hx hfr H locs ls hG hl
          obtain ⟨hX, hLs, hLr, hLh, h7, hLg, h70, hSe, hRu, hHu, hGr, hS6, hR6, hH5⟩ := id hx
          obtain ⟨fs1, hb1⟩ := hLs.ob
          obtain ⟨fs2, hb2⟩ := hLr.ob
          obtain ⟨fs3, hb3⟩ := hLh.ob
          obtain rfl : i = xS y := by omega
          refine lv_iload S.1 S.2.1 dX6_tick_26 (lv_at hl 4 rfl) ?_
          refine lv_aload_n S.1 S.2.1 dX6_tick_28 rfl (lv_at hl 0 rfl) ?_
          refine hm_get (k := 0) S hE hG hX rfl rfl hi_X60 (by decide) hb_16 rfl rfl dX6_tick_29 ?_
          refine hm_uV (As := []) (rest := [.int (nI (xS y))]) (st1 := [.int (nI (xS (wSe (setC y (xC y + 1)) (sk (setC y (xC y + 1)) (xS y))))), .int (nI (xS y))]) S hE hG (c_size l hLs) (hm_gV hb_97 hb_98 hb_99 hb_15 hb_100) hd_Jx4a65c_size_8abf5 rfl hb1 rfl rfl ⟨Nat.le_of_ble_eq_true rfl, Nat.le_of_ble_eq_true rfl⟩ rfl hl.1 rfl (Nat.le_of_ble_eq_true rfl) dX6_tick_32 ⟨Nat.le_of_ble_eq_true rfl, Nat.le_of_ble_eq_true rfl⟩ rfl (fun H locs hG => ?_)
          refine lv_icmp_ge (tgt := 59) S.1 S.2.1 dX6_tick_35 (by decide) (fun _ => ?_) (fun h9 => absurd (nI_le (Nat.le_refl _) (by omega)) h9)
          refine lv_iconst (v := 0) S.1 S.2.1 dX6_tick_59 (by decide) ?_
          refine lv_istore (lv' := [(4, .int 0), (0, .ref (ad (0, 0, 0))), (1, .int (nI nt)), (2, .int (nI (tkS z t0))), (3, .int (nI t0))]) S.1 S.2.1 dX6_tick_60 hl (by decide) rfl (fun ls hl => ?_)
          have hx : hasX g ad Mk (tk0 y) := hx
          obtain ⟨hX, hLs, hLr, hLh, h7, hLg, h70, hSe, hRu, hHu, hGr, hS6, hR6, hH5⟩ := id hx
          obtain ⟨fs1, hb1⟩ := hLs.ob
          obtain ⟨fs2, hb2⟩ := hLr.ob
          obtain ⟨fs3, hb3⟩ := hLh.ob
          have L62_9 : ∀ (n : Nat) (r : Nat) (Mk : CT), n + r = xR y → hasX g ad Mk (wAl (tk0 y) (sb (tk0 y) r)) → (∀ t : TG, 80 ≤ t.1 → Mk t = M0 t) → ∀ (H : Heap) (locs : List Loc) (ls : Array Slot), hm_G g ad Mk s.heap H locs → lv_has ls 5 [(0, .ref (ad (0, 0, 0))), (1, .int (nI nt)), (2, .int (nI (tkS z t0))), (3, .int (nI t0)), (4, .int (nI r))] → W p l e rm_X6_tick s m args below meth c H locs 0 0 (MQ below (hm_Q g (hm_pX g ad M0 (tkX z nt) (some (.int (nI (tkS z nt)))))) args s rm_X6_tick.cells rm_X6_tick.slots (hm_A g)) (F0 m 62 ls []) := by
            intro n
            induction n with
            | zero =>
              intro r Mk hr0 hx hfr H locs ls hG hl
              obtain ⟨hX, hLs, hLr, hLh, h7, hLg, h70, hSe, hRu, hHu, hGr, hS6, hR6, hH5⟩ := id hx
              obtain ⟨fs1, hb1⟩ := hLs.ob
              obtain ⟨fs2, hb2⟩ := hLr.ob
              obtain ⟨fs3, hb3⟩ := hLh.ob
              obtain rfl : r = xR y := by omega
              refine lv_iload S.1 S.2.1 dX6_tick_62 (lv_at hl 4 rfl) ?_
              refine lv_aload_n S.1 S.2.1 dX6_tick_64 rfl (lv_at hl 0 rfl) ?_
              refine hm_get (k := 1) S hE hG hX rfl rfl hi_X60 (by decide) hb_17 rfl rfl dX6_tick_65 ?_
              refine hm_uV (As := []) (rest := [.int (nI (xR y))]) (st1 := [.int (nI (xR (wAl (tk0 y) (sb (tk0 y) (xR y))))), .int (nI (xR y))]) S hE hG (c_size l hLr) (hm_gV hb_97 hb_98 hb_99 hb_15 hb_100) hd_Jx4a65c_size_8abf5 rfl hb2 rfl rfl ⟨Nat.le_of_ble_eq_true rfl, Nat.le_of_ble_eq_true rfl⟩ rfl hl.1 rfl (Nat.le_of_ble_eq_true rfl) dX6_tick_68 ⟨Nat.le_of_ble_eq_true rfl, Nat.le_of_ble_eq_true rfl⟩ rfl (fun H locs hG => ?_)
              refine lv_icmp_ge (tgt := 96) S.1 S.2.1 dX6_tick_71 (by decide) (fun _ => ?_) (fun h9 => absurd (nI_le (Nat.le_refl _) (by omega)) h9)
              have hx : hasX g ad Mk (tk1 y) := hx
              obtain ⟨hX, hLs, hLr, hLh, h7, hLg, h70, hSe, hRu, hHu, hGr, hS6, hR6, hH5⟩ := id hx
              obtain ⟨fs1, hb1⟩ := hLs.ob
              obtain ⟨fs2, hb2⟩ := hLr.ob
              obtain ⟨fs3, hb3⟩ := hLh.ob
              refine lv_iload_n S.1 S.2.1 dX6_tick_96 rfl (lv_at hl 2 rfl) ?_
              refine lv_aload_n S.1 S.2.1 dX6_tick_97 rfl (lv_at hl 0 rfl) ?_
              refine hm_xV (As := []) (rest := [.int (nI (tkS z t0))]) (st1 := [.int (nI (snN (tk1 y))), .int (nI (tkS z t0))]) S hE hG (c_X6_sendNotices l g ad Mk (tk1 y) hx hg4) (hm_gV hb_416 hb_417 hb_418 hb_2 hb_419) hd_X6_sendNotices rfl hX rfl rfl ⟨Nat.le_of_ble_eq_true rfl, Nat.le_of_ble_eq_true rfl⟩ rfl hl.1 rfl (Nat.le_of_ble_eq_true rfl) dX6_tick_98 ⟨Nat.le_of_ble_eq_true rfl, Nat.le_of_ble_eq_true rfl⟩ rfl (fun M_11 H locs hx hfr1 hG => ?_)
              have hfr : ∀ t : TG, 80 ≤ t.1 → M_11 t = M0 t := fun t ht => (hfr1 t ht).trans (hfr t ht)
              obtain ⟨hX, hLs, hLr, hLh, h7, hLg, h70, hSe, hRu, hHu, hGr, hS6, hR6, hH5⟩ := id hx
              obtain ⟨fs1, hb1⟩ := hLs.ob
              obtain ⟨fs2, hb2⟩ := hLr.ob
              obtain ⟨fs3, hb3⟩ := hLh.ob
              refine lv_iadd S.1 S.2.1 dX6_tick_101 ?_
              refine hm_top (z := nI (tkS z (t0 + 1))) (by rw [ey]; exact nI_add _ _) ?_
              refine lv_istore_n (lv' := [(2, .int (nI (tkS z (t0 + 1)))), (0, .ref (ad (0, 0, 0))), (1, .int (nI nt)), (3, .int (nI t0)), (4, .int (nI (xR y)))]) S.1 S.2.1 dX6_tick_102 rfl hl (by decide) rfl (fun ls hl => ?_)
              refine lv_iinc (v := nI (t0 + 1)) (lv' := [(3, .int (nI (t0 + 1))), (2, .int (nI (tkS z (t0 + 1)))), (0, .ref (ad (0, 0, 0))), (1, .int (nI nt)), (4, .int (nI (xR y)))]) S.1 S.2.1 dX6_tick_103 hl (k := 3) rfl (nI_1 t0) (by decide) rfl (fun ls hl => ?_)
              refine lv_goto (tgt := 8) S.1 S.2.1 dX6_tick_106 (by decide) ?_
              exact ih8 (t0 + 1) _ (by omega) (by rw [ey] at hx; exact hx) hfr _ _ _ hG (lv_sub hl [2, 3, 1, 0] rfl)
            | succ n ih62 =>
              intro r Mk hr0 hx hfr H locs ls hG hl
              obtain ⟨hX, hLs, hLr, hLh, h7, hLg, h70, hSe, hRu, hHu, hGr, hS6, hR6, hH5⟩ := id hx
              obtain ⟨fs1, hb1⟩ := hLs.ob
              obtain ⟨fs2, hb2⟩ := hLr.ob
              obtain ⟨fs3, hb3⟩ := hLh.ob
              have hr9 : r < xR y := by omega
              refine lv_iload S.1 S.2.1 dX6_tick_62 (lv_at hl 4 rfl) ?_
              refine lv_aload_n S.1 S.2.1 dX6_tick_64 rfl (lv_at hl 0 rfl) ?_
              refine hm_get (k := 1) S hE hG hX rfl rfl hi_X60 (by decide) hb_17 rfl rfl dX6_tick_65 ?_
              refine hm_uV (As := []) (rest := [.int (nI r)]) (st1 := [.int (nI (xR (wAl (tk0 y) (sb (tk0 y) r)))), .int (nI r)]) S hE hG (c_size l hLr) (hm_gV hb_97 hb_98 hb_99 hb_15 hb_100) hd_Jx4a65c_size_8abf5 rfl hb2 rfl rfl ⟨Nat.le_of_ble_eq_true rfl, Nat.le_of_ble_eq_true rfl⟩ rfl hl.1 rfl (Nat.le_of_ble_eq_true rfl) dX6_tick_68 ⟨Nat.le_of_ble_eq_true rfl, Nat.le_of_ble_eq_true rfl⟩ rfl (fun H locs hG => ?_)
              refine lv_icmp_ge (tgt := 96) S.1 S.2.1 dX6_tick_71 (by decide) (fun h9 => absurd h9 (nI_ge hr9 (by omega))) (fun _ => ?_)
              refine lv_aload_n S.1 S.2.1 dX6_tick_74 rfl (lv_at hl 0 rfl) ?_
              refine lv_aload_n S.1 S.2.1 dX6_tick_75 rfl (lv_at hl 0 rfl) ?_
              refine hm_get (k := 1) S hE hG hX rfl rfl hi_X60 (by decide) hb_17 rfl rfl dX6_tick_76 ?_
              refine lv_iload S.1 S.2.1 dX6_tick_79 (lv_at hl 4 rfl) ?_
              refine hm_uV (As := [.int (nI r)]) (rest := [.ref (ad (0, 0, 0))]) (st1 := [.ref (ad (20, r, 0)), .ref (ad (0, 0, 0))]) S hE hG (c_get l hLr r hr9) (hm_gV hb_208 hb_209 hb_210 hb_15 hb_211) hd_Jx4a65c_get_915e3 rfl hb2 rfl rfl ⟨Nat.le_of_ble_eq_true rfl, Nat.le_of_ble_eq_true rfl⟩ rfl hl.1 rfl (Nat.le_of_ble_eq_true rfl) dX6_tick_81 ⟨Nat.le_of_ble_eq_true rfl, Nat.le_of_ble_eq_true rfl⟩ rfl (fun H locs hG => ?_)
              refine hm_cast S hE hG (hRu r hr9).1 rfl rfl hb_207 dX6_tick_84 ?_
              refine hm_xV (As := [.ref (ad (20, r, 0))]) (rest := []) (st1 := []) S hE hG (c_X6_stepAlerts l g ad Mk (wAl (tk0 y) (sb (tk0 y) r)) hx r hr9) (hm_gV hb_412 hb_413 hb_414 hb_2 hb_415) hd_X6_stepAlerts rfl hX rfl rfl ⟨Nat.le_of_ble_eq_true rfl, Nat.le_of_ble_eq_true rfl⟩ rfl hl.1 rfl (Nat.le_of_ble_eq_true rfl) dX6_tick_87 ⟨Nat.le_of_ble_eq_true rfl, Nat.le_of_ble_eq_true rfl⟩ rfl (fun M_12 H locs hx hfr1 hG => ?_)
              have hfr : ∀ t : TG, 80 ≤ t.1 → M_12 t = M0 t := fun t ht => (hfr1 t ht).trans (hfr t ht)
              obtain ⟨hX, hLs, hLr, hLh, h7, hLg, h70, hSe, hRu, hHu, hGr, hS6, hR6, hH5⟩ := id hx
              obtain ⟨fs1, hb1⟩ := hLs.ob
              obtain ⟨fs2, hb2⟩ := hLr.ob
              obtain ⟨fs3, hb3⟩ := hLh.ob
              refine lv_iinc (v := nI (r + 1)) (lv' := [(4, .int (nI (r + 1))), (0, .ref (ad (0, 0, 0))), (1, .int (nI nt)), (2, .int (nI (tkS z t0))), (3, .int (nI t0))]) S.1 S.2.1 dX6_tick_90 hl (k := 4) rfl (nI_1 r) (by decide) rfl (fun ls hl => ?_)
              refine lv_goto (tgt := 62) S.1 S.2.1 dX6_tick_93 (by decide) ?_
              exact ih62 (r + 1) _ (by omega) (sb_1 (tk0 y) r ▸ hx) hfr _ _ _ hG (lv_sub hl [1, 2, 3, 4, 0] rfl)
          exact L62_9 (xR y) 0 Mk rfl ((sb_0 (tk0 y)).symm ▸ hx) hfr _ _ _ hG (lv_sub hl [1, 2, 3, 4, 0] rfl)
        | succ n ih26 =>
          intro i Mk hi0 hx hfr H locs ls hG hl
          obtain ⟨hX, hLs, hLr, hLh, h7, hLg, h70, hSe, hRu, hHu, hGr, hS6, hR6, hH5⟩ := id hx
          obtain ⟨fs1, hb1⟩ := hLs.ob
          obtain ⟨fs2, hb2⟩ := hLr.ob
          obtain ⟨fs3, hb3⟩ := hLh.ob
          have hi9 : i < xS y := by omega
          refine lv_iload S.1 S.2.1 dX6_tick_26 (lv_at hl 4 rfl) ?_
          refine lv_aload_n S.1 S.2.1 dX6_tick_28 rfl (lv_at hl 0 rfl) ?_
          refine hm_get (k := 0) S hE hG hX rfl rfl hi_X60 (by decide) hb_16 rfl rfl dX6_tick_29 ?_
          refine hm_uV (As := []) (rest := [.int (nI i)]) (st1 := [.int (nI (xS (wSe (setC y (xC y + 1)) (sk (setC y (xC y + 1)) i)))), .int (nI i)]) S hE hG (c_size l hLs) (hm_gV hb_97 hb_98 hb_99 hb_15 hb_100) hd_Jx4a65c_size_8abf5 rfl hb1 rfl rfl ⟨Nat.le_of_ble_eq_true rfl, Nat.le_of_ble_eq_true rfl⟩ rfl hl.1 rfl (Nat.le_of_ble_eq_true rfl) dX6_tick_32 ⟨Nat.le_of_ble_eq_true rfl, Nat.le_of_ble_eq_true rfl⟩ rfl (fun H locs hG => ?_)
          refine lv_icmp_ge (tgt := 59) S.1 S.2.1 dX6_tick_35 (by decide) (fun h9 => absurd h9 (nI_ge hi9 (by omega))) (fun _ => ?_)
          refine lv_aload_n S.1 S.2.1 dX6_tick_38 rfl (lv_at hl 0 rfl) ?_
          refine hm_get (k := 0) S hE hG hX rfl rfl hi_X60 (by decide) hb_16 rfl rfl dX6_tick_39 ?_
          refine lv_iload S.1 S.2.1 dX6_tick_42 (lv_at hl 4 rfl) ?_
          refine hm_uV (As := [.int (nI i)]) (rest := []) (st1 := [.ref (ad (10, i, 0))]) S hE hG (c_get l hLs i hi9) (hm_gV hb_208 hb_209 hb_210 hb_15 hb_211) hd_Jx4a65c_get_915e3 rfl hb1 rfl rfl ⟨Nat.le_of_ble_eq_true rfl, Nat.le_of_ble_eq_true rfl⟩ rfl hl.1 rfl (Nat.le_of_ble_eq_true rfl) dX6_tick_44 ⟨Nat.le_of_ble_eq_true rfl, Nat.le_of_ble_eq_true rfl⟩ rfl (fun H locs hG => ?_)
          refine hm_cast S hE hG (hSe i hi9).1 rfl rfl hb_246 dX6_tick_47 ?_
          refine hm_uV (As := []) (rest := []) (st1 := []) S hE hG (c_X5_keepSample l g ad Mk i (xSe (wSe (setC y (xC y + 1)) (sk (setC y (xC y + 1)) i)) i) (hSe i hi9)) (hm_gV hb_407 hb_408 hb_409 hb_90 hb_410) hd_X5_keepSample rfl (hSe i hi9).1 rfl rfl ⟨Nat.le_of_ble_eq_true rfl, Nat.le_of_ble_eq_true rfl⟩ rfl hl.1 rfl (Nat.le_of_ble_eq_true rfl) dX6_tick_50 ⟨Nat.le_of_ble_eq_true rfl, Nat.le_of_ble_eq_true rfl⟩ rfl (fun H locs hG => ?_)
          obtain ⟨M_13, eM_13⟩ : ∃ q9, q9 = keepM g ad Mk i (xSe (wSe (setC y (xC y + 1)) (sk (setC y (xC y + 1)) i)) i) := ⟨_, rfl⟩
          have hG : hm_G g ad M_13 s.heap H locs := by rw [eM_13]; exact hG
          have hx : hasX g ad M_13 (setSe (wSe (setC y (xC y + 1)) (sk (setC y (xC y + 1)) i)) i (keepF (xSe (wSe (setC y (xC y + 1)) (sk (setC y (xC y + 1)) i)) i))) := by rw [eM_13]; exact hx.ser i _ (fun h => keep_has (hSe i h)) (fun t h1 h2 h3 => (hm_up_n (h3 _)).trans (hm_up_n h1))
          have hfr : ∀ t : TG, 80 ≤ t.1 → M_13 t = M0 t := fun t ht => by rw [eM_13]; exact (((cl_up (by simp) ht).trans (cl_up (by simp) ht))).trans (hfr t ht)
          obtain ⟨hX, hLs, hLr, hLh, h7, hLg, h70, hSe, hRu, hHu, hGr, hS6, hR6, hH5⟩ := id hx
          obtain ⟨fs1, hb1⟩ := hLs.ob
          obtain ⟨fs2, hb2⟩ := hLr.ob
          obtain ⟨fs3, hb3⟩ := hLh.ob
          refine lv_iinc (v := nI (i + 1)) (lv' := [(4, .int (nI (i + 1))), (0, .ref (ad (0, 0, 0))), (1, .int (nI nt)), (2, .int (nI (tkS z t0))), (3, .int (nI t0))]) S.1 S.2.1 dX6_tick_53 hl (k := 4) rfl (nI_1 i) (by decide) rfl (fun ls hl => ?_)
          refine lv_goto (tgt := 26) S.1 S.2.1 dX6_tick_56 (by decide) ?_
          exact ih26 (i + 1) _ (by omega) (sk_1 (setC y (xC y + 1)) i ▸ hx) hfr _ _ _ hG (lv_sub hl [1, 2, 3, 4, 0] rfl)
      exact L26_8 (xS y) 0 M_2 rfl ((sk_0 (setC y (xC y + 1))).symm ▸ hx) hfr _ _ _ hG (lv_sub hl [1, 2, 3, 4, 0] rfl)
  exact L8_0 nt 0 M0 rfl hx hfr _ _ _ hG (lv_sub hl [2, 3, 1, 0] rfl)
