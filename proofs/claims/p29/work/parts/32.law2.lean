theorem isAt.mono {x : XD} {q q' r k r' k' : Nat} (w : stOK x) (h : isAt x q r k) (h' : isAt x q' r' k') (hq : q < q') : r < r' ∨ (r = r' ∧ k < k') := by
  obtain ⟨h1, h2, h3, h4⟩ := h
  obtain ⟨g1, g2, g3, g4⟩ := h'
  rcases Nat.lt_trichotomy r r' with e | e | e
  · exact Or.inl e
  · subst e
    refine Or.inr ⟨rfl, ?_⟩
    rcases Nat.lt_or_ge k k' with f | f
    · exact f
    · have := caL_mono (al := xAl x r) (le := 1) f
      omega
  · have a1 := caL_n (w r' k' g1 g2) g3
    have a2 : caL (xAl x r') 1 (k' + 1) ≤ caL (xAl x r') 1 12 := caL_mono (by omega)
    have a3 : caN x 1 (r' + 1) ≤ caN x 1 r := sumN_mono (by omega)
    have a4 : caN x 1 (r' + 1) = caN x 1 r' + caL (xAl x r') 1 12 := rfl
    omega
def bqF (x : XD) (j : Nat) : Bool := decide ((xAl x (atRX x j) (atKX x j)).1 = 2)
def lqF (x : XD) (j : Nat) : Bool := decide (hrF x (atRX x j) (atKX x j) (-1) = 0)

set_option maxHeartbeats 4000000 in
set_option maxRecDepth 100000 in
theorem seg_ale {p : Program} {l : Launch} {e : Env} {s : State} {m : MethodId} {below : List Frame} {meth : Method} {c : Code} {b L : Nat} {xs : Nat → Int32} {g : GV} (C0 : LC p s m meth c b L xs g) {ad : AD} {M : CT} {x : XD} (hx : hasX g ad M x) (w0 : stOK x) (sn i : Nat) (hA : ∀ r k, r < xR x → k < 12 → ¬ (xAl x r k).1 = 0 → ¬ (xAl x r k).2.1 < 1 ∧ ¬ nI (xC x) < (xAl x r k).2.1) (hLq : cntB (lqF x) (caX x 1) = clX x (-1)) (hBq : cntB (bqF x) (caX x 1) = caX x 2) {H : Heap} {locs : List Loc} {ls : Array Slot} {cl sl : Nat} (hG : hm_G g ad M s.heap H locs) (hl : lv_has ls 20 [(0, .ref b), (1, .ref (ad (0, 0, 0))), (2, .int (nI (xS x))), (3, .int (nI (xR x))), (4, .int (nI sn)), (5, .int (nI i)), (11, .long (dgX x)), (13, .int 0), (14, .int 0), (15, .int 0)]) (hcl : cl ≤ 3000) (hsl : sl ≤ 30000) (kk : ∀ (H : Heap) (locs : List Loc) (ls : Array Slot), hm_G g ad M s.heap H locs → lv_has ls 20 [(0, .ref b), (1, .ref (ad (0, 0, 0))), (2, .int (nI (xS x))), (3, .int (nI (xR x))), (4, .int (nI sn)), (5, .int (nI i)), (11, .long (dgX x))] → W p l e room_1 s m #[Value.ref b] below meth c H locs cl sl (lw_Z below #[Value.ref b] s) (F0 m 718 ls [])) : W p l e room_1 s m #[Value.ref b] below meth c H locs cl sl (lw_Z below #[Value.ref b] s) (F0 m 505 ls []) := by
  obtain ⟨S, hr, hlk, hE, hB0, hX0, hL⟩ := id C0
  obtain ⟨hX, hLs, hLr, hLh, h7, hLg, h70, hSe, hRu, hHu, hGr, hS6, hR6, hH5⟩ := id hx
  obtain ⟨fs1, hb1⟩ := hLs.ob
  obtain ⟨fs2, hb2⟩ := hLr.ob
  obtain ⟨fs3, hb3⟩ := hLh.ob
  have hq1 := caX_le x 1
  have hq2 := caX_le x 2
  have hq3 := clX_le x (-1)
  have L505_0 : ∀ (n : Nat) (k : Nat), n + k = caX x 1 → ∀ (H : Heap) (locs : List Loc) (ls : Array Slot), hm_G g ad M s.heap H locs → lv_has ls 20 [(0, .ref b), (1, .ref (ad (0, 0, 0))), (2, .int (nI (xS x))), (3, .int (nI (xR x))), (4, .int (nI sn)), (5, .int (nI i)), (11, .long (dgX x)), (13, .int (nI (cntB (lqF x) k))), (14, .int (nI (cntB (bqF x) k))), (15, .int (nI k))] → W p l e room_1 s m #[Value.ref b] below meth c H locs cl sl (lw_Z below #[Value.ref b] s) (F0 m 505 ls []) := by
    intro n
    induction n with
    | zero =>
      intro k hk0_ H locs ls hG hl
      have e7 : k = caX x 1 := by omega
      subst e7
      rw [hLq, hBq] at hl
      refine lv_iload S.1 S.2.1 dL_law_505 (lv_at hl 9 rfl) ?_
      refine lv_aload_n S.1 S.2.1 dL_law_507 rfl (lv_at hl 1 rfl) ?_
      refine lv_iconst (v := 3) S.1 S.2.1 dL_law_508 (by decide) ?_
      refine hm_uV (As := [.int 3]) (rest := [.int (nI (caX x 1))]) (st1 := [.int (nI (caX x 1)), .int (nI (caX x 1))]) S hE hG (c_X6_many l g ad M x hx 3 (by omega)) (hm_gV hb_262 hb_263 hb_264 hb_2 hb_265) hd_X6_many rfl hX rfl rfl ⟨Nat.le_of_ble_eq_true rfl, Nat.le_of_ble_eq_true rfl⟩ rfl hl.1 rfl (Nat.le_of_ble_eq_true rfl) dL_law_509 ⟨(Nat.le_trans (m := 3000) hcl (Nat.le_of_ble_eq_true rfl)), (Nat.le_trans (m := 30000) hsl (Nat.le_of_ble_eq_true rfl))⟩ rfl (fun H locs hG => ?_)
      refine lv_icmp_ge (tgt := 696) S.1 S.2.1 dL_law_512 (by decide) (fun _ => ?_) (fun h9 => absurd (nI_le (Nat.le_refl _) (by omega)) h9)
      refine lv_iload S.1 S.2.1 dL_law_696 (lv_at hl 7 rfl) ?_
      refine lv_aload_n S.1 S.2.1 dL_law_698 rfl (lv_at hl 1 rfl) ?_
      refine lv_iconst (v := 5) S.1 S.2.1 dL_law_699 (by decide) ?_
      refine hm_uV (As := [.int 5]) (rest := [.int (nI (clX x (-1)))]) (st1 := [.int (nI (clX x (-1))), .int (nI (clX x (-1)))]) S hE hG (c_X6_many l g ad M x hx 5 (by omega)) (hm_gV hb_262 hb_263 hb_264 hb_2 hb_265) hd_X6_many rfl hX rfl rfl ⟨Nat.le_of_ble_eq_true rfl, Nat.le_of_ble_eq_true rfl⟩ rfl hl.1 rfl (Nat.le_of_ble_eq_true rfl) dL_law_700 ⟨(Nat.le_trans (m := 3000) hcl (Nat.le_of_ble_eq_true rfl)), (Nat.le_trans (m := 30000) hsl (Nat.le_of_ble_eq_true rfl))⟩ rfl (fun H locs hG => ?_)
      refine lv_icmp_ne (tgt := 716) S.1 S.2.1 dL_law_703 (by decide) (fun h9 => absurd (rfl) h9) (fun _ => ?_)
      refine lv_iload S.1 S.2.1 dL_law_706 (lv_at hl 8 rfl) ?_
      refine lv_aload_n S.1 S.2.1 dL_law_708 rfl (lv_at hl 1 rfl) ?_
      refine lv_iconst (v := 4) S.1 S.2.1 dL_law_709 (by decide) ?_
      refine hm_uV (As := [.int 4]) (rest := [.int (nI (caX x 2))]) (st1 := [.int (nI (caX x 2)), .int (nI (caX x 2))]) S hE hG (c_X6_many l g ad M x hx 4 (by omega)) (hm_gV hb_262 hb_263 hb_264 hb_2 hb_265) hd_X6_many rfl hX rfl rfl ⟨Nat.le_of_ble_eq_true rfl, Nat.le_of_ble_eq_true rfl⟩ rfl hl.1 rfl (Nat.le_of_ble_eq_true rfl) dL_law_710 ⟨(Nat.le_trans (m := 3000) hcl (Nat.le_of_ble_eq_true rfl)), (Nat.le_trans (m := 30000) hsl (Nat.le_of_ble_eq_true rfl))⟩ rfl (fun H locs hG => ?_)
      refine lv_icmp_eq (tgt := 718) S.1 S.2.1 dL_law_713 (by decide) (fun _ => ?_) (fun h9 => absurd (rfl) h9)
      exact kk _ _ _ hG (lv_sub hl [0, 1, 2, 3, 4, 5, 6] rfl)
    | succ n ih505 =>
      intro k hk0_ H locs ls hG hl
      have hk9 : k < caX x 1 := by omega
      have hat : isAt x k (atRX x k) (atKX x k) := at_spec w0 hk9
      have hst := w0 _ _ hat.1 hat.2.1
      have hsi := hA _ _ hat.1 hat.2.1 hat.2.2.1
      have hrk : atRX x k < 1000 := by have := hat.1; omega
      have hkk : atKX x k < 12 := hat.2.1
      refine lv_iload S.1 S.2.1 dL_law_505 (lv_at hl 9 rfl) ?_
      refine lv_aload_n S.1 S.2.1 dL_law_507 rfl (lv_at hl 1 rfl) ?_
      refine lv_iconst (v := 3) S.1 S.2.1 dL_law_508 (by decide) ?_
      refine hm_uV (As := [.int 3]) (rest := [.int (nI k)]) (st1 := [.int (nI (caX x 1)), .int (nI k)]) S hE hG (c_X6_many l g ad M x hx 3 (by omega)) (hm_gV hb_262 hb_263 hb_264 hb_2 hb_265) hd_X6_many rfl hX rfl rfl ⟨Nat.le_of_ble_eq_true rfl, Nat.le_of_ble_eq_true rfl⟩ rfl hl.1 rfl (Nat.le_of_ble_eq_true rfl) dL_law_509 ⟨(Nat.le_trans (m := 3000) hcl (Nat.le_of_ble_eq_true rfl)), (Nat.le_trans (m := 30000) hsl (Nat.le_of_ble_eq_true rfl))⟩ rfl (fun H locs hG => ?_)
      refine lv_icmp_ge (tgt := 696) S.1 S.2.1 dL_law_512 (by decide) (fun h9 => absurd h9 (nI_ge hk9 (by omega))) (fun _ => ?_)
      refine lv_aload_n S.1 S.2.1 dL_law_515 rfl (lv_at hl 1 rfl) ?_
      refine lv_iload S.1 S.2.1 dL_law_516 (lv_at hl 9 rfl) ?_
      refine lv_iconst (v := 0) S.1 S.2.1 dL_law_518 (by decide) ?_
      refine hm_uV (As := [.int (nI k), .int 0]) (rest := []) (st1 := [.int (nI (atRX x k))]) S hE hG (c_X6_alertAt l g ad M x hx w0 k (atRX x k) (atKX x k) 0 hat (by omega)) (hm_gV hb_578 hb_530 hb_531 hb_2 hb_532) hd_X6_alertAt rfl hX rfl rfl ⟨Nat.le_of_ble_eq_true rfl, Nat.le_of_ble_eq_true rfl⟩ rfl hl.1 rfl (Nat.le_of_ble_eq_true rfl) dL_law_519 ⟨(Nat.le_trans (m := 3000) hcl (Nat.le_of_ble_eq_true rfl)), (Nat.le_trans (m := 30000) hsl (Nat.le_of_ble_eq_true rfl))⟩ rfl (fun H locs hG => ?_)
      refine lv_istore (lv' := [(16, .int (nI (atRX x k))), (0, .ref b), (1, .ref (ad (0, 0, 0))), (2, .int (nI (xS x))), (3, .int (nI (xR x))), (4, .int (nI sn)), (5, .int (nI i)), (11, .long (dgX x)), (13, .int (nI (cntB (lqF x) k))), (14, .int (nI (cntB (bqF x) k))), (15, .int (nI k))]) S.1 S.2.1 dL_law_522 hl (by decide) rfl (fun ls hl => ?_)
      refine lv_aload_n S.1 S.2.1 dL_law_524 rfl (lv_at hl 2 rfl) ?_
      refine lv_iload S.1 S.2.1 dL_law_525 (lv_at hl 10 rfl) ?_
      refine lv_iconst (v := 1) S.1 S.2.1 dL_law_527 (by decide) ?_
      refine hm_uV (As := [.int (nI k), .int 1]) (rest := []) (st1 := [.int (nI (atKX x k))]) S hE hG (c_X6_alertAt l g ad M x hx w0 k (atRX x k) (atKX x k) 1 hat (by omega)) (hm_gV hb_578 hb_530 hb_531 hb_2 hb_532) hd_X6_alertAt rfl hX rfl rfl ⟨Nat.le_of_ble_eq_true rfl, Nat.le_of_ble_eq_true rfl⟩ rfl hl.1 rfl (Nat.le_of_ble_eq_true rfl) dL_law_528 ⟨(Nat.le_trans (m := 3000) hcl (Nat.le_of_ble_eq_true rfl)), (Nat.le_trans (m := 30000) hsl (Nat.le_of_ble_eq_true rfl))⟩ rfl (fun H locs hG => ?_)
      refine lv_istore (lv' := [(17, .int (nI (atKX x k))), (16, .int (nI (atRX x k))), (0, .ref b), (1, .ref (ad (0, 0, 0))), (2, .int (nI (xS x))), (3, .int (nI (xR x))), (4, .int (nI sn)), (5, .int (nI i)), (11, .long (dgX x)), (13, .int (nI (cntB (lqF x) k))), (14, .int (nI (cntB (bqF x) k))), (15, .int (nI k))]) S.1 S.2.1 dL_law_531 hl (by decide) rfl (fun ls hl => ?_)
      refine lv_aload_n S.1 S.2.1 dL_law_533 rfl (lv_at hl 3 rfl) ?_
      refine lv_iload S.1 S.2.1 dL_law_534 (lv_at hl 1 rfl) ?_
      refine lv_iload S.1 S.2.1 dL_law_536 (lv_at hl 0 rfl) ?_
      refine lv_iconst (v := 0) S.1 S.2.1 dL_law_538 (by decide) ?_
      refine hm_uV (As := [.int (nI (atRX x k)), .int (nI (atKX x k)), .int 0]) (rest := []) (st1 := [.int (xAl x (atRX x k) (atKX x k)).1]) S hE hG (c_X6_alert l g ad M x hx (atRX x k) hat.1 (atKX x k) hat.2.1 0 (by omega)) (hm_gV hb_579 hb_538 hb_539 hb_2 hb_540) hd_X6_alert rfl hX rfl rfl ⟨Nat.le_of_ble_eq_true rfl, Nat.le_of_ble_eq_true rfl⟩ rfl hl.1 rfl (Nat.le_of_ble_eq_true rfl) dL_law_539 ⟨(Nat.le_trans (m := 3000) hcl (Nat.le_of_ble_eq_true rfl)), (Nat.le_trans (m := 30000) hsl (Nat.le_of_ble_eq_true rfl))⟩ rfl (fun H locs hG => ?_)
      refine lv_istore (lv' := [(18, .int (xAl x (atRX x k) (atKX x k)).1), (17, .int (nI (atKX x k))), (16, .int (nI (atRX x k))), (0, .ref b), (1, .ref (ad (0, 0, 0))), (2, .int (nI (xS x))), (3, .int (nI (xR x))), (4, .int (nI sn)), (5, .int (nI i)), (11, .long (dgX x)), (13, .int (nI (cntB (lqF x) k))), (14, .int (nI (cntB (bqF x) k))), (15, .int (nI k))]) S.1 S.2.1 dL_law_542 hl (by decide) rfl (fun ls hl => ?_)
      refine lv_aload_n S.1 S.2.1 dL_law_544 rfl (lv_at hl 4 rfl) ?_
      refine lv_iload S.1 S.2.1 dL_law_545 (lv_at hl 2 rfl) ?_
      refine lv_iload S.1 S.2.1 dL_law_547 (lv_at hl 1 rfl) ?_
      refine lv_iconst (v := 1) S.1 S.2.1 dL_law_549 (by decide) ?_
      refine hm_uV (As := [.int (nI (atRX x k)), .int (nI (atKX x k)), .int 1]) (rest := []) (st1 := [.int (xAl x (atRX x k) (atKX x k)).2.1]) S hE hG (c_X6_alert l g ad M x hx (atRX x k) hat.1 (atKX x k) hat.2.1 1 (by omega)) (hm_gV hb_579 hb_538 hb_539 hb_2 hb_540) hd_X6_alert rfl hX rfl rfl ⟨Nat.le_of_ble_eq_true rfl, Nat.le_of_ble_eq_true rfl⟩ rfl hl.1 rfl (Nat.le_of_ble_eq_true rfl) dL_law_550 ⟨(Nat.le_trans (m := 3000) hcl (Nat.le_of_ble_eq_true rfl)), (Nat.le_trans (m := 30000) hsl (Nat.le_of_ble_eq_true rfl))⟩ rfl (fun H locs hG => ?_)
      refine lv_istore (lv' := [(19, .int (xAl x (atRX x k) (atKX x k)).2.1), (18, .int (xAl x (atRX x k) (atKX x k)).1), (17, .int (nI (atKX x k))), (16, .int (nI (atRX x k))), (0, .ref b), (1, .ref (ad (0, 0, 0))), (2, .int (nI (xS x))), (3, .int (nI (xR x))), (4, .int (nI sn)), (5, .int (nI i)), (11, .long (dgX x)), (13, .int (nI (cntB (lqF x) k))), (14, .int (nI (cntB (bqF x) k))), (15, .int (nI k))]) S.1 S.2.1 dL_law_553 hl (by decide) rfl (fun ls hl => ?_)
      refine lv_iload S.1 S.2.1 dL_law_555 (lv_at hl 1 rfl) ?_
      refine lv_iconst (v := 1) S.1 S.2.1 dL_law_557 (by decide) ?_
      refine lv_icmp_lt (tgt := 629) S.1 S.2.1 dL_law_558 (by decide) (fun h9 => absurd h9 (by rcases hst with h | h | h <;> first | exact absurd h hat.2.2.1 | (rw [h]; decide))) (fun _ => ?_)
      refine lv_iload S.1 S.2.1 dL_law_561 (lv_at hl 1 rfl) ?_
      refine lv_iconst (v := 2) S.1 S.2.1 dL_law_563 (by decide) ?_
      refine lv_icmp_gt (tgt := 629) S.1 S.2.1 dL_law_564 (by decide) (fun h9 => absurd h9 (by rcases hst with h | h | h <;> rw [h] <;> decide)) (fun _ => ?_)
      refine lv_iload S.1 S.2.1 dL_law_567 (lv_at hl 0 rfl) ?_
      refine lv_iconst (v := 1) S.1 S.2.1 dL_law_569 (by decide) ?_
      refine lv_icmp_lt (tgt := 629) S.1 S.2.1 dL_law_570 (by decide) (fun h9 => absurd h9 (hsi.1)) (fun _ => ?_)
      refine lv_iload S.1 S.2.1 dL_law_573 (lv_at hl 0 rfl) ?_
      refine lv_aload_n S.1 S.2.1 dL_law_575 rfl (lv_at hl 5 rfl) ?_
      refine hm_uV (As := []) (rest := [.int (xAl x (atRX x k) (atKX x k)).2.1]) (st1 := [.int (nI (xC x)), .int (xAl x (atRX x k) (atKX x k)).2.1]) S hE hG (c_X6_clock l g ad M x hx) (hm_gV hb_580 hb_491 hb_492 hb_2 hb_493) hd_X6_clock rfl hX rfl rfl ⟨Nat.le_of_ble_eq_true rfl, Nat.le_of_ble_eq_true rfl⟩ rfl hl.1 rfl (Nat.le_of_ble_eq_true rfl) dL_law_576 ⟨(Nat.le_trans (m := 3000) hcl (Nat.le_of_ble_eq_true rfl)), (Nat.le_trans (m := 30000) hsl (Nat.le_of_ble_eq_true rfl))⟩ rfl (fun H locs hG => ?_)
      refine lv_icmp_gt (tgt := 629) S.1 S.2.1 dL_law_579 (by decide) (fun h9 => absurd h9 (hsi.2)) (fun _ => ?_)
      by_cases hk0 : k = 0
      · skip
        refine lv_iload S.1 S.2.1 dL_law_582 (lv_at hl 13 rfl) ?_
        refine lv_if_le (tgt := 631) S.1 S.2.1 dL_law_584 (by decide) (fun _ => ?_) (fun h9 => absurd (nI_le (b := 0) (by omega) (by decide)) h9)
        by_cases hb2 : (xAl x (atRX x k) (atKX x k)).1 = 2
        · skip
          refine lv_iload S.1 S.2.1 dL_law_631 (lv_at hl 12 rfl) ?_
          refine lv_iload S.1 S.2.1 dL_law_633 (lv_at hl 1 rfl) ?_
          refine lv_iconst (v := 2) S.1 S.2.1 dL_law_635 (by decide) ?_
          refine lv_icmp_ne (tgt := 643) S.1 S.2.1 dL_law_636 (by decide) (fun h9 => absurd (hb2) h9) (fun _ => ?_)
          refine lv_iconst (v := 1) S.1 S.2.1 dL_law_639 (by decide) ?_
          refine lv_goto (tgt := 644) S.1 S.2.1 dL_law_640 (by decide) ?_
          refine lv_iadd S.1 S.2.1 dL_law_644 ?_
          refine hm_top (z := nI (cntB (bqF x) (k + 1))) (by rw [cntB_t (decide_eq_true hb2)]; exact nI_1 _) ?_
          refine lv_istore (lv' := [(14, .int (nI (cntB (bqF x) (k + 1)))), (19, .int (xAl x (atRX x k) (atKX x k)).2.1), (18, .int (xAl x (atRX x k) (atKX x k)).1), (17, .int (nI (atKX x k))), (16, .int (nI (atRX x k))), (0, .ref b), (1, .ref (ad (0, 0, 0))), (2, .int (nI (xS x))), (3, .int (nI (xR x))), (4, .int (nI sn)), (5, .int (nI i)), (11, .long (dgX x)), (13, .int (nI (cntB (lqF x) k))), (15, .int (nI k))]) S.1 S.2.1 dL_law_645 hl (by decide) rfl (fun ls hl => ?_)
          refine lv_iload S.1 S.2.1 dL_law_647 (lv_at hl 12 rfl) ?_
          refine lv_aload_n S.1 S.2.1 dL_law_649 rfl (lv_at hl 6 rfl) ?_
          refine lv_iload S.1 S.2.1 dL_law_650 (lv_at hl 4 rfl) ?_
          refine lv_iload S.1 S.2.1 dL_law_652 (lv_at hl 3 rfl) ?_
          refine lv_iconst (v := 2) S.1 S.2.1 dL_law_654 (by decide) ?_
          refine hm_uV (As := [.int (nI (atRX x k)), .int (nI (atKX x k)), .int 2]) (rest := [.int (nI (cntB (lqF x) k))]) (st1 := [.int (hrF x (atRX x k) (atKX x k) (-1)), .int (nI (cntB (lqF x) k))]) S hE hG (c_X6_alert l g ad M x hx (atRX x k) hat.1 (atKX x k) hat.2.1 2 (by omega)) (hm_gV hb_579 hb_538 hb_539 hb_2 hb_540) hd_X6_alert rfl hX rfl rfl ⟨Nat.le_of_ble_eq_true rfl, Nat.le_of_ble_eq_true rfl⟩ rfl hl.1 rfl (Nat.le_of_ble_eq_true rfl) dL_law_655 ⟨(Nat.le_trans (m := 3000) hcl (Nat.le_of_ble_eq_true rfl)), (Nat.le_trans (m := 30000) hsl (Nat.le_of_ble_eq_true rfl))⟩ rfl (fun H locs hG => ?_)
          refine lv_if_ne (tgt := 665) S.1 S.2.1 dL_law_658 (by decide) (fun c658 => ?_) (fun c658 => ?_)
          · skip
            refine lv_iconst (v := 0) S.1 S.2.1 dL_law_665 (by decide) ?_
            refine lv_iadd S.1 S.2.1 dL_law_666 ?_
            refine hm_top (z := nI (cntB (lqF x) (k + 1))) (by rw [cntB_f (decide_eq_false c658)]; exact Int32.add_zero _) ?_
            refine lv_istore (lv' := [(13, .int (nI (cntB (lqF x) (k + 1)))), (14, .int (nI (cntB (bqF x) (k + 1)))), (19, .int (xAl x (atRX x k) (atKX x k)).2.1), (18, .int (xAl x (atRX x k) (atKX x k)).1), (17, .int (nI (atKX x k))), (16, .int (nI (atRX x k))), (0, .ref b), (1, .ref (ad (0, 0, 0))), (2, .int (nI (xS x))), (3, .int (nI (xR x))), (4, .int (nI sn)), (5, .int (nI i)), (11, .long (dgX x)), (15, .int (nI k))]) S.1 S.2.1 dL_law_667 hl (by decide) rfl (fun ls hl => ?_)
            refine lv_iload S.1 S.2.1 dL_law_669 (lv_at hl 3 rfl) ?_
            refine lv_iconst (v := 1) S.1 S.2.1 dL_law_671 (by decide) ?_
            refine lv_icmp_ne (tgt := 690) S.1 S.2.1 dL_law_672 (by decide) (fun _ => ?_) (fun h9 => absurd h9 (by rw [hb2]; decide))
            refine lv_iinc (v := nI (k + 1)) (lv' := [(15, .int (nI (k + 1))), (13, .int (nI (cntB (lqF x) (k + 1)))), (14, .int (nI (cntB (bqF x) (k + 1)))), (19, .int (xAl x (atRX x k) (atKX x k)).2.1), (18, .int (xAl x (atRX x k) (atKX x k)).1), (17, .int (nI (atKX x k))), (16, .int (nI (atRX x k))), (0, .ref b), (1, .ref (ad (0, 0, 0))), (2, .int (nI (xS x))), (3, .int (nI (xR x))), (4, .int (nI sn)), (5, .int (nI i)), (11, .long (dgX x))]) S.1 S.2.1 dL_law_690 hl (k := 13) rfl (nI_1 k) (by decide) rfl (fun ls hl => ?_)
            refine lv_goto (tgt := 505) S.1 S.2.1 dL_law_693 (by decide) ?_
            exact ih505 (k + 1) (by omega) _ _ _ hG (lv_sub hl [7, 8, 9, 10, 11, 12, 13, 1, 2, 0] rfl)
          · skip
            refine lv_iconst (v := 1) S.1 S.2.1 dL_law_661 (by decide) ?_
            refine lv_goto (tgt := 666) S.1 S.2.1 dL_law_662 (by decide) ?_
            refine lv_iadd S.1 S.2.1 dL_law_666 ?_
            refine hm_top (z := nI (cntB (lqF x) (k + 1))) (by rw [cntB_t (decide_eq_true c658)]; exact nI_1 _) ?_
            refine lv_istore (lv' := [(13, .int (nI (cntB (lqF x) (k + 1)))), (14, .int (nI (cntB (bqF x) (k + 1)))), (19, .int (xAl x (atRX x k) (atKX x k)).2.1), (18, .int (xAl x (atRX x k) (atKX x k)).1), (17, .int (nI (atKX x k))), (16, .int (nI (atRX x k))), (0, .ref b), (1, .ref (ad (0, 0, 0))), (2, .int (nI (xS x))), (3, .int (nI (xR x))), (4, .int (nI sn)), (5, .int (nI i)), (11, .long (dgX x)), (15, .int (nI k))]) S.1 S.2.1 dL_law_667 hl (by decide) rfl (fun ls hl => ?_)
            refine lv_iload S.1 S.2.1 dL_law_669 (lv_at hl 3 rfl) ?_
            refine lv_iconst (v := 1) S.1 S.2.1 dL_law_671 (by decide) ?_
            refine lv_icmp_ne (tgt := 690) S.1 S.2.1 dL_law_672 (by decide) (fun _ => ?_) (fun h9 => absurd h9 (by rw [hb2]; decide))
            refine lv_iinc (v := nI (k + 1)) (lv' := [(15, .int (nI (k + 1))), (13, .int (nI (cntB (lqF x) (k + 1)))), (14, .int (nI (cntB (bqF x) (k + 1)))), (19, .int (xAl x (atRX x k) (atKX x k)).2.1), (18, .int (xAl x (atRX x k) (atKX x k)).1), (17, .int (nI (atKX x k))), (16, .int (nI (atRX x k))), (0, .ref b), (1, .ref (ad (0, 0, 0))), (2, .int (nI (xS x))), (3, .int (nI (xR x))), (4, .int (nI sn)), (5, .int (nI i)), (11, .long (dgX x))]) S.1 S.2.1 dL_law_690 hl (k := 13) rfl (nI_1 k) (by decide) rfl (fun ls hl => ?_)
            refine lv_goto (tgt := 505) S.1 S.2.1 dL_law_693 (by decide) ?_
            exact ih505 (k + 1) (by omega) _ _ _ hG (lv_sub hl [7, 8, 9, 10, 11, 12, 13, 1, 2, 0] rfl)
        · skip
          have hb1 : (xAl x (atRX x k) (atKX x k)).1 = 1 := by rcases hst with h | h | h; exact absurd h hat.2.2.1; exact h; exact absurd h hb2
          refine lv_iload S.1 S.2.1 dL_law_631 (lv_at hl 12 rfl) ?_
          refine lv_iload S.1 S.2.1 dL_law_633 (lv_at hl 1 rfl) ?_
          refine lv_iconst (v := 2) S.1 S.2.1 dL_law_635 (by decide) ?_
          refine lv_icmp_ne (tgt := 643) S.1 S.2.1 dL_law_636 (by decide) (fun _ => ?_) (fun h9 => absurd h9 (hb2))
          refine lv_iconst (v := 0) S.1 S.2.1 dL_law_643 (by decide) ?_
          refine lv_iadd S.1 S.2.1 dL_law_644 ?_
          refine hm_top (z := nI (cntB (bqF x) (k + 1))) (by rw [cntB_f (decide_eq_false hb2)]; exact Int32.add_zero _) ?_
          refine lv_istore (lv' := [(14, .int (nI (cntB (bqF x) (k + 1)))), (19, .int (xAl x (atRX x k) (atKX x k)).2.1), (18, .int (xAl x (atRX x k) (atKX x k)).1), (17, .int (nI (atKX x k))), (16, .int (nI (atRX x k))), (0, .ref b), (1, .ref (ad (0, 0, 0))), (2, .int (nI (xS x))), (3, .int (nI (xR x))), (4, .int (nI sn)), (5, .int (nI i)), (11, .long (dgX x)), (13, .int (nI (cntB (lqF x) k))), (15, .int (nI k))]) S.1 S.2.1 dL_law_645 hl (by decide) rfl (fun ls hl => ?_)
          refine lv_iload S.1 S.2.1 dL_law_647 (lv_at hl 12 rfl) ?_
          refine lv_aload_n S.1 S.2.1 dL_law_649 rfl (lv_at hl 6 rfl) ?_
          refine lv_iload S.1 S.2.1 dL_law_650 (lv_at hl 4 rfl) ?_
          refine lv_iload S.1 S.2.1 dL_law_652 (lv_at hl 3 rfl) ?_
          refine lv_iconst (v := 2) S.1 S.2.1 dL_law_654 (by decide) ?_
          refine hm_uV (As := [.int (nI (atRX x k)), .int (nI (atKX x k)), .int 2]) (rest := [.int (nI (cntB (lqF x) k))]) (st1 := [.int (hrF x (atRX x k) (atKX x k) (-1)), .int (nI (cntB (lqF x) k))]) S hE hG (c_X6_alert l g ad M x hx (atRX x k) hat.1 (atKX x k) hat.2.1 2 (by omega)) (hm_gV hb_579 hb_538 hb_539 hb_2 hb_540) hd_X6_alert rfl hX rfl rfl ⟨Nat.le_of_ble_eq_true rfl, Nat.le_of_ble_eq_true rfl⟩ rfl hl.1 rfl (Nat.le_of_ble_eq_true rfl) dL_law_655 ⟨(Nat.le_trans (m := 3000) hcl (Nat.le_of_ble_eq_true rfl)), (Nat.le_trans (m := 30000) hsl (Nat.le_of_ble_eq_true rfl))⟩ rfl (fun H locs hG => ?_)
          refine lv_if_ne (tgt := 665) S.1 S.2.1 dL_law_658 (by decide) (fun c658 => ?_) (fun c658 => ?_)
          · skip
            refine lv_iconst (v := 0) S.1 S.2.1 dL_law_665 (by decide) ?_
            refine lv_iadd S.1 S.2.1 dL_law_666 ?_
            refine hm_top (z := nI (cntB (lqF x) (k + 1))) (by rw [cntB_f (decide_eq_false c658)]; exact Int32.add_zero _) ?_
            refine lv_istore (lv' := [(13, .int (nI (cntB (lqF x) (k + 1)))), (14, .int (nI (cntB (bqF x) (k + 1)))), (19, .int (xAl x (atRX x k) (atKX x k)).2.1), (18, .int (xAl x (atRX x k) (atKX x k)).1), (17, .int (nI (atKX x k))), (16, .int (nI (atRX x k))), (0, .ref b), (1, .ref (ad (0, 0, 0))), (2, .int (nI (xS x))), (3, .int (nI (xR x))), (4, .int (nI sn)), (5, .int (nI i)), (11, .long (dgX x)), (15, .int (nI k))]) S.1 S.2.1 dL_law_667 hl (by decide) rfl (fun ls hl => ?_)
            refine lv_iload S.1 S.2.1 dL_law_669 (lv_at hl 3 rfl) ?_
            refine lv_iconst (v := 1) S.1 S.2.1 dL_law_671 (by decide) ?_
            refine lv_icmp_ne (tgt := 690) S.1 S.2.1 dL_law_672 (by decide) (fun h9 => absurd (hb1) h9) (fun _ => ?_)
            refine lv_aload_n S.1 S.2.1 dL_law_675 rfl (lv_at hl 7 rfl) ?_
            refine lv_iload S.1 S.2.1 dL_law_676 (lv_at hl 5 rfl) ?_
            refine lv_iload S.1 S.2.1 dL_law_678 (lv_at hl 4 rfl) ?_
            refine lv_iconst (v := 2) S.1 S.2.1 dL_law_680 (by decide) ?_
            refine hm_uV (As := [.int (nI (atRX x k)), .int (nI (atKX x k)), .int 2]) (rest := []) (st1 := [.int (hrF x (atRX x k) (atKX x k) (-1))]) S hE hG (c_X6_alert l g ad M x hx (atRX x k) hat.1 (atKX x k) hat.2.1 2 (by omega)) (hm_gV hb_579 hb_538 hb_539 hb_2 hb_540) hd_X6_alert rfl hX rfl rfl ⟨Nat.le_of_ble_eq_true rfl, Nat.le_of_ble_eq_true rfl⟩ rfl hl.1 rfl (Nat.le_of_ble_eq_true rfl) dL_law_681 ⟨(Nat.le_trans (m := 3000) hcl (Nat.le_of_ble_eq_true rfl)), (Nat.le_trans (m := 30000) hsl (Nat.le_of_ble_eq_true rfl))⟩ rfl (fun H locs hG => ?_)
            refine lv_iconst (v := 1) S.1 S.2.1 dL_law_684 (by decide) ?_
            refine lv_icmp_eq (tgt := 690) S.1 S.2.1 dL_law_685 (by decide) (fun _ => ?_) (fun h9 => absurd (by rw [hrF, if_pos hb2]) h9)
            refine lv_iinc (v := nI (k + 1)) (lv' := [(15, .int (nI (k + 1))), (13, .int (nI (cntB (lqF x) (k + 1)))), (14, .int (nI (cntB (bqF x) (k + 1)))), (19, .int (xAl x (atRX x k) (atKX x k)).2.1), (18, .int (xAl x (atRX x k) (atKX x k)).1), (17, .int (nI (atKX x k))), (16, .int (nI (atRX x k))), (0, .ref b), (1, .ref (ad (0, 0, 0))), (2, .int (nI (xS x))), (3, .int (nI (xR x))), (4, .int (nI sn)), (5, .int (nI i)), (11, .long (dgX x))]) S.1 S.2.1 dL_law_690 hl (k := 13) rfl (nI_1 k) (by decide) rfl (fun ls hl => ?_)
            refine lv_goto (tgt := 505) S.1 S.2.1 dL_law_693 (by decide) ?_
            exact ih505 (k + 1) (by omega) _ _ _ hG (lv_sub hl [7, 8, 9, 10, 11, 12, 13, 1, 2, 0] rfl)
          · skip
            refine lv_iconst (v := 1) S.1 S.2.1 dL_law_661 (by decide) ?_
            refine lv_goto (tgt := 666) S.1 S.2.1 dL_law_662 (by decide) ?_
            refine lv_iadd S.1 S.2.1 dL_law_666 ?_
            refine hm_top (z := nI (cntB (lqF x) (k + 1))) (by rw [cntB_t (decide_eq_true c658)]; exact nI_1 _) ?_
            refine lv_istore (lv' := [(13, .int (nI (cntB (lqF x) (k + 1)))), (14, .int (nI (cntB (bqF x) (k + 1)))), (19, .int (xAl x (atRX x k) (atKX x k)).2.1), (18, .int (xAl x (atRX x k) (atKX x k)).1), (17, .int (nI (atKX x k))), (16, .int (nI (atRX x k))), (0, .ref b), (1, .ref (ad (0, 0, 0))), (2, .int (nI (xS x))), (3, .int (nI (xR x))), (4, .int (nI sn)), (5, .int (nI i)), (11, .long (dgX x)), (15, .int (nI k))]) S.1 S.2.1 dL_law_667 hl (by decide) rfl (fun ls hl => ?_)
            refine lv_iload S.1 S.2.1 dL_law_669 (lv_at hl 3 rfl) ?_
            refine lv_iconst (v := 1) S.1 S.2.1 dL_law_671 (by decide) ?_
            refine lv_icmp_ne (tgt := 690) S.1 S.2.1 dL_law_672 (by decide) (fun h9 => absurd (hb1) h9) (fun _ => ?_)
            refine lv_aload_n S.1 S.2.1 dL_law_675 rfl (lv_at hl 7 rfl) ?_
            refine lv_iload S.1 S.2.1 dL_law_676 (lv_at hl 5 rfl) ?_
            refine lv_iload S.1 S.2.1 dL_law_678 (lv_at hl 4 rfl) ?_
            refine lv_iconst (v := 2) S.1 S.2.1 dL_law_680 (by decide) ?_
            refine hm_uV (As := [.int (nI (atRX x k)), .int (nI (atKX x k)), .int 2]) (rest := []) (st1 := [.int (hrF x (atRX x k) (atKX x k) (-1))]) S hE hG (c_X6_alert l g ad M x hx (atRX x k) hat.1 (atKX x k) hat.2.1 2 (by omega)) (hm_gV hb_579 hb_538 hb_539 hb_2 hb_540) hd_X6_alert rfl hX rfl rfl ⟨Nat.le_of_ble_eq_true rfl, Nat.le_of_ble_eq_true rfl⟩ rfl hl.1 rfl (Nat.le_of_ble_eq_true rfl) dL_law_681 ⟨(Nat.le_trans (m := 3000) hcl (Nat.le_of_ble_eq_true rfl)), (Nat.le_trans (m := 30000) hsl (Nat.le_of_ble_eq_true rfl))⟩ rfl (fun H locs hG => ?_)
            refine lv_iconst (v := 1) S.1 S.2.1 dL_law_684 (by decide) ?_
            refine lv_icmp_eq (tgt := 690) S.1 S.2.1 dL_law_685 (by decide) (fun _ => ?_) (fun h9 => absurd (by rw [hrF, if_pos hb2]) h9)
            refine lv_iinc (v := nI (k + 1)) (lv' := [(15, .int (nI (k + 1))), (13, .int (nI (cntB (lqF x) (k + 1)))), (14, .int (nI (cntB (bqF x) (k + 1)))), (19, .int (xAl x (atRX x k) (atKX x k)).2.1), (18, .int (xAl x (atRX x k) (atKX x k)).1), (17, .int (nI (atKX x k))), (16, .int (nI (atRX x k))), (0, .ref b), (1, .ref (ad (0, 0, 0))), (2, .int (nI (xS x))), (3, .int (nI (xR x))), (4, .int (nI sn)), (5, .int (nI i)), (11, .long (dgX x))]) S.1 S.2.1 dL_law_690 hl (k := 13) rfl (nI_1 k) (by decide) rfl (fun ls hl => ?_)
            refine lv_goto (tgt := 505) S.1 S.2.1 dL_law_693 (by decide) ?_
            exact ih505 (k + 1) (by omega) _ _ _ hG (lv_sub hl [7, 8, 9, 10, 11, 12, 13, 1, 2, 0] rfl)
      · skip
        have hat1 : isAt x (k - 1) (atRX x (k - 1)) (atKX x (k - 1)) := at_spec w0 (by omega)
        have hmo := isAt.mono w0 hat1 hat (by omega)
        have hkk1 : atKX x (k - 1) < 12 := hat1.2.1
        have hrk1 : atRX x (k - 1) < 1000 := by have := hat1.1; omega
        refine lv_iload S.1 S.2.1 dL_law_582 (lv_at hl 13 rfl) ?_
        refine lv_if_le (tgt := 631) S.1 S.2.1 dL_law_584 (by decide) (fun h9 => absurd h9 (nI_nle (by omega) (by omega))) (fun _ => ?_)
        refine lv_aload_n S.1 S.2.1 dL_law_587 rfl (lv_at hl 5 rfl) ?_
        refine lv_iload S.1 S.2.1 dL_law_588 (lv_at hl 13 rfl) ?_
        refine lv_iconst (v := 1) S.1 S.2.1 dL_law_590 (by decide) ?_
        refine lv_isub S.1 S.2.1 dL_law_591 ?_
        refine hm_top (z := nI (k - 1)) (pk_sub (b := 1) (by omega)) ?_
        refine lv_iconst (v := 0) S.1 S.2.1 dL_law_592 (by decide) ?_
        refine hm_uV (As := [.int (nI (k - 1)), .int 0]) (rest := []) (st1 := [.int (nI (atRX x (k - 1)))]) S hE hG (c_X6_alertAt l g ad M x hx w0 (k - 1) (atRX x (k - 1)) (atKX x (k - 1)) 0 hat1 (by omega)) (hm_gV hb_578 hb_530 hb_531 hb_2 hb_532) hd_X6_alertAt rfl hX rfl rfl ⟨Nat.le_of_ble_eq_true rfl, Nat.le_of_ble_eq_true rfl⟩ rfl hl.1 rfl (Nat.le_of_ble_eq_true rfl) dL_law_593 ⟨(Nat.le_trans (m := 3000) hcl (Nat.le_of_ble_eq_true rfl)), (Nat.le_trans (m := 30000) hsl (Nat.le_of_ble_eq_true rfl))⟩ rfl (fun H locs hG => ?_)
        refine lv_iload S.1 S.2.1 dL_law_596 (lv_at hl 3 rfl) ?_
        refine lv_icmp_gt (tgt := 629) S.1 S.2.1 dL_law_598 (by decide) (fun h9 => absurd h9 (nI_nlt (by omega) (by omega))) (fun _ => ?_)
        refine lv_aload_n S.1 S.2.1 dL_law_601 rfl (lv_at hl 5 rfl) ?_
        refine lv_iload S.1 S.2.1 dL_law_602 (lv_at hl 13 rfl) ?_
        refine lv_iconst (v := 1) S.1 S.2.1 dL_law_604 (by decide) ?_
        refine lv_isub S.1 S.2.1 dL_law_605 ?_
        refine hm_top (z := nI (k - 1)) (pk_sub (b := 1) (by omega)) ?_
        refine lv_iconst (v := 0) S.1 S.2.1 dL_law_606 (by decide) ?_
        refine hm_uV (As := [.int (nI (k - 1)), .int 0]) (rest := []) (st1 := [.int (nI (atRX x (k - 1)))]) S hE hG (c_X6_alertAt l g ad M x hx w0 (k - 1) (atRX x (k - 1)) (atKX x (k - 1)) 0 hat1 (by omega)) (hm_gV hb_578 hb_530 hb_531 hb_2 hb_532) hd_X6_alertAt rfl hX rfl rfl ⟨Nat.le_of_ble_eq_true rfl, Nat.le_of_ble_eq_true rfl⟩ rfl hl.1 rfl (Nat.le_of_ble_eq_true rfl) dL_law_607 ⟨(Nat.le_trans (m := 3000) hcl (Nat.le_of_ble_eq_true rfl)), (Nat.le_trans (m := 30000) hsl (Nat.le_of_ble_eq_true rfl))⟩ rfl (fun H locs hG => ?_)
        refine lv_iload S.1 S.2.1 dL_law_610 (lv_at hl 3 rfl) ?_
        refine lv_icmp_ne (tgt := 631) S.1 S.2.1 dL_law_612 (by decide) (fun c612 => ?_) (fun c612 => ?_)
        · skip
          by_cases hb2 : (xAl x (atRX x k) (atKX x k)).1 = 2
          · skip
            refine lv_iload S.1 S.2.1 dL_law_631 (lv_at hl 12 rfl) ?_
            refine lv_iload S.1 S.2.1 dL_law_633 (lv_at hl 1 rfl) ?_
            refine lv_iconst (v := 2) S.1 S.2.1 dL_law_635 (by decide) ?_
            refine lv_icmp_ne (tgt := 643) S.1 S.2.1 dL_law_636 (by decide) (fun h9 => absurd (hb2) h9) (fun _ => ?_)
            refine lv_iconst (v := 1) S.1 S.2.1 dL_law_639 (by decide) ?_
            refine lv_goto (tgt := 644) S.1 S.2.1 dL_law_640 (by decide) ?_
            refine lv_iadd S.1 S.2.1 dL_law_644 ?_
            refine hm_top (z := nI (cntB (bqF x) (k + 1))) (by rw [cntB_t (decide_eq_true hb2)]; exact nI_1 _) ?_
            refine lv_istore (lv' := [(14, .int (nI (cntB (bqF x) (k + 1)))), (19, .int (xAl x (atRX x k) (atKX x k)).2.1), (18, .int (xAl x (atRX x k) (atKX x k)).1), (17, .int (nI (atKX x k))), (16, .int (nI (atRX x k))), (0, .ref b), (1, .ref (ad (0, 0, 0))), (2, .int (nI (xS x))), (3, .int (nI (xR x))), (4, .int (nI sn)), (5, .int (nI i)), (11, .long (dgX x)), (13, .int (nI (cntB (lqF x) k))), (15, .int (nI k))]) S.1 S.2.1 dL_law_645 hl (by decide) rfl (fun ls hl => ?_)
            refine lv_iload S.1 S.2.1 dL_law_647 (lv_at hl 12 rfl) ?_
            refine lv_aload_n S.1 S.2.1 dL_law_649 rfl (lv_at hl 6 rfl) ?_
            refine lv_iload S.1 S.2.1 dL_law_650 (lv_at hl 4 rfl) ?_
            refine lv_iload S.1 S.2.1 dL_law_652 (lv_at hl 3 rfl) ?_
            refine lv_iconst (v := 2) S.1 S.2.1 dL_law_654 (by decide) ?_
            refine hm_uV (As := [.int (nI (atRX x k)), .int (nI (atKX x k)), .int 2]) (rest := [.int (nI (cntB (lqF x) k))]) (st1 := [.int (hrF x (atRX x k) (atKX x k) (-1)), .int (nI (cntB (lqF x) k))]) S hE hG (c_X6_alert l g ad M x hx (atRX x k) hat.1 (atKX x k) hat.2.1 2 (by omega)) (hm_gV hb_579 hb_538 hb_539 hb_2 hb_540) hd_X6_alert rfl hX rfl rfl ⟨Nat.le_of_ble_eq_true rfl, Nat.le_of_ble_eq_true rfl⟩ rfl hl.1 rfl (Nat.le_of_ble_eq_true rfl) dL_law_655 ⟨(Nat.le_trans (m := 3000) hcl (Nat.le_of_ble_eq_true rfl)), (Nat.le_trans (m := 30000) hsl (Nat.le_of_ble_eq_true rfl))⟩ rfl (fun H locs hG => ?_)
            refine lv_if_ne (tgt := 665) S.1 S.2.1 dL_law_658 (by decide) (fun c658 => ?_) (fun c658 => ?_)
            · skip
              refine lv_iconst (v := 0) S.1 S.2.1 dL_law_665 (by decide) ?_
              refine lv_iadd S.1 S.2.1 dL_law_666 ?_
              refine hm_top (z := nI (cntB (lqF x) (k + 1))) (by rw [cntB_f (decide_eq_false c658)]; exact Int32.add_zero _) ?_
              refine lv_istore (lv' := [(13, .int (nI (cntB (lqF x) (k + 1)))), (14, .int (nI (cntB (bqF x) (k + 1)))), (19, .int (xAl x (atRX x k) (atKX x k)).2.1), (18, .int (xAl x (atRX x k) (atKX x k)).1), (17, .int (nI (atKX x k))), (16, .int (nI (atRX x k))), (0, .ref b), (1, .ref (ad (0, 0, 0))), (2, .int (nI (xS x))), (3, .int (nI (xR x))), (4, .int (nI sn)), (5, .int (nI i)), (11, .long (dgX x)), (15, .int (nI k))]) S.1 S.2.1 dL_law_667 hl (by decide) rfl (fun ls hl => ?_)
              refine lv_iload S.1 S.2.1 dL_law_669 (lv_at hl 3 rfl) ?_
              refine lv_iconst (v := 1) S.1 S.2.1 dL_law_671 (by decide) ?_
              refine lv_icmp_ne (tgt := 690) S.1 S.2.1 dL_law_672 (by decide) (fun _ => ?_) (fun h9 => absurd h9 (by rw [hb2]; decide))
              refine lv_iinc (v := nI (k + 1)) (lv' := [(15, .int (nI (k + 1))), (13, .int (nI (cntB (lqF x) (k + 1)))), (14, .int (nI (cntB (bqF x) (k + 1)))), (19, .int (xAl x (atRX x k) (atKX x k)).2.1), (18, .int (xAl x (atRX x k) (atKX x k)).1), (17, .int (nI (atKX x k))), (16, .int (nI (atRX x k))), (0, .ref b), (1, .ref (ad (0, 0, 0))), (2, .int (nI (xS x))), (3, .int (nI (xR x))), (4, .int (nI sn)), (5, .int (nI i)), (11, .long (dgX x))]) S.1 S.2.1 dL_law_690 hl (k := 13) rfl (nI_1 k) (by decide) rfl (fun ls hl => ?_)
              refine lv_goto (tgt := 505) S.1 S.2.1 dL_law_693 (by decide) ?_
              exact ih505 (k + 1) (by omega) _ _ _ hG (lv_sub hl [7, 8, 9, 10, 11, 12, 13, 1, 2, 0] rfl)
            · skip
              refine lv_iconst (v := 1) S.1 S.2.1 dL_law_661 (by decide) ?_
              refine lv_goto (tgt := 666) S.1 S.2.1 dL_law_662 (by decide) ?_
              refine lv_iadd S.1 S.2.1 dL_law_666 ?_
              refine hm_top (z := nI (cntB (lqF x) (k + 1))) (by rw [cntB_t (decide_eq_true c658)]; exact nI_1 _) ?_
              refine lv_istore (lv' := [(13, .int (nI (cntB (lqF x) (k + 1)))), (14, .int (nI (cntB (bqF x) (k + 1)))), (19, .int (xAl x (atRX x k) (atKX x k)).2.1), (18, .int (xAl x (atRX x k) (atKX x k)).1), (17, .int (nI (atKX x k))), (16, .int (nI (atRX x k))), (0, .ref b), (1, .ref (ad (0, 0, 0))), (2, .int (nI (xS x))), (3, .int (nI (xR x))), (4, .int (nI sn)), (5, .int (nI i)), (11, .long (dgX x)), (15, .int (nI k))]) S.1 S.2.1 dL_law_667 hl (by decide) rfl (fun ls hl => ?_)
              refine lv_iload S.1 S.2.1 dL_law_669 (lv_at hl 3 rfl) ?_
              refine lv_iconst (v := 1) S.1 S.2.1 dL_law_671 (by decide) ?_
              refine lv_icmp_ne (tgt := 690) S.1 S.2.1 dL_law_672 (by decide) (fun _ => ?_) (fun h9 => absurd h9 (by rw [hb2]; decide))
              refine lv_iinc (v := nI (k + 1)) (lv' := [(15, .int (nI (k + 1))), (13, .int (nI (cntB (lqF x) (k + 1)))), (14, .int (nI (cntB (bqF x) (k + 1)))), (19, .int (xAl x (atRX x k) (atKX x k)).2.1), (18, .int (xAl x (atRX x k) (atKX x k)).1), (17, .int (nI (atKX x k))), (16, .int (nI (atRX x k))), (0, .ref b), (1, .ref (ad (0, 0, 0))), (2, .int (nI (xS x))), (3, .int (nI (xR x))), (4, .int (nI sn)), (5, .int (nI i)), (11, .long (dgX x))]) S.1 S.2.1 dL_law_690 hl (k := 13) rfl (nI_1 k) (by decide) rfl (fun ls hl => ?_)
              refine lv_goto (tgt := 505) S.1 S.2.1 dL_law_693 (by decide) ?_
              exact ih505 (k + 1) (by omega) _ _ _ hG (lv_sub hl [7, 8, 9, 10, 11, 12, 13, 1, 2, 0] rfl)
          · skip
            have hb1 : (xAl x (atRX x k) (atKX x k)).1 = 1 := by rcases hst with h | h | h; exact absurd h hat.2.2.1; exact h; exact absurd h hb2
            refine lv_iload S.1 S.2.1 dL_law_631 (lv_at hl 12 rfl) ?_
            refine lv_iload S.1 S.2.1 dL_law_633 (lv_at hl 1 rfl) ?_
            refine lv_iconst (v := 2) S.1 S.2.1 dL_law_635 (by decide) ?_
            refine lv_icmp_ne (tgt := 643) S.1 S.2.1 dL_law_636 (by decide) (fun _ => ?_) (fun h9 => absurd h9 (hb2))
            refine lv_iconst (v := 0) S.1 S.2.1 dL_law_643 (by decide) ?_
            refine lv_iadd S.1 S.2.1 dL_law_644 ?_
            refine hm_top (z := nI (cntB (bqF x) (k + 1))) (by rw [cntB_f (decide_eq_false hb2)]; exact Int32.add_zero _) ?_
            refine lv_istore (lv' := [(14, .int (nI (cntB (bqF x) (k + 1)))), (19, .int (xAl x (atRX x k) (atKX x k)).2.1), (18, .int (xAl x (atRX x k) (atKX x k)).1), (17, .int (nI (atKX x k))), (16, .int (nI (atRX x k))), (0, .ref b), (1, .ref (ad (0, 0, 0))), (2, .int (nI (xS x))), (3, .int (nI (xR x))), (4, .int (nI sn)), (5, .int (nI i)), (11, .long (dgX x)), (13, .int (nI (cntB (lqF x) k))), (15, .int (nI k))]) S.1 S.2.1 dL_law_645 hl (by decide) rfl (fun ls hl => ?_)
            refine lv_iload S.1 S.2.1 dL_law_647 (lv_at hl 12 rfl) ?_
            refine lv_aload_n S.1 S.2.1 dL_law_649 rfl (lv_at hl 6 rfl) ?_
            refine lv_iload S.1 S.2.1 dL_law_650 (lv_at hl 4 rfl) ?_
            refine lv_iload S.1 S.2.1 dL_law_652 (lv_at hl 3 rfl) ?_
            refine lv_iconst (v := 2) S.1 S.2.1 dL_law_654 (by decide) ?_
            refine hm_uV (As := [.int (nI (atRX x k)), .int (nI (atKX x k)), .int 2]) (rest := [.int (nI (cntB (lqF x) k))]) (st1 := [.int (hrF x (atRX x k) (atKX x k) (-1)), .int (nI (cntB (lqF x) k))]) S hE hG (c_X6_alert l g ad M x hx (atRX x k) hat.1 (atKX x k) hat.2.1 2 (by omega)) (hm_gV hb_579 hb_538 hb_539 hb_2 hb_540) hd_X6_alert rfl hX rfl rfl ⟨Nat.le_of_ble_eq_true rfl, Nat.le_of_ble_eq_true rfl⟩ rfl hl.1 rfl (Nat.le_of_ble_eq_true rfl) dL_law_655 ⟨(Nat.le_trans (m := 3000) hcl (Nat.le_of_ble_eq_true rfl)), (Nat.le_trans (m := 30000) hsl (Nat.le_of_ble_eq_true rfl))⟩ rfl (fun H locs hG => ?_)
            refine lv_if_ne (tgt := 665) S.1 S.2.1 dL_law_658 (by decide) (fun c658 => ?_) (fun c658 => ?_)
            · skip
              refine lv_iconst (v := 0) S.1 S.2.1 dL_law_665 (by decide) ?_
              refine lv_iadd S.1 S.2.1 dL_law_666 ?_
              refine hm_top (z := nI (cntB (lqF x) (k + 1))) (by rw [cntB_f (decide_eq_false c658)]; exact Int32.add_zero _) ?_
              refine lv_istore (lv' := [(13, .int (nI (cntB (lqF x) (k + 1)))), (14, .int (nI (cntB (bqF x) (k + 1)))), (19, .int (xAl x (atRX x k) (atKX x k)).2.1), (18, .int (xAl x (atRX x k) (atKX x k)).1), (17, .int (nI (atKX x k))), (16, .int (nI (atRX x k))), (0, .ref b), (1, .ref (ad (0, 0, 0))), (2, .int (nI (xS x))), (3, .int (nI (xR x))), (4, .int (nI sn)), (5, .int (nI i)), (11, .long (dgX x)), (15, .int (nI k))]) S.1 S.2.1 dL_law_667 hl (by decide) rfl (fun ls hl => ?_)
              refine lv_iload S.1 S.2.1 dL_law_669 (lv_at hl 3 rfl) ?_
              refine lv_iconst (v := 1) S.1 S.2.1 dL_law_671 (by decide) ?_
              refine lv_icmp_ne (tgt := 690) S.1 S.2.1 dL_law_672 (by decide) (fun h9 => absurd (hb1) h9) (fun _ => ?_)
              refine lv_aload_n S.1 S.2.1 dL_law_675 rfl (lv_at hl 7 rfl) ?_
              refine lv_iload S.1 S.2.1 dL_law_676 (lv_at hl 5 rfl) ?_
              refine lv_iload S.1 S.2.1 dL_law_678 (lv_at hl 4 rfl) ?_
              refine lv_iconst (v := 2) S.1 S.2.1 dL_law_680 (by decide) ?_
              refine hm_uV (As := [.int (nI (atRX x k)), .int (nI (atKX x k)), .int 2]) (rest := []) (st1 := [.int (hrF x (atRX x k) (atKX x k) (-1))]) S hE hG (c_X6_alert l g ad M x hx (atRX x k) hat.1 (atKX x k) hat.2.1 2 (by omega)) (hm_gV hb_579 hb_538 hb_539 hb_2 hb_540) hd_X6_alert rfl hX rfl rfl ⟨Nat.le_of_ble_eq_true rfl, Nat.le_of_ble_eq_true rfl⟩ rfl hl.1 rfl (Nat.le_of_ble_eq_true rfl) dL_law_681 ⟨(Nat.le_trans (m := 3000) hcl (Nat.le_of_ble_eq_true rfl)), (Nat.le_trans (m := 30000) hsl (Nat.le_of_ble_eq_true rfl))⟩ rfl (fun H locs hG => ?_)
              refine lv_iconst (v := 1) S.1 S.2.1 dL_law_684 (by decide) ?_
              refine lv_icmp_eq (tgt := 690) S.1 S.2.1 dL_law_685 (by decide) (fun _ => ?_) (fun h9 => absurd (by rw [hrF, if_pos hb2]) h9)
              refine lv_iinc (v := nI (k + 1)) (lv' := [(15, .int (nI (k + 1))), (13, .int (nI (cntB (lqF x) (k + 1)))), (14, .int (nI (cntB (bqF x) (k + 1)))), (19, .int (xAl x (atRX x k) (atKX x k)).2.1), (18, .int (xAl x (atRX x k) (atKX x k)).1), (17, .int (nI (atKX x k))), (16, .int (nI (atRX x k))), (0, .ref b), (1, .ref (ad (0, 0, 0))), (2, .int (nI (xS x))), (3, .int (nI (xR x))), (4, .int (nI sn)), (5, .int (nI i)), (11, .long (dgX x))]) S.1 S.2.1 dL_law_690 hl (k := 13) rfl (nI_1 k) (by decide) rfl (fun ls hl => ?_)
              refine lv_goto (tgt := 505) S.1 S.2.1 dL_law_693 (by decide) ?_
              exact ih505 (k + 1) (by omega) _ _ _ hG (lv_sub hl [7, 8, 9, 10, 11, 12, 13, 1, 2, 0] rfl)
            · skip
              refine lv_iconst (v := 1) S.1 S.2.1 dL_law_661 (by decide) ?_
              refine lv_goto (tgt := 666) S.1 S.2.1 dL_law_662 (by decide) ?_
              refine lv_iadd S.1 S.2.1 dL_law_666 ?_
              refine hm_top (z := nI (cntB (lqF x) (k + 1))) (by rw [cntB_t (decide_eq_true c658)]; exact nI_1 _) ?_
              refine lv_istore (lv' := [(13, .int (nI (cntB (lqF x) (k + 1)))), (14, .int (nI (cntB (bqF x) (k + 1)))), (19, .int (xAl x (atRX x k) (atKX x k)).2.1), (18, .int (xAl x (atRX x k) (atKX x k)).1), (17, .int (nI (atKX x k))), (16, .int (nI (atRX x k))), (0, .ref b), (1, .ref (ad (0, 0, 0))), (2, .int (nI (xS x))), (3, .int (nI (xR x))), (4, .int (nI sn)), (5, .int (nI i)), (11, .long (dgX x)), (15, .int (nI k))]) S.1 S.2.1 dL_law_667 hl (by decide) rfl (fun ls hl => ?_)
              refine lv_iload S.1 S.2.1 dL_law_669 (lv_at hl 3 rfl) ?_
              refine lv_iconst (v := 1) S.1 S.2.1 dL_law_671 (by decide) ?_
              refine lv_icmp_ne (tgt := 690) S.1 S.2.1 dL_law_672 (by decide) (fun h9 => absurd (hb1) h9) (fun _ => ?_)
              refine lv_aload_n S.1 S.2.1 dL_law_675 rfl (lv_at hl 7 rfl) ?_
              refine lv_iload S.1 S.2.1 dL_law_676 (lv_at hl 5 rfl) ?_
              refine lv_iload S.1 S.2.1 dL_law_678 (lv_at hl 4 rfl) ?_
              refine lv_iconst (v := 2) S.1 S.2.1 dL_law_680 (by decide) ?_
              refine hm_uV (As := [.int (nI (atRX x k)), .int (nI (atKX x k)), .int 2]) (rest := []) (st1 := [.int (hrF x (atRX x k) (atKX x k) (-1))]) S hE hG (c_X6_alert l g ad M x hx (atRX x k) hat.1 (atKX x k) hat.2.1 2 (by omega)) (hm_gV hb_579 hb_538 hb_539 hb_2 hb_540) hd_X6_alert rfl hX rfl rfl ⟨Nat.le_of_ble_eq_true rfl, Nat.le_of_ble_eq_true rfl⟩ rfl hl.1 rfl (Nat.le_of_ble_eq_true rfl) dL_law_681 ⟨(Nat.le_trans (m := 3000) hcl (Nat.le_of_ble_eq_true rfl)), (Nat.le_trans (m := 30000) hsl (Nat.le_of_ble_eq_true rfl))⟩ rfl (fun H locs hG => ?_)
              refine lv_iconst (v := 1) S.1 S.2.1 dL_law_684 (by decide) ?_
              refine lv_icmp_eq (tgt := 690) S.1 S.2.1 dL_law_685 (by decide) (fun _ => ?_) (fun h9 => absurd (by rw [hrF, if_pos hb2]) h9)
              refine lv_iinc (v := nI (k + 1)) (lv' := [(15, .int (nI (k + 1))), (13, .int (nI (cntB (lqF x) (k + 1)))), (14, .int (nI (cntB (bqF x) (k + 1)))), (19, .int (xAl x (atRX x k) (atKX x k)).2.1), (18, .int (xAl x (atRX x k) (atKX x k)).1), (17, .int (nI (atKX x k))), (16, .int (nI (atRX x k))), (0, .ref b), (1, .ref (ad (0, 0, 0))), (2, .int (nI (xS x))), (3, .int (nI (xR x))), (4, .int (nI sn)), (5, .int (nI i)), (11, .long (dgX x))]) S.1 S.2.1 dL_law_690 hl (k := 13) rfl (nI_1 k) (by decide) rfl (fun ls hl => ?_)
              refine lv_goto (tgt := 505) S.1 S.2.1 dL_law_693 (by decide) ?_
              exact ih505 (k + 1) (by omega) _ _ _ hG (lv_sub hl [7, 8, 9, 10, 11, 12, 13, 1, 2, 0] rfl)
        · skip
          refine lv_aload_n S.1 S.2.1 dL_law_615 rfl (lv_at hl 5 rfl) ?_
          refine lv_iload S.1 S.2.1 dL_law_616 (lv_at hl 13 rfl) ?_
          refine lv_iconst (v := 1) S.1 S.2.1 dL_law_618 (by decide) ?_
          refine lv_isub S.1 S.2.1 dL_law_619 ?_
          refine hm_top (z := nI (k - 1)) (pk_sub (b := 1) (by omega)) ?_
          refine lv_iconst (v := 1) S.1 S.2.1 dL_law_620 (by decide) ?_
          refine hm_uV (As := [.int (nI (k - 1)), .int 1]) (rest := []) (st1 := [.int (nI (atKX x (k - 1)))]) S hE hG (c_X6_alertAt l g ad M x hx w0 (k - 1) (atRX x (k - 1)) (atKX x (k - 1)) 1 hat1 (by omega)) (hm_gV hb_578 hb_530 hb_531 hb_2 hb_532) hd_X6_alertAt rfl hX rfl rfl ⟨Nat.le_of_ble_eq_true rfl, Nat.le_of_ble_eq_true rfl⟩ rfl hl.1 rfl (Nat.le_of_ble_eq_true rfl) dL_law_621 ⟨(Nat.le_trans (m := 3000) hcl (Nat.le_of_ble_eq_true rfl)), (Nat.le_trans (m := 30000) hsl (Nat.le_of_ble_eq_true rfl))⟩ rfl (fun H locs hG => ?_)
          refine lv_iload S.1 S.2.1 dL_law_624 (lv_at hl 2 rfl) ?_
          refine lv_icmp_lt (tgt := 631) S.1 S.2.1 dL_law_626 (by decide) (fun _ => ?_) (fun h9 => absurd (nI_lt (by have := hm_eqI (by omega) (by omega) c612; omega) (by omega)) h9)
          by_cases hb2 : (xAl x (atRX x k) (atKX x k)).1 = 2
          · skip
            refine lv_iload S.1 S.2.1 dL_law_631 (lv_at hl 12 rfl) ?_
            refine lv_iload S.1 S.2.1 dL_law_633 (lv_at hl 1 rfl) ?_
            refine lv_iconst (v := 2) S.1 S.2.1 dL_law_635 (by decide) ?_
            refine lv_icmp_ne (tgt := 643) S.1 S.2.1 dL_law_636 (by decide) (fun h9 => absurd (hb2) h9) (fun _ => ?_)
            refine lv_iconst (v := 1) S.1 S.2.1 dL_law_639 (by decide) ?_
            refine lv_goto (tgt := 644) S.1 S.2.1 dL_law_640 (by decide) ?_
            refine lv_iadd S.1 S.2.1 dL_law_644 ?_
            refine hm_top (z := nI (cntB (bqF x) (k + 1))) (by rw [cntB_t (decide_eq_true hb2)]; exact nI_1 _) ?_
            refine lv_istore (lv' := [(14, .int (nI (cntB (bqF x) (k + 1)))), (19, .int (xAl x (atRX x k) (atKX x k)).2.1), (18, .int (xAl x (atRX x k) (atKX x k)).1), (17, .int (nI (atKX x k))), (16, .int (nI (atRX x k))), (0, .ref b), (1, .ref (ad (0, 0, 0))), (2, .int (nI (xS x))), (3, .int (nI (xR x))), (4, .int (nI sn)), (5, .int (nI i)), (11, .long (dgX x)), (13, .int (nI (cntB (lqF x) k))), (15, .int (nI k))]) S.1 S.2.1 dL_law_645 hl (by decide) rfl (fun ls hl => ?_)
            refine lv_iload S.1 S.2.1 dL_law_647 (lv_at hl 12 rfl) ?_
            refine lv_aload_n S.1 S.2.1 dL_law_649 rfl (lv_at hl 6 rfl) ?_
            refine lv_iload S.1 S.2.1 dL_law_650 (lv_at hl 4 rfl) ?_
            refine lv_iload S.1 S.2.1 dL_law_652 (lv_at hl 3 rfl) ?_
            refine lv_iconst (v := 2) S.1 S.2.1 dL_law_654 (by decide) ?_
            refine hm_uV (As := [.int (nI (atRX x k)), .int (nI (atKX x k)), .int 2]) (rest := [.int (nI (cntB (lqF x) k))]) (st1 := [.int (hrF x (atRX x k) (atKX x k) (-1)), .int (nI (cntB (lqF x) k))]) S hE hG (c_X6_alert l g ad M x hx (atRX x k) hat.1 (atKX x k) hat.2.1 2 (by omega)) (hm_gV hb_579 hb_538 hb_539 hb_2 hb_540) hd_X6_alert rfl hX rfl rfl ⟨Nat.le_of_ble_eq_true rfl, Nat.le_of_ble_eq_true rfl⟩ rfl hl.1 rfl (Nat.le_of_ble_eq_true rfl) dL_law_655 ⟨(Nat.le_trans (m := 3000) hcl (Nat.le_of_ble_eq_true rfl)), (Nat.le_trans (m := 30000) hsl (Nat.le_of_ble_eq_true rfl))⟩ rfl (fun H locs hG => ?_)
            refine lv_if_ne (tgt := 665) S.1 S.2.1 dL_law_658 (by decide) (fun c658 => ?_) (fun c658 => ?_)
            · skip
              refine lv_iconst (v := 0) S.1 S.2.1 dL_law_665 (by decide) ?_
              refine lv_iadd S.1 S.2.1 dL_law_666 ?_
              refine hm_top (z := nI (cntB (lqF x) (k + 1))) (by rw [cntB_f (decide_eq_false c658)]; exact Int32.add_zero _) ?_
              refine lv_istore (lv' := [(13, .int (nI (cntB (lqF x) (k + 1)))), (14, .int (nI (cntB (bqF x) (k + 1)))), (19, .int (xAl x (atRX x k) (atKX x k)).2.1), (18, .int (xAl x (atRX x k) (atKX x k)).1), (17, .int (nI (atKX x k))), (16, .int (nI (atRX x k))), (0, .ref b), (1, .ref (ad (0, 0, 0))), (2, .int (nI (xS x))), (3, .int (nI (xR x))), (4, .int (nI sn)), (5, .int (nI i)), (11, .long (dgX x)), (15, .int (nI k))]) S.1 S.2.1 dL_law_667 hl (by decide) rfl (fun ls hl => ?_)
              refine lv_iload S.1 S.2.1 dL_law_669 (lv_at hl 3 rfl) ?_
              refine lv_iconst (v := 1) S.1 S.2.1 dL_law_671 (by decide) ?_
              refine lv_icmp_ne (tgt := 690) S.1 S.2.1 dL_law_672 (by decide) (fun _ => ?_) (fun h9 => absurd h9 (by rw [hb2]; decide))
              refine lv_iinc (v := nI (k + 1)) (lv' := [(15, .int (nI (k + 1))), (13, .int (nI (cntB (lqF x) (k + 1)))), (14, .int (nI (cntB (bqF x) (k + 1)))), (19, .int (xAl x (atRX x k) (atKX x k)).2.1), (18, .int (xAl x (atRX x k) (atKX x k)).1), (17, .int (nI (atKX x k))), (16, .int (nI (atRX x k))), (0, .ref b), (1, .ref (ad (0, 0, 0))), (2, .int (nI (xS x))), (3, .int (nI (xR x))), (4, .int (nI sn)), (5, .int (nI i)), (11, .long (dgX x))]) S.1 S.2.1 dL_law_690 hl (k := 13) rfl (nI_1 k) (by decide) rfl (fun ls hl => ?_)
              refine lv_goto (tgt := 505) S.1 S.2.1 dL_law_693 (by decide) ?_
              exact ih505 (k + 1) (by omega) _ _ _ hG (lv_sub hl [7, 8, 9, 10, 11, 12, 13, 1, 2, 0] rfl)
            · skip
              refine lv_iconst (v := 1) S.1 S.2.1 dL_law_661 (by decide) ?_
              refine lv_goto (tgt := 666) S.1 S.2.1 dL_law_662 (by decide) ?_
              refine lv_iadd S.1 S.2.1 dL_law_666 ?_
              refine hm_top (z := nI (cntB (lqF x) (k + 1))) (by rw [cntB_t (decide_eq_true c658)]; exact nI_1 _) ?_
              refine lv_istore (lv' := [(13, .int (nI (cntB (lqF x) (k + 1)))), (14, .int (nI (cntB (bqF x) (k + 1)))), (19, .int (xAl x (atRX x k) (atKX x k)).2.1), (18, .int (xAl x (atRX x k) (atKX x k)).1), (17, .int (nI (atKX x k))), (16, .int (nI (atRX x k))), (0, .ref b), (1, .ref (ad (0, 0, 0))), (2, .int (nI (xS x))), (3, .int (nI (xR x))), (4, .int (nI sn)), (5, .int (nI i)), (11, .long (dgX x)), (15, .int (nI k))]) S.1 S.2.1 dL_law_667 hl (by decide) rfl (fun ls hl => ?_)
              refine lv_iload S.1 S.2.1 dL_law_669 (lv_at hl 3 rfl) ?_
              refine lv_iconst (v := 1) S.1 S.2.1 dL_law_671 (by decide) ?_
              refine lv_icmp_ne (tgt := 690) S.1 S.2.1 dL_law_672 (by decide) (fun _ => ?_) (fun h9 => absurd h9 (by rw [hb2]; decide))
              refine lv_iinc (v := nI (k + 1)) (lv' := [(15, .int (nI (k + 1))), (13, .int (nI (cntB (lqF x) (k + 1)))), (14, .int (nI (cntB (bqF x) (k + 1)))), (19, .int (xAl x (atRX x k) (atKX x k)).2.1), (18, .int (xAl x (atRX x k) (atKX x k)).1), (17, .int (nI (atKX x k))), (16, .int (nI (atRX x k))), (0, .ref b), (1, .ref (ad (0, 0, 0))), (2, .int (nI (xS x))), (3, .int (nI (xR x))), (4, .int (nI sn)), (5, .int (nI i)), (11, .long (dgX x))]) S.1 S.2.1 dL_law_690 hl (k := 13) rfl (nI_1 k) (by decide) rfl (fun ls hl => ?_)
              refine lv_goto (tgt := 505) S.1 S.2.1 dL_law_693 (by decide) ?_
              exact ih505 (k + 1) (by omega) _ _ _ hG (lv_sub hl [7, 8, 9, 10, 11, 12, 13, 1, 2, 0] rfl)
          · skip
            have hb1 : (xAl x (atRX x k) (atKX x k)).1 = 1 := by rcases hst with h | h | h; exact absurd h hat.2.2.1; exact h; exact absurd h hb2
            refine lv_iload S.1 S.2.1 dL_law_631 (lv_at hl 12 rfl) ?_
            refine lv_iload S.1 S.2.1 dL_law_633 (lv_at hl 1 rfl) ?_
            refine lv_iconst (v := 2) S.1 S.2.1 dL_law_635 (by decide) ?_
            refine lv_icmp_ne (tgt := 643) S.1 S.2.1 dL_law_636 (by decide) (fun _ => ?_) (fun h9 => absurd h9 (hb2))
            refine lv_iconst (v := 0) S.1 S.2.1 dL_law_643 (by decide) ?_
            refine lv_iadd S.1 S.2.1 dL_law_644 ?_
            refine hm_top (z := nI (cntB (bqF x) (k + 1))) (by rw [cntB_f (decide_eq_false hb2)]; exact Int32.add_zero _) ?_
            refine lv_istore (lv' := [(14, .int (nI (cntB (bqF x) (k + 1)))), (19, .int (xAl x (atRX x k) (atKX x k)).2.1), (18, .int (xAl x (atRX x k) (atKX x k)).1), (17, .int (nI (atKX x k))), (16, .int (nI (atRX x k))), (0, .ref b), (1, .ref (ad (0, 0, 0))), (2, .int (nI (xS x))), (3, .int (nI (xR x))), (4, .int (nI sn)), (5, .int (nI i)), (11, .long (dgX x)), (13, .int (nI (cntB (lqF x) k))), (15, .int (nI k))]) S.1 S.2.1 dL_law_645 hl (by decide) rfl (fun ls hl => ?_)
            refine lv_iload S.1 S.2.1 dL_law_647 (lv_at hl 12 rfl) ?_
            refine lv_aload_n S.1 S.2.1 dL_law_649 rfl (lv_at hl 6 rfl) ?_
            refine lv_iload S.1 S.2.1 dL_law_650 (lv_at hl 4 rfl) ?_
            refine lv_iload S.1 S.2.1 dL_law_652 (lv_at hl 3 rfl) ?_
            refine lv_iconst (v := 2) S.1 S.2.1 dL_law_654 (by decide) ?_
            refine hm_uV (As := [.int (nI (atRX x k)), .int (nI (atKX x k)), .int 2]) (rest := [.int (nI (cntB (lqF x) k))]) (st1 := [.int (hrF x (atRX x k) (atKX x k) (-1)), .int (nI (cntB (lqF x) k))]) S hE hG (c_X6_alert l g ad M x hx (atRX x k) hat.1 (atKX x k) hat.2.1 2 (by omega)) (hm_gV hb_579 hb_538 hb_539 hb_2 hb_540) hd_X6_alert rfl hX rfl rfl ⟨Nat.le_of_ble_eq_true rfl, Nat.le_of_ble_eq_true rfl⟩ rfl hl.1 rfl (Nat.le_of_ble_eq_true rfl) dL_law_655 ⟨(Nat.le_trans (m := 3000) hcl (Nat.le_of_ble_eq_true rfl)), (Nat.le_trans (m := 30000) hsl (Nat.le_of_ble_eq_true rfl))⟩ rfl (fun H locs hG => ?_)
            refine lv_if_ne (tgt := 665) S.1 S.2.1 dL_law_658 (by decide) (fun c658 => ?_) (fun c658 => ?_)
            · skip
              refine lv_iconst (v := 0) S.1 S.2.1 dL_law_665 (by decide) ?_
              refine lv_iadd S.1 S.2.1 dL_law_666 ?_
              refine hm_top (z := nI (cntB (lqF x) (k + 1))) (by rw [cntB_f (decide_eq_false c658)]; exact Int32.add_zero _) ?_
              refine lv_istore (lv' := [(13, .int (nI (cntB (lqF x) (k + 1)))), (14, .int (nI (cntB (bqF x) (k + 1)))), (19, .int (xAl x (atRX x k) (atKX x k)).2.1), (18, .int (xAl x (atRX x k) (atKX x k)).1), (17, .int (nI (atKX x k))), (16, .int (nI (atRX x k))), (0, .ref b), (1, .ref (ad (0, 0, 0))), (2, .int (nI (xS x))), (3, .int (nI (xR x))), (4, .int (nI sn)), (5, .int (nI i)), (11, .long (dgX x)), (15, .int (nI k))]) S.1 S.2.1 dL_law_667 hl (by decide) rfl (fun ls hl => ?_)
              refine lv_iload S.1 S.2.1 dL_law_669 (lv_at hl 3 rfl) ?_
              refine lv_iconst (v := 1) S.1 S.2.1 dL_law_671 (by decide) ?_
              refine lv_icmp_ne (tgt := 690) S.1 S.2.1 dL_law_672 (by decide) (fun h9 => absurd (hb1) h9) (fun _ => ?_)
              refine lv_aload_n S.1 S.2.1 dL_law_675 rfl (lv_at hl 7 rfl) ?_
              refine lv_iload S.1 S.2.1 dL_law_676 (lv_at hl 5 rfl) ?_
              refine lv_iload S.1 S.2.1 dL_law_678 (lv_at hl 4 rfl) ?_
              refine lv_iconst (v := 2) S.1 S.2.1 dL_law_680 (by decide) ?_
              refine hm_uV (As := [.int (nI (atRX x k)), .int (nI (atKX x k)), .int 2]) (rest := []) (st1 := [.int (hrF x (atRX x k) (atKX x k) (-1))]) S hE hG (c_X6_alert l g ad M x hx (atRX x k) hat.1 (atKX x k) hat.2.1 2 (by omega)) (hm_gV hb_579 hb_538 hb_539 hb_2 hb_540) hd_X6_alert rfl hX rfl rfl ⟨Nat.le_of_ble_eq_true rfl, Nat.le_of_ble_eq_true rfl⟩ rfl hl.1 rfl (Nat.le_of_ble_eq_true rfl) dL_law_681 ⟨(Nat.le_trans (m := 3000) hcl (Nat.le_of_ble_eq_true rfl)), (Nat.le_trans (m := 30000) hsl (Nat.le_of_ble_eq_true rfl))⟩ rfl (fun H locs hG => ?_)
              refine lv_iconst (v := 1) S.1 S.2.1 dL_law_684 (by decide) ?_
              refine lv_icmp_eq (tgt := 690) S.1 S.2.1 dL_law_685 (by decide) (fun _ => ?_) (fun h9 => absurd (by rw [hrF, if_pos hb2]) h9)
              refine lv_iinc (v := nI (k + 1)) (lv' := [(15, .int (nI (k + 1))), (13, .int (nI (cntB (lqF x) (k + 1)))), (14, .int (nI (cntB (bqF x) (k + 1)))), (19, .int (xAl x (atRX x k) (atKX x k)).2.1), (18, .int (xAl x (atRX x k) (atKX x k)).1), (17, .int (nI (atKX x k))), (16, .int (nI (atRX x k))), (0, .ref b), (1, .ref (ad (0, 0, 0))), (2, .int (nI (xS x))), (3, .int (nI (xR x))), (4, .int (nI sn)), (5, .int (nI i)), (11, .long (dgX x))]) S.1 S.2.1 dL_law_690 hl (k := 13) rfl (nI_1 k) (by decide) rfl (fun ls hl => ?_)
              refine lv_goto (tgt := 505) S.1 S.2.1 dL_law_693 (by decide) ?_
              exact ih505 (k + 1) (by omega) _ _ _ hG (lv_sub hl [7, 8, 9, 10, 11, 12, 13, 1, 2, 0] rfl)
            · skip
              refine lv_iconst (v := 1) S.1 S.2.1 dL_law_661 (by decide) ?_
              refine lv_goto (tgt := 666) S.1 S.2.1 dL_law_662 (by decide) ?_
              refine lv_iadd S.1 S.2.1 dL_law_666 ?_
              refine hm_top (z := nI (cntB (lqF x) (k + 1))) (by rw [cntB_t (decide_eq_true c658)]; exact nI_1 _) ?_
              refine lv_istore (lv' := [(13, .int (nI (cntB (lqF x) (k + 1)))), (14, .int (nI (cntB (bqF x) (k + 1)))), (19, .int (xAl x (atRX x k) (atKX x k)).2.1), (18, .int (xAl x (atRX x k) (atKX x k)).1), (17, .int (nI (atKX x k))), (16, .int (nI (atRX x k))), (0, .ref b), (1, .ref (ad (0, 0, 0))), (2, .int (nI (xS x))), (3, .int (nI (xR x))), (4, .int (nI sn)), (5, .int (nI i)), (11, .long (dgX x)), (15, .int (nI k))]) S.1 S.2.1 dL_law_667 hl (by decide) rfl (fun ls hl => ?_)
              refine lv_iload S.1 S.2.1 dL_law_669 (lv_at hl 3 rfl) ?_
              refine lv_iconst (v := 1) S.1 S.2.1 dL_law_671 (by decide) ?_
              refine lv_icmp_ne (tgt := 690) S.1 S.2.1 dL_law_672 (by decide) (fun h9 => absurd (hb1) h9) (fun _ => ?_)
              refine lv_aload_n S.1 S.2.1 dL_law_675 rfl (lv_at hl 7 rfl) ?_
              refine lv_iload S.1 S.2.1 dL_law_676 (lv_at hl 5 rfl) ?_
              refine lv_iload S.1 S.2.1 dL_law_678 (lv_at hl 4 rfl) ?_
              refine lv_iconst (v := 2) S.1 S.2.1 dL_law_680 (by decide) ?_
              refine hm_uV (As := [.int (nI (atRX x k)), .int (nI (atKX x k)), .int 2]) (rest := []) (st1 := [.int (hrF x (atRX x k) (atKX x k) (-1))]) S hE hG (c_X6_alert l g ad M x hx (atRX x k) hat.1 (atKX x k) hat.2.1 2 (by omega)) (hm_gV hb_579 hb_538 hb_539 hb_2 hb_540) hd_X6_alert rfl hX rfl rfl ⟨Nat.le_of_ble_eq_true rfl, Nat.le_of_ble_eq_true rfl⟩ rfl hl.1 rfl (Nat.le_of_ble_eq_true rfl) dL_law_681 ⟨(Nat.le_trans (m := 3000) hcl (Nat.le_of_ble_eq_true rfl)), (Nat.le_trans (m := 30000) hsl (Nat.le_of_ble_eq_true rfl))⟩ rfl (fun H locs hG => ?_)
              refine lv_iconst (v := 1) S.1 S.2.1 dL_law_684 (by decide) ?_
              refine lv_icmp_eq (tgt := 690) S.1 S.2.1 dL_law_685 (by decide) (fun _ => ?_) (fun h9 => absurd (by rw [hrF, if_pos hb2]) h9)
              refine lv_iinc (v := nI (k + 1)) (lv' := [(15, .int (nI (k + 1))), (13, .int (nI (cntB (lqF x) (k + 1)))), (14, .int (nI (cntB (bqF x) (k + 1)))), (19, .int (xAl x (atRX x k) (atKX x k)).2.1), (18, .int (xAl x (atRX x k) (atKX x k)).1), (17, .int (nI (atKX x k))), (16, .int (nI (atRX x k))), (0, .ref b), (1, .ref (ad (0, 0, 0))), (2, .int (nI (xS x))), (3, .int (nI (xR x))), (4, .int (nI sn)), (5, .int (nI i)), (11, .long (dgX x))]) S.1 S.2.1 dL_law_690 hl (k := 13) rfl (nI_1 k) (by decide) rfl (fun ls hl => ?_)
              refine lv_goto (tgt := 505) S.1 S.2.1 dL_law_693 (by decide) ?_
              exact ih505 (k + 1) (by omega) _ _ _ hG (lv_sub hl [7, 8, 9, 10, 11, 12, 13, 1, 2, 0] rfl)
  exact L505_0 (caX x 1) 0 (by omega) _ _ _ hG (lv_sub hl [0, 1, 2, 3, 4, 5, 6, 7, 8, 9] rfl)

set_option maxHeartbeats 4000000 in
set_option maxRecDepth 100000 in
theorem seg_cnt {p : Program} {l : Launch} {e : Env} {s : State} {m : MethodId} {below : List Frame} {meth : Method} {c : Code} {b L : Nat} {xs : Nat → Int32} {g : GV} (C0 : LC p s m meth c b L xs g) {ad : AD} {M : CT} {x : XD} (hx : hasX g ad M x) (w0 : stOK x) (w1 : liOK x) (sn i t wd ou : Nat) (ht : t ≤ 10) (h1 : caX x 2 = wd) (h2 : ou ≤ 7 * t) (h3 : lEv (xL x) = sn) (h4 : clX x (-1) ≤ caX x 2) (h5 : caX x 2 ≤ caX x 1) {H : Heap} {locs : List Loc} {ls : Array Slot} {cl sl : Nat} (hG : hm_G g ad M s.heap H locs) (hl : lv_has ls 20 [(0, .ref b), (1, .ref (ad (0, 0, 0))), (2, .int (nI (xS x))), (3, .int (nI (xR x))), (4, .int (nI sn)), (5, .int (nI i)), (8, .int (nI t)), (9, .int (nI wd)), (10, .int (nI ou))]) (hcl : cl ≤ 3000) (hsl : sl ≤ 30000) (kk : ∀ (H : Heap) (locs : List Loc) (ls : Array Slot), hm_G g ad M s.heap H locs → lv_has ls 20 [(0, .ref b), (1, .ref (ad (0, 0, 0))), (2, .int (nI (xS x))), (3, .int (nI (xR x))), (4, .int (nI sn)), (5, .int (nI i)), (11, .long (dgX x)), (13, .int 0), (14, .int 0), (15, .int 0)] → W p l e room_1 s m #[Value.ref b] below meth c H locs cl sl (lw_Z below #[Value.ref b] s) (F0 m 505 ls [])) : W p l e room_1 s m #[Value.ref b] below meth c H locs cl sl (lw_Z below #[Value.ref b] s) (F0 m 426 ls []) := by
  obtain ⟨S, hr, hlk, hE, hB0, hX0, hL⟩ := id C0
  obtain ⟨hX, hLs, hLr, hLh, h7, hLg, h70, hSe, hRu, hHu, hGr, hS6, hR6, hH5⟩ := id hx
  obtain ⟨fs1, hb1⟩ := hLs.ob
  obtain ⟨fs2, hb2⟩ := hLr.ob
  obtain ⟨fs3, hb3⟩ := hLh.ob
  have hq1 := caX_le x 1
  have hq2 := caX_le x 2
  have hq3 := clX_le x (-1)
  refine lv_aload_n S.1 S.2.1 dL_law_426 rfl (lv_at hl 1 rfl) ?_
  refine lv_iconst (v := 4) S.1 S.2.1 dL_law_427 (by decide) ?_
  refine hm_uV (As := [.int 4]) (rest := []) (st1 := [.int (nI (caX x 2))]) S hE hG (c_X6_many l g ad M x hx 4 (by omega)) (hm_gV hb_262 hb_263 hb_264 hb_2 hb_265) hd_X6_many rfl hX rfl rfl ⟨Nat.le_of_ble_eq_true rfl, Nat.le_of_ble_eq_true rfl⟩ rfl hl.1 rfl (Nat.le_of_ble_eq_true rfl) dL_law_428 ⟨(Nat.le_trans (m := 3000) hcl (Nat.le_of_ble_eq_true rfl)), (Nat.le_trans (m := 30000) hsl (Nat.le_of_ble_eq_true rfl))⟩ rfl (fun H locs hG => ?_)
  refine lv_iload S.1 S.2.1 dL_law_431 (lv_at hl 7 rfl) ?_
  refine lv_icmp_ne (tgt := 488) S.1 S.2.1 dL_law_433 (by decide) (fun h9 => absurd (by rw [h1]) h9) (fun _ => ?_)
  refine lv_iload S.1 S.2.1 dL_law_436 (lv_at hl 8 rfl) ?_
  refine lv_if_lt (tgt := 488) S.1 S.2.1 dL_law_438 (by decide) (fun h9 => absurd h9 (nI_nlt (b := 0) (Nat.zero_le _) (by omega))) (fun _ => ?_)
  refine lv_iload S.1 S.2.1 dL_law_441 (lv_at hl 8 rfl) ?_
  refine lv_bipush (v := 7) S.1 S.2.1 dL_law_443 (by decide) ?_
  refine lv_iload S.1 S.2.1 dL_law_445 (lv_at hl 6 rfl) ?_
  refine lv_imul S.1 S.2.1 dL_law_447 ?_
  refine hm_top (z := nI (7 * t)) (pk_mul 7 t) ?_
  refine lv_icmp_gt (tgt := 488) S.1 S.2.1 dL_law_448 (by decide) (fun h9 => absurd h9 (nI_nlt h2 (by omega))) (fun _ => ?_)
  refine lv_aload_n S.1 S.2.1 dL_law_451 rfl (lv_at hl 1 rfl) ?_
  refine lv_bipush (v := 6) S.1 S.2.1 dL_law_452 (by decide) ?_
  refine hm_uV (As := [.int 6]) (rest := []) (st1 := [.int (nI (lEv (xL x)))]) S hE hG (c_X6_many l g ad M x hx 6 (by omega)) (hm_gV hb_262 hb_263 hb_264 hb_2 hb_265) hd_X6_many rfl hX rfl rfl ⟨Nat.le_of_ble_eq_true rfl, Nat.le_of_ble_eq_true rfl⟩ rfl hl.1 rfl (Nat.le_of_ble_eq_true rfl) dL_law_454 ⟨(Nat.le_trans (m := 3000) hcl (Nat.le_of_ble_eq_true rfl)), (Nat.le_trans (m := 30000) hsl (Nat.le_of_ble_eq_true rfl))⟩ rfl (fun H locs hG => ?_)
  refine lv_iload S.1 S.2.1 dL_law_457 (lv_at hl 4 rfl) ?_
  refine lv_icmp_ne (tgt := 488) S.1 S.2.1 dL_law_459 (by decide) (fun h9 => absurd (by rw [h3]) h9) (fun _ => ?_)
  refine lv_aload_n S.1 S.2.1 dL_law_462 rfl (lv_at hl 1 rfl) ?_
  refine lv_iconst (v := 5) S.1 S.2.1 dL_law_463 (by decide) ?_
  refine hm_uV (As := [.int 5]) (rest := []) (st1 := [.int (nI (clX x (-1)))]) S hE hG (c_X6_many l g ad M x hx 5 (by omega)) (hm_gV hb_262 hb_263 hb_264 hb_2 hb_265) hd_X6_many rfl hX rfl rfl ⟨Nat.le_of_ble_eq_true rfl, Nat.le_of_ble_eq_true rfl⟩ rfl hl.1 rfl (Nat.le_of_ble_eq_true rfl) dL_law_464 ⟨(Nat.le_trans (m := 3000) hcl (Nat.le_of_ble_eq_true rfl)), (Nat.le_trans (m := 30000) hsl (Nat.le_of_ble_eq_true rfl))⟩ rfl (fun H locs hG => ?_)
  refine lv_aload_n S.1 S.2.1 dL_law_467 rfl (lv_at hl 1 rfl) ?_
  refine lv_iconst (v := 4) S.1 S.2.1 dL_law_468 (by decide) ?_
  refine hm_uV (As := [.int 4]) (rest := [.int (nI (clX x (-1)))]) (st1 := [.int (nI (caX x 2)), .int (nI (clX x (-1)))]) S hE hG (c_X6_many l g ad M x hx 4 (by omega)) (hm_gV hb_262 hb_263 hb_264 hb_2 hb_265) hd_X6_many rfl hX rfl rfl ⟨Nat.le_of_ble_eq_true rfl, Nat.le_of_ble_eq_true rfl⟩ rfl hl.1 rfl (Nat.le_of_ble_eq_true rfl) dL_law_469 ⟨(Nat.le_trans (m := 3000) hcl (Nat.le_of_ble_eq_true rfl)), (Nat.le_trans (m := 30000) hsl (Nat.le_of_ble_eq_true rfl))⟩ rfl (fun H locs hG => ?_)
  refine lv_icmp_gt (tgt := 488) S.1 S.2.1 dL_law_472 (by decide) (fun h9 => absurd h9 (nI_nlt h4 (by omega))) (fun _ => ?_)
  refine lv_aload_n S.1 S.2.1 dL_law_475 rfl (lv_at hl 1 rfl) ?_
  refine lv_iconst (v := 4) S.1 S.2.1 dL_law_476 (by decide) ?_
  refine hm_uV (As := [.int 4]) (rest := []) (st1 := [.int (nI (caX x 2))]) S hE hG (c_X6_many l g ad M x hx 4 (by omega)) (hm_gV hb_262 hb_263 hb_264 hb_2 hb_265) hd_X6_many rfl hX rfl rfl ⟨Nat.le_of_ble_eq_true rfl, Nat.le_of_ble_eq_true rfl⟩ rfl hl.1 rfl (Nat.le_of_ble_eq_true rfl) dL_law_477 ⟨(Nat.le_trans (m := 3000) hcl (Nat.le_of_ble_eq_true rfl)), (Nat.le_trans (m := 30000) hsl (Nat.le_of_ble_eq_true rfl))⟩ rfl (fun H locs hG => ?_)
  refine lv_aload_n S.1 S.2.1 dL_law_480 rfl (lv_at hl 1 rfl) ?_
  refine lv_iconst (v := 3) S.1 S.2.1 dL_law_481 (by decide) ?_
  refine hm_uV (As := [.int 3]) (rest := [.int (nI (caX x 2))]) (st1 := [.int (nI (caX x 1)), .int (nI (caX x 2))]) S hE hG (c_X6_many l g ad M x hx 3 (by omega)) (hm_gV hb_262 hb_263 hb_264 hb_2 hb_265) hd_X6_many rfl hX rfl rfl ⟨Nat.le_of_ble_eq_true rfl, Nat.le_of_ble_eq_true rfl⟩ rfl hl.1 rfl (Nat.le_of_ble_eq_true rfl) dL_law_482 ⟨(Nat.le_trans (m := 3000) hcl (Nat.le_of_ble_eq_true rfl)), (Nat.le_trans (m := 30000) hsl (Nat.le_of_ble_eq_true rfl))⟩ rfl (fun H locs hG => ?_)
  refine lv_icmp_le (tgt := 490) S.1 S.2.1 dL_law_485 (by decide) (fun _ => ?_) (fun h9 => absurd (nI_le h5 (by omega)) h9)
  refine lv_aload_n S.1 S.2.1 dL_law_490 rfl (lv_at hl 1 rfl) ?_
  refine hm_uV (As := []) (rest := []) (st1 := [.long (dgX x)]) S hE hG (c_X6_digest l g ad M x hx w0 w1) (hm_gV hb_485 hb_486 hb_487 hb_2 hb_488) hd_X6_digest rfl hX rfl rfl ⟨Nat.le_of_ble_eq_true rfl, Nat.le_of_ble_eq_true rfl⟩ rfl hl.1 rfl (Nat.le_of_ble_eq_true rfl) dL_law_491 ⟨(Nat.le_trans (m := 3000) hcl (Nat.le_of_ble_eq_true rfl)), (Nat.le_trans (m := 30000) hsl (Nat.le_of_ble_eq_true rfl))⟩ rfl (fun H locs hG => ?_)
  refine lv_lstore (lv' := [(11, .long (dgX x)), (0, .ref b), (1, .ref (ad (0, 0, 0))), (2, .int (nI (xS x))), (3, .int (nI (xR x))), (4, .int (nI sn)), (5, .int (nI i)), (8, .int (nI t)), (9, .int (nI wd)), (10, .int (nI ou))]) S.1 S.2.1 dL_law_494 hl (by decide) rfl (fun ls hl => ?_)
  refine lv_iconst (v := 0) S.1 S.2.1 dL_law_496 (by decide) ?_
  refine lv_istore (lv' := [(13, .int 0), (11, .long (dgX x)), (0, .ref b), (1, .ref (ad (0, 0, 0))), (2, .int (nI (xS x))), (3, .int (nI (xR x))), (4, .int (nI sn)), (5, .int (nI i)), (8, .int (nI t)), (9, .int (nI wd)), (10, .int (nI ou))]) S.1 S.2.1 dL_law_497 hl (by decide) rfl (fun ls hl => ?_)
  refine lv_iconst (v := 0) S.1 S.2.1 dL_law_499 (by decide) ?_
  refine lv_istore (lv' := [(14, .int 0), (13, .int 0), (11, .long (dgX x)), (0, .ref b), (1, .ref (ad (0, 0, 0))), (2, .int (nI (xS x))), (3, .int (nI (xR x))), (4, .int (nI sn)), (5, .int (nI i)), (8, .int (nI t)), (9, .int (nI wd)), (10, .int (nI ou))]) S.1 S.2.1 dL_law_500 hl (by decide) rfl (fun ls hl => ?_)
  refine lv_iconst (v := 0) S.1 S.2.1 dL_law_502 (by decide) ?_
  refine lv_istore (lv' := [(15, .int 0), (14, .int 0), (13, .int 0), (11, .long (dgX x)), (0, .ref b), (1, .ref (ad (0, 0, 0))), (2, .int (nI (xS x))), (3, .int (nI (xR x))), (4, .int (nI sn)), (5, .int (nI i)), (8, .int (nI t)), (9, .int (nI wd)), (10, .int (nI ou))]) S.1 S.2.1 dL_law_503 hl (by decide) rfl (fun ls hl => ?_)
  exact kk _ _ _ hG (lv_sub hl [4, 5, 6, 7, 8, 9, 3, 2, 1, 0] rfl)
