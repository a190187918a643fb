/-! The law out of its pieces; what is asked of the numbers is MathOK. -/
def serOK (x : XD) : Prop := ∀ k, k < xS x → (∀ w, w = 1 ∨ w = 5 ∨ w = 9 → ¬ lookF (xSe x k) 3 w 0 < lookF (xSe x k) 4 w 0 ∧ ¬ lookF (xSe x k) 2 w 0 < lookF (xSe x k) 4 w 0 ∧ ¬ lookF (xSe x k) 3 w 0 < lookF (xSe x k) 2 w 0 ∧ ¬ lookF (xSe x k) 6 w 0 < lookF (xSe x k) 5 w 0 ∧ ¬ lookF (xSe x k) 7 w 0 < lookF (xSe x k) 6 w 0 ∧ ¬ lookF (xSe x k) 8 w 0 < lookF (xSe x k) 7 w 0 ∧ lookF (xSe x k) 8 w 0 ≤ 500) ∧ sHe (xSe x k) = min 13 (xC x)
def husOK (x : XD) : Prop := ∀ h, h < xH x → ccX x (xHu x h) ≤ caX x 1 ∧ (¬ nI (xC x) < (xHu x h).2.2 → ccX x (xHu x h) = 0) ∧ clX x (nI h) ≤ caX x 2 ∧ (¬ nI (xC x) < (xHu x h).2.2 → clX x (nI h) = clX x (-1))
def M_tell : Prop := ∀ T sn x i v, T < 14 → IV T sn x → i < xS x → v < 300 → IV (T + 1) sn (setSe x i (wPr (xSe x i) (takeP (xSe x i) (nI v))))
def M_reset : Prop := ∀ T sn x i, IV T sn x → i < xS x → IV T sn (setSe x i (wPr (xSe x i) (zeroP (sPr (xSe x i)))))
def M_hush : Prop := ∀ T sn x ru pl tk, IV T sn x → xH x < 5 → 1 ≤ tk → tk ≤ 6 → IV T sn (addH x (ru, pl, nI (xC x + tk)))
def M_tick : Prop := ∀ T sn x t, T ≤ 14 → xC x ≤ 56 → sn ≤ 400 → IV T sn x → 1 ≤ t → t ≤ 4 → IV T (sn + tkS x t) (tkX x t) ∧ caX (tkX x t) 2 = biX x t ∧ tkS x t ≤ 7 * t
def M_ask : Prop := ∀ T sn x, T ≤ 14 → 1 ≤ xC x → xC x ≤ 100 → IV T sn x → cntB (lqF x) (caX x 1) = clX x (-1) ∧ cntB (bqF x) (caX x 1) = caX x 2 ∧ clX x (-1) ≤ caX x 2 ∧ caX x 2 ≤ caX x 1 ∧ serOK x ∧ husOK x ∧ (∀ r, r < xR x → byX x r (cmX x r) = 0)
def MathOK : Prop := M_tell ∧ M_reset ∧ M_hush ∧ M_tick ∧ M_ask
theorem tkX_S (x : XD) : ∀ n, xS (tkX x n) = xS x := by
  intro n
  induction n with
  | zero => rfl
  | succ n ih => exact ih
theorem tkX_R (x : XD) : ∀ n, xR (tkX x n) = xR x := by
  intro n
  induction n with
  | zero => rfl
  | succ n ih => exact ih
theorem tkX_C (x : XD) : ∀ n, xC (tkX x n) = xC x + n := by
  intro n
  induction n with
  | zero => rfl
  | succ n ih =>
    show xC (tkX x n) + 1 = _
    rw [ih]; omega
theorem IV.st {T sn : Nat} {x : XD} (h : IV T sn x) : stOK x := by
  obtain ⟨-, -, -, -, -, -, -, h8, -⟩ := h
  intro r k hr hk
  rcases (h8 r k hr hk).1 with h | ⟨h | h, -⟩
  · exact Or.inl h
  · exact Or.inr (Or.inl h)
  · exact Or.inr (Or.inr h)
theorem IV.li {T sn : Nat} {x : XD} (h : IV T sn x) : liOK x := by
  obtain ⟨-, -, -, -, -, -, h7, -⟩ := h
  intro r hr
  obtain ⟨⟨q, hq, e⟩, -⟩ := h7 r hr
  rw [e]
  exact li_in hq
theorem IV.al {T sn : Nat} {x : XD} (h : IV T sn x) : ∀ r k, r < xR x → k < 12 → ¬ (xAl x r k).1 = 0 → ¬ (xAl x r k).2.1 < 1 ∧ ¬ nI (xC x) < (xAl x r k).2.1 := by
  obtain ⟨-, -, -, -, hC, -, -, h8, -⟩ := h
  intro r k hr hk hn
  rcases (h8 r k hr hk).1 with h | ⟨-, t, h1, h2, h3⟩
  · exact absurd h hn
  · rw [h3]
    exact ⟨nI_nlt (b := 1) h1 (by omega), nI_nlt h2 (by omega)⟩
theorem IV.no {T sn : Nat} {x : XD} (h : IV T sn x) : lHe (xL x) = min 30 sn ∧ ∀ k, k + 1 < min 30 sn → ¬ foF (xL x) k 0 < foF (xL x) (k + 1) 0 ∧ (0 < foF (xL x) k 2 ↔ 0 ≤ foF (xL x) k 3) := by
  obtain ⟨-, -, -, -, -, -, -, -, -, h1, h2, h3, h4, h5⟩ := h
  exact ⟨h2, fun k hk => ⟨h5 k hk, (h4 k (by omega)).2⟩⟩
set_option maxHeartbeats 4000000 in
set_option maxRecDepth 100000 in
theorem law_loop {p : Program} {l : Launch} {e : Env} {s : State} {m : MethodId} {below : List Frame} {meth : Method} {c : Code} {b L : Nat} {xs : Nat → Int32} {g : GV} (C0 : LC p s m meth c b L xs g) (hm : MathOK) : ∀ (n i sn : Nat) (ad : AD) (M : CT) (x : XD) (cl sl : Nat), n + i = 14 → hasX g ad M x → IV i sn x → xC x ≤ 4 * i → sn ≤ 28 * i → cl ≤ 400 + 2 * i → sl ≤ 1600 + 13 * i → ∀ (H : Heap) (locs : List Loc) (ls : Array Slot), hm_G g ad M s.heap H locs → lv_has ls 20 [(0, .ref b), (1, .ref (ad (0, 0, 0))), (2, .int (nI (xS x))), (3, .int (nI (xR x))), (4, .int (nI sn)), (5, .int (nI i))] → W p l e room_1 s m #[Value.ref b] below meth c H locs cl sl (lw_Z below #[Value.ref b] s) (F0 m 268 ls []) := by
  obtain ⟨S, -⟩ := id C0
  obtain ⟨mT, mR, mH, mK, mA⟩ := hm
  intro n
  induction n with
  | zero =>
    intro i sn ad M x cl sl hni hx hI hC hsn hcl hsl H locs ls hG hl
    obtain rfl : i = 14 := by omega
    refine lv_iload S.1 S.2.1 dL_law_268 (lv_at hl 5 rfl) ?_
    refine lv_bipush (v := 14) S.1 S.2.1 dL_law_270 (by decide) ?_
    refine lv_icmp_ge (tgt := 1213) S.1 S.2.1 dL_law_272 (by decide) (fun _ => ?_) (fun h9 => absurd (by decide) h9)
    exact seg_end C0 hx hI.2.2.1.1 hG (lv_sub hl [1, 3] rfl) (by omega) (by omega)
  | succ n ih =>
    intro i sn ad M x cl sl hni hx hI hC hsn hcl hsl H locs ls hG hl
    refine lv_iload S.1 S.2.1 dL_law_268 (lv_at hl 5 rfl) ?_
    refine lv_bipush (v := 14) S.1 S.2.1 dL_law_270 (by decide) ?_
    refine lv_icmp_ge (tgt := 1213) S.1 S.2.1 dL_law_272 (by decide) (fun h9 => absurd h9 (nI_ge (b := 14) (by omega) (by decide))) (fun _ => ?_)
    refine seg_mut C0 hx (fun y => IV (i + 1) sn y ∧ xC y = xC x) (fun j v hj hv => ⟨mT i sn x j v (by omega) hI hj hv, rfl⟩) (fun y j hy hj => ⟨mR _ _ y j hy.1 hj, hy.2⟩) (fun y ru pl tk hy h5 _ h1 h6 => ⟨mH _ _ y ru pl tk hy.1 h5 h1 h6, hy.2⟩) hI.2.1.1 hI.2.1.2 (by have := hI.2.2.1.2; omega) sn i (by omega) hG hl (by omega) (by omega) (fun ad1 M1 y v6 cl1 sl1 hx hP hSy hRy hc1 hs1 H locs ls hG hl => ?_)
    obtain ⟨hI, hCy⟩ := hP
    refine seg_tck C0 hx hI.1 sn i v6 hG hl (by omega) (by omega) (fun M2 t ht1 ht4 hx H locs ls hG hl => ?_)
    obtain ⟨hI, hcb, hts⟩ := mK (i + 1) sn y t (by omega) (by omega) (by omega) hI ht1 ht4
    have hCt := tkX_C y t
    obtain ⟨hlq, hbq, h4, h5, hS, hH, hB⟩ := mA (i + 1) _ _ (by omega) (by omega) (by omega) hI
    rw [← tkX_S y t, ← tkX_R y t] at hl
    refine seg_cnt C0 hx hI.st hI.li (sn + tkS y t) i t (biX y t) (tkS y t) (by omega) hcb hts hI.2.2.2.2.2.2.2.2.2.1 h4 h5 hG hl (by omega) (by omega) (fun H locs ls hG hl => ?_)
    refine seg_ale C0 hx hI.st (sn + tkS y t) i hI.al hlq hbq hG hl (by omega) (by omega) (fun H locs ls hG hl => ?_)
    refine seg_ser C0 hx (sn + tkS y t) i hS (by omega) hG hl (by omega) (by omega) (fun H locs ls hG hl => ?_)
    refine seg_hus C0 hx (sn + tkS y t) i hH hG hl (by omega) (by omega) (fun H locs ls hG hl => ?_)
    refine seg_rul C0 hx (sn + tkS y t) i hB hG hl (by omega) (by omega) (fun H locs ls hG hl => ?_)
    refine seg_not C0 hx (sn + tkS y t) i (by omega) hI.no.1 hI.no.2 hG hl (by omega) (by omega) (fun H locs ls hG hl => ?_)
    refine seg_dig C0 hx hI.st hI.li (sn + tkS y t) i hG hl (by omega) (by omega) (fun H locs ls hG hl => ?_)
    refine lv_iinc (v := nI (i + 1)) (lv' := [(5, .int (nI (i + 1))), (0, .ref b), (1, .ref (ad1 (0, 0, 0))), (2, .int (nI (xS (tkX y t)))), (3, .int (nI (xR (tkX y t)))), (4, .int (nI (sn + tkS y t)))]) S.1 S.2.1 dL_law_1207 hl (k := 5) rfl (nI_1 i) (by decide) rfl (fun ls hl => ?_)
    refine lv_goto (tgt := 268) S.1 S.2.1 dL_law_1210 (by decide) ?_
    exact ih (i + 1) (sn + tkS y t) ad1 M2 (tkX y t) cl1 sl1 (by omega) hx hI (by omega) (by omega) (by omega) (by omega) _ _ _ hG (lv_sub hl [1, 2, 3, 4, 5, 0] rfl)
