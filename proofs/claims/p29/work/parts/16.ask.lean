def stOK (x : XD) : Prop := ∀ r k, r < xR x → k < 12 → (xAl x r k).1 = 0 ∨ (xAl x r k).1 = 1 ∨ (xAl x r k).1 = 2
def liOK (x : XD) : Prop := ∀ r, r < xR x → ¬ rLi (xRu x r) < -10000 ∧ ¬ 10000 < rLi (xRu x r)
theorem caL_mono {al : Nat → AlD} {le : Int32} : ∀ {b a : Nat}, a ≤ b → caL al le a ≤ caL al le b := by
  intro b
  induction b with
  | zero => intro a h; rw [show a = 0 by omega]; exact Nat.le_refl _
  | succ b ih =>
    intro a h
    by_cases e : a = b + 1
    · rw [e]; exact Nat.le_refl _
    · have h1 := ih (show a ≤ b by omega)
      rw [caL]
      split <;> omega
theorem caL_z {al : Nat → AlD} {k : Nat} (h : (al k).1 = 0) : caL al 1 (k + 1) = caL al 1 k := by rw [caL, h]; rfl
theorem caL_n {al : Nat → AlD} {k : Nat} (w : (al k).1 = 0 ∨ (al k).1 = 1 ∨ (al k).1 = 2) (h : ¬ (al k).1 = 0) : caL al 1 (k + 1) = caL al 1 k + 1 := by
  rw [caL]
  rcases w with w | w | w
  · exact absurd w h
  · rw [w]; rfl
  · rw [w]; rfl
theorem koL_spec {al : Nat → AlD} {q : Nat} (w : ∀ k, k < 12 → (al k).1 = 0 ∨ (al k).1 = 1 ∨ (al k).1 = 2) : ∀ n k, n + k = 12 → caL al 1 k ≤ q → (koL al q n k (caL al 1 k) = -1 ∧ caL al 1 12 ≤ q) ∨ ∃ j, j < 12 ∧ koL al q n k (caL al 1 k) = nI j ∧ ¬ (al j).1 = 0 ∧ caL al 1 j = q := by
  intro n
  induction n with
  | zero =>
    intro k hk h
    obtain rfl : k = 12 := by omega
    exact Or.inl ⟨rfl, h⟩
  | succ n ih =>
    intro k hk h
    by_cases h0 : (al k).1 = 0
    · rw [koL, if_pos h0, ← caL_z h0]
      exact ih (k + 1) (by omega) (by rw [caL_z h0]; exact h)
    · rw [koL, if_neg h0]
      by_cases h1 : caL al 1 k = q
      · rw [if_pos h1]
        exact Or.inr ⟨k, by omega, rfl, h0, h1⟩
      · rw [if_neg h1, ← caL_n (w k (by omega)) h0]
        exact ih (k + 1) (by omega) (by rw [caL_n (w k (by omega)) h0]; omega)
theorem koF_none {al : Nat → AlD} {q : Nat} (w : ∀ k, k < 12 → (al k).1 = 0 ∨ (al k).1 = 1 ∨ (al k).1 = 2) (h : caF al 1 ≤ q) : koF al q = -1 := by
  rcases koL_spec (q := q) w 12 0 rfl (Nat.zero_le _) with ⟨h1, -⟩ | ⟨j, hj, -, h2, h3⟩
  · exact h1
  · have h4 := caL_n (w j hj) h2
    have h5 : caL al 1 (j + 1) ≤ caL al 1 12 := caL_mono (by omega)
    have h6 : caL al 1 12 ≤ q := h
    omega
theorem koF_some {al : Nat → AlD} {q k : Nat} (w : ∀ k, k < 12 → (al k).1 = 0 ∨ (al k).1 = 1 ∨ (al k).1 = 2) (hk : k < 12) (hn : ¬ (al k).1 = 0) (h : caL al 1 k = q) : koF al q = nI k := by
  have h4 := caL_n (w k hk) hn
  rcases koL_spec (q := q) w 12 0 rfl (Nat.zero_le _) with ⟨-, h1⟩ | ⟨j, hj, h1, h2, h3⟩
  · have h5 : caL al 1 (k + 1) ≤ caL al 1 12 := caL_mono (by omega)
    omega
  · have h6 := caL_n (w j hj) h2
    rcases Nat.lt_trichotomy j k with e | e | e
    · have h5 : caL al 1 (j + 1) ≤ caL al 1 k := caL_mono (by omega)
      omega
    · rw [← e]; exact h1
    · have h5 : caL al 1 (k + 1) ≤ caL al 1 j := caL_mono (by omega)
      omega
def atR (x : XD) (q : Nat) : Nat → Nat
  | 0 => 0
  | r + 1 => if caN x 1 r ≤ q then r else atR x q r
def atK (al : Nat → AlD) (q : Nat) : Nat → Nat
  | 0 => 0
  | k + 1 => if caL al 1 k ≤ q then k else atK al q k
def atRX (x : XD) (q : Nat) : Nat := atR x q (xR x)
def atKX (x : XD) (q : Nat) : Nat := atK (xAl x (atRX x q)) (q - caN x 1 (atRX x q)) 12
theorem atR_spec {x : XD} {q : Nat} : ∀ n, q < caN x 1 n → atR x q n < n ∧ caN x 1 (atR x q n) ≤ q ∧ q < caN x 1 (atR x q n + 1) := by
  intro n
  induction n with
  | zero => intro h; exact absurd h (Nat.not_lt_zero _)
  | succ n ih =>
    intro h
    rw [atR]
    by_cases e : caN x 1 n ≤ q
    · rw [if_pos e]; exact ⟨by omega, e, h⟩
    · rw [if_neg e]
      obtain ⟨h1, h2, h3⟩ := ih (by omega)
      exact ⟨by omega, h2, h3⟩
theorem atK_spec {al : Nat → AlD} {q : Nat} : ∀ n, q < caL al 1 n → atK al q n < n ∧ caL al 1 (atK al q n) ≤ q ∧ q < caL al 1 (atK al q n + 1) := by
  intro n
  induction n with
  | zero => intro h; exact absurd h (Nat.not_lt_zero _)
  | succ n ih =>
    intro h
    rw [atK]
    by_cases e : caL al 1 n ≤ q
    · rw [if_pos e]; exact ⟨by omega, e, h⟩
    · rw [if_neg e]
      obtain ⟨h1, h2, h3⟩ := ih (by omega)
      exact ⟨by omega, h2, h3⟩
/-- the alert at place q is that of rule r and key k -/
def isAt (x : XD) (q r k : Nat) : Prop := r < xR x ∧ k < 12 ∧ ¬ (xAl x r k).1 = 0 ∧ caN x 1 r + caL (xAl x r) 1 k = q
theorem at_spec {x : XD} {q : Nat} (w : stOK x) (h : q < caX x 1) : isAt x q (atRX x q) (atKX x q) := by
  obtain ⟨h1, h2, h3⟩ := atR_spec (xR x) h
  have h3' : q < caN x 1 (atRX x q) + caL (xAl x (atRX x q)) 1 12 := h3
  have h2' : caN x 1 (atRX x q) ≤ q := h2
  obtain ⟨h4, h5, h6⟩ := atK_spec (al := xAl x (atRX x q)) (q := q - caN x 1 (atRX x q)) 12 (by omega)
  have hk : atKX x q < 12 := h4
  have h5' : caL (xAl x (atRX x q)) 1 (atKX x q) ≤ q - caN x 1 (atRX x q) := h5
  have h6' : q - caN x 1 (atRX x q) < caL (xAl x (atRX x q)) 1 (atKX x q + 1) := h6
  have hn : ¬ (xAl x (atRX x q) (atKX x q)).1 = 0 := fun e => by
    rw [caL_z e] at h6'
    omega
  have h1' : atRX x q < xR x := h1
  rw [caL_n (w _ _ h1' hk) hn] at h6'
  exact ⟨h1', hk, hn, by omega⟩
theorem sumN_mono {f : Nat → Nat} : ∀ {b a : Nat}, a ≤ b → sumN f a ≤ sumN f b := by
  intro b
  induction b with
  | zero => intro a h; rw [show a = 0 by omega]; exact Nat.le_refl _
  | succ b ih =>
    intro a h
    by_cases e : a = b + 1
    · rw [e]; exact Nat.le_refl _
    · have h1 := ih (show a ≤ b by omega)
      rw [sumN]
      omega
theorem caF_le (al : Nat → AlD) (le : Int32) : ∀ n, caL al le n ≤ n := by
  intro n
  induction n with
  | zero => exact Nat.le_refl _
  | succ n ih => rw [caL]; split <;> omega
theorem caN_le (x : XD) (le : Int32) : ∀ n, caN x le n ≤ 12 * n := by
  intro n
  induction n with
  | zero => exact Nat.le_refl _
  | succ n ih =>
    have h1 := caF_le (xAl x n) le 12
    have h2 : caN x le (n + 1) = caN x le n + caL (xAl x n) le 12 := rfl
    omega
theorem isAt.lt {x : XD} {q r k : Nat} (h : isAt x q r k) (hR : xR x ≤ 6) : q < 100 := by
  obtain ⟨h1, h2, h3, h4⟩ := h
  have := caN_le x 1 r
  have := caF_le (xAl x r) 1 k
  omega
/-- before its rule, no rule has it -/
theorem isAt.pre {x : XD} {q r k : Nat} (h : isAt x q r k) (w : stOK x) {i : Nat} (hi : i < r) : koF (xAl x i) (q - caN x 1 i) = -1 := by
  obtain ⟨h1, h2, h3, h4⟩ := h
  have h5 : caN x 1 (i + 1) ≤ caN x 1 r := sumN_mono (by omega)
  have h6 : caN x 1 (i + 1) = caN x 1 i + caF (xAl x i) 1 := rfl
  exact koF_none (fun k hk => w i k (by omega) hk) (by omega)
theorem isAt.cn {x : XD} {q r k : Nat} (h : isAt x q r k) {i : Nat} (hi : i ≤ r) : caN x 1 i ≤ q := by
  obtain ⟨h1, h2, h3, h4⟩ := h
  have h5 : caN x 1 i ≤ caN x 1 r := sumN_mono hi
  omega
theorem isAt.hit {x : XD} {q r k : Nat} (h : isAt x q r k) (w : stOK x) : koF (xAl x r) (q - caN x 1 r) = nI k := by
  obtain ⟨h1, h2, h3, h4⟩ := h
  exact koF_some (fun k hk => w r k h1 hk) h2 h3 (by omega)
theorem isAt.unique {x : XD} {q r k r' k' : Nat} (h : isAt x q r k) (h' : isAt x q r' k') (w : stOK x) : r = r' ∧ k = k' := by
  have key : ∀ {a b c d : Nat}, isAt x q a b → isAt x q c d → a < c → False := fun {a b c d} ha hc hl => by
    have h1 := ha.hit w
    rw [hc.pre w hl] at h1
    obtain ⟨-, hb, -⟩ := ha
    exact absurd h1 (fun e => by
      have : (nI b).toInt = b := nI_toInt (by omega)
      rw [← e] at this
      have h2 : ((-1 : Int32)).toInt = -1 := by decide
      omega)
  rcases Nat.lt_trichotomy r r' with e | e | e
  · exact (key h h' e).elim
  · subst e
    refine ⟨rfl, ?_⟩
    have h1 := h.hit w
    rw [h'.hit w] at h1
    exact (hm_eqI (by have := h'.2.1; omega) (by have := h.2.1; omega) h1).symm
  · exact (key h' h e).elim
def aaF (x : XD) (r k w : Nat) : Int32 := if w = 0 then nI r else if w = 1 then nI k else plF x (xRu x r) k
def alW (x : XD) (r k w : Nat) : Int32 := if w = 0 then (xAl x r k).1 else if w = 1 then (xAl x r k).2.1 else hrF x r k (-1)
def ohF (x : XD) (h w : Nat) : Int32 := if w = 0 then (xHu x h).1 else if w = 1 then (xHu x h).2.1 else if w = 2 then (xHu x h).2.2 else nI (ccX x (xHu x h))
def by1 (x : XD) (r : Nat) (li : Int32) (k : Nat) : Bool := hkF x (xRu x r) k && byF (xRu x r) (laF x (xRu x r) k 0) li
def byX (x : XD) (r : Nat) (li : Int32) : Nat := cntB (by1 x r li) 12
def cmF (x : XD) (u : RuD) : Nat → Bool × Int32
  | 0 => (true, 0)
  | k + 1 => if hkF x u k then (false, if (cmF x u k).1 || byF u (laF x u k 0) (cmF x u k).2 then laF x u k 0 else (cmF x u k).2) else cmF x u k
def cmX (x : XD) (r : Nat) : Int32 := (cmF x (xRu x r) 12).2
def myF (x : XD) (w : Nat) : Int32 := if w = 0 then nI (xS x) else if w = 1 then nI (xR x) else if w = 2 then nI (xH x) else if w = 3 then nI (caX x 1) else if w = 4 then nI (caX x 2) else if w = 5 then nI (clX x (-1)) else nI (lEv (xL x))
def nwF (s : SeD) (w : Nat) : Int32 := if w = 0 then sPr s 0 else if w = 1 then nI (sHe s) else sPr s (w - 1)
def mxL (d : Int64) (v : Int32) : Int64 := d * 31 + v.toInt64
def ms1 (s : SeD) (d : Int64) : Nat → Int64
  | 0 => d
  | k + 1 => mxL (ms1 s d k) (nwF s k)
def ms2 (s : SeD) (d : Int64) : Nat → Int64
  | 0 => mxL (mxL (ms1 s d 7) (pastF s 0 0 0)) (pastF s 0 1 0)
  | k + 1 => mxL (ms2 s d k) (lookF s k 5 0)
def ma1 (x : XD) (r k : Nat) (d : Int64) : Nat → Int64
  | 0 => d
  | w + 1 => mxL (ma1 x r k d w) (aaF x r k w)
def ma2 (x : XD) (r k : Nat) (d : Int64) : Nat → Int64
  | 0 => ma1 x r k d 3
  | w + 1 => mxL (ma2 x r k d w) (alW x r k w)
def mh1 (x : XD) (h : Nat) (d : Int64) : Nat → Int64
  | 0 => d
  | w + 1 => mxL (mh1 x h d w) (ohF x h w)
def mh2 (x : XD) (h : Nat) (d : Int64) : Int64 := mxL (mh1 x h d 4) (nI (clX x (nI h)))
def mn1 (x : XD) (b : Nat) (d : Int64) : Nat → Int64
  | 0 => d
  | w + 1 => mxL (mn1 x b d w) (foF (xL x) b w)
def mn2 (x : XD) (d : Int64) : Nat → Int64
  | 0 => d
  | b + 1 => mn1 x b (mn2 x d b) 4
def dg1 (x : XD) : Nat → Int64
  | 0 => mxL 58073 (nI (xC x))
  | w + 1 => mxL (dg1 x w) (myF x w)
def dg2 (x : XD) : Nat → Int64
  | 0 => dg1 x 7
  | i + 1 => ms2 (xSe x i) (dg2 x i) 9
def dg3 (x : XD) : Nat → Int64
  | 0 => dg2 x (xS x)
  | r + 1 => mxL (mxL (dg3 x r) (cmX x r)) (nI (byX x r (rLi (xRu x r))))
def dg4 (x : XD) : Nat → Int64
  | 0 => dg3 x (xR x)
  | q + 1 => ma2 x (atRX x q) (atKX x q) (dg4 x q) 3
def dg5 (x : XD) : Nat → Int64
  | 0 => dg4 x (caX x 1)
  | h + 1 => mh2 x h (dg5 x h)
def dgX (x : XD) : Int64 := mn2 x (dg5 x (xH x)) (lHe (xL x))

abbrev rm_X6_alertAt : Room := { frames := 4, cells := 0, slots := 0, locals := 86 }
set_option maxHeartbeats 4000000 in
set_option maxRecDepth 100000 in
theorem c_X6_alertAt (l : Launch) (g : GV) (ad : AD) (M : CT) (x : XD) (hx : hasX g ad M x) (w0 : stOK x) (q r k w : Nat) (hq : isAt x q r k) (hw : w < 3) : hm_Met l yX6_alertAt cX6_alertAt 8 (some .int) rm_X6_alertAt g ad M [.ref (ad (0, 0, 0)), .int (nI q), .int (nI w)] (hm_pU ad M (some (.int (aaF x r k w)))) := by
  refine hm_start (own := RX6) (by decide) rfl (Nat.le_of_ble_eq_true rfl) ?_
  intro p e s m args below meth c S hr hlk hnm hE hG ls hl
  have hl : lv_has ls 8 [(0, .ref (ad (0, 0, 0))), (1, .int (nI q)), (2, .int (nI w))] := hl
  obtain ⟨hX, hLs, hLr, hLh, h7, hLg, h70, hSe, hRu, hHu, hGr, hS6, hR6, hH5⟩ := id hx
  obtain ⟨fs1, hb1⟩ := hLs.ob
  obtain ⟨fs2, hb2⟩ := hLr.ob
  obtain ⟨fs3, hb3⟩ := hLh.ob
  have hr9 : r < xR x := hq.1
  have hk : k < 12 := hq.2.1
  have hq9 : q < 100 := hq.lt hR6
  refine lv_null S.1 S.2.1 dX6_alertAt_0 ?_
  refine lv_astore_nN (lv' := [(3, .null), (0, .ref (ad (0, 0, 0))), (1, .int (nI q)), (2, .int (nI w))]) S.1 S.2.1 dX6_alertAt_1 rfl hl (by decide) rfl (fun ls hl => ?_)
  refine lv_iconst (v := (-1)) S.1 S.2.1 dX6_alertAt_2 (by decide) ?_
  refine lv_istore (lv' := [(4, .int (-1)), (3, .null), (0, .ref (ad (0, 0, 0))), (1, .int (nI q)), (2, .int (nI w))]) S.1 S.2.1 dX6_alertAt_3 hl (by decide) rfl (fun ls hl => ?_)
  refine lv_iconst (v := 0) S.1 S.2.1 dX6_alertAt_5 (by decide) ?_
  refine lv_istore (lv' := [(5, .int 0), (4, .int (-1)), (3, .null), (0, .ref (ad (0, 0, 0))), (1, .int (nI q)), (2, .int (nI w))]) S.1 S.2.1 dX6_alertAt_6 hl (by decide) rfl (fun ls hl => ?_)
  refine lv_iconst (v := 0) S.1 S.2.1 dX6_alertAt_8 (by decide) ?_
  refine lv_istore (lv' := [(6, .int 0), (5, .int 0), (4, .int (-1)), (3, .null), (0, .ref (ad (0, 0, 0))), (1, .int (nI q)), (2, .int (nI w))]) S.1 S.2.1 dX6_alertAt_9 hl (by decide) rfl (fun ls hl => ?_)
  have L11_0 : ∀ (n : Nat) (i : Nat) (kk : Int32), n + i = r → ∀ (H : Heap) (locs : List Loc) (ls : Array Slot), hm_G g ad M s.heap H locs → lv_has ls 8 [(0, .ref (ad (0, 0, 0))), (1, .int (nI q)), (2, .int (nI w)), (3, .null), (4, .int kk), (5, .int (nI (caN x 1 i))), (6, .int (nI i))] → W p l e rm_X6_alertAt s m args below meth c H locs 0 0 (MQ below (hm_Q g (hm_pU ad M (some (.int (aaF x r k w))))) args s rm_X6_alertAt.cells rm_X6_alertAt.slots (hm_A g)) (F0 m 11 ls []) := by
    intro n
    induction n with
    | zero =>
      intro i kk hi0 H locs ls hG hl
      obtain rfl : i = r := by omega
      have hi9 : i < xR x := hr9
      refine lv_iload S.1 S.2.1 dX6_alertAt_11 (lv_at hl 6 rfl) ?_
      refine lv_aload_n S.1 S.2.1 dX6_alertAt_13 rfl (lv_at hl 0 rfl) ?_
      refine hm_get (k := 1) S hE hG hX rfl rfl hi_X60 (by decide) hb_17 rfl rfl dX6_alertAt_14 ?_
      refine hm_uV (As := []) (rest := [.int (nI i)]) (st1 := [.int (nI (xR x)), .int (nI i)]) S hE hG (c_size l hLr) (hm_gV hb_97 hb_98 hb_99 hb_15 hb_100) hd_Jx4a65c_size_8abf5 rfl hb2 rfl rfl ⟨Nat.le_of_ble_eq_true rfl, Nat.le_of_ble_eq_true rfl⟩ rfl hl.1 rfl (Nat.le_of_ble_eq_true rfl) dX6_alertAt_17 ⟨Nat.le_of_ble_eq_true rfl, Nat.le_of_ble_eq_true rfl⟩ rfl (fun H locs hG => ?_)
      refine lv_icmp_ge (tgt := 82) S.1 S.2.1 dX6_alertAt_20 (by decide) (fun h9 => absurd h9 (nI_ge hi9 (by omega))) (fun _ => ?_)
      refine lv_aload_nN S.1 S.2.1 dX6_alertAt_23 rfl (lv_at hl 3 rfl) ?_
      refine lv_ifnonnullN S.1 S.2.1 dX6_alertAt_24 ?_
      refine lv_aload_n S.1 S.2.1 dX6_alertAt_27 rfl (lv_at hl 0 rfl) ?_
      refine hm_get (k := 1) S hE hG hX rfl rfl hi_X60 (by decide) hb_17 rfl rfl dX6_alertAt_28 ?_
      refine lv_iload S.1 S.2.1 dX6_alertAt_31 (lv_at hl 6 rfl) ?_
      refine hm_uV (As := [.int (nI i)]) (rest := []) (st1 := [.ref (ad (20, i, 0))]) S hE hG (c_get l hLr i hi9) (hm_gV hb_208 hb_209 hb_210 hb_15 hb_211) hd_Jx4a65c_get_915e3 rfl hb2 rfl rfl ⟨Nat.le_of_ble_eq_true rfl, Nat.le_of_ble_eq_true rfl⟩ rfl hl.1 rfl (Nat.le_of_ble_eq_true rfl) dX6_alertAt_33 ⟨Nat.le_of_ble_eq_true rfl, Nat.le_of_ble_eq_true rfl⟩ rfl (fun H locs hG => ?_)
      refine hm_cast S hE hG (hRu i hi9).1 rfl rfl hb_207 dX6_alertAt_36 ?_
      refine lv_astore (lv' := [(7, .ref (ad (20, i, 0))), (0, .ref (ad (0, 0, 0))), (1, .int (nI q)), (2, .int (nI w)), (3, .null), (4, .int kk), (5, .int (nI (caN x 1 i))), (6, .int (nI i))]) S.1 S.2.1 dX6_alertAt_39 hl (by decide) rfl (fun ls hl => ?_)
      refine lv_aload S.1 S.2.1 dX6_alertAt_41 (lv_at hl 0 rfl) ?_
      refine lv_iload_n S.1 S.2.1 dX6_alertAt_43 rfl (lv_at hl 2 rfl) ?_
      refine lv_iload S.1 S.2.1 dX6_alertAt_44 (lv_at hl 6 rfl) ?_
      refine lv_isub S.1 S.2.1 dX6_alertAt_46 ?_
      refine hm_top (z := nI (q - caN x 1 i)) (pk_sub (hq.cn (Nat.le_refl _))) ?_
      refine hm_uV (As := [.int (nI (q - caN x 1 i))]) (rest := []) (st1 := [.int (koF (xAl x i) (q - caN x 1 i))]) S hE hG (c_X4_keyOfAlert l g ad M i (xRu x i) (xAl x i) (hRu i hi9) (q - caN x 1 i) (by omega)) (hm_gV hb_533 hb_534 hb_535 hb_170 hb_536) hd_X4_keyOfAlert rfl (hRu i hi9).1 rfl rfl ⟨Nat.le_of_ble_eq_true rfl, Nat.le_of_ble_eq_true rfl⟩ rfl hl.1 rfl (Nat.le_of_ble_eq_true rfl) dX6_alertAt_47 ⟨Nat.le_of_ble_eq_true rfl, Nat.le_of_ble_eq_true rfl⟩ rfl (fun H locs hG => ?_)
      refine lv_istore (lv' := [(4, .int (koF (xAl x i) (q - caN x 1 i))), (7, .ref (ad (20, i, 0))), (0, .ref (ad (0, 0, 0))), (1, .int (nI q)), (2, .int (nI w)), (3, .null), (5, .int (nI (caN x 1 i))), (6, .int (nI i))]) S.1 S.2.1 dX6_alertAt_50 hl (by decide) rfl (fun ls hl => ?_)
      refine lv_iload S.1 S.2.1 dX6_alertAt_52 (lv_at hl 0 rfl) ?_
      refine lv_iconst (v := (-1)) S.1 S.2.1 dX6_alertAt_54 (by decide) ?_
      refine lv_icmp_ne (tgt := 62) S.1 S.2.1 dX6_alertAt_55 (by decide) (fun _ => ?_) (fun h9 => absurd h9 (by rw [hq.hit w0]; exact fun e => absurd (congrArg Int32.toInt e) (by rw [nI_toInt (by omega), show ((-1 : Int32)).toInt = -1 by decide]; omega)))
      refine lv_aload S.1 S.2.1 dX6_alertAt_62 (lv_at hl 1 rfl) ?_
      refine lv_astore_n (lv' := [(3, .ref (ad (20, i, 0))), (4, .int (koF (xAl x i) (q - caN x 1 i))), (7, .ref (ad (20, i, 0))), (0, .ref (ad (0, 0, 0))), (1, .int (nI q)), (2, .int (nI w)), (5, .int (nI (caN x 1 i))), (6, .int (nI i))]) S.1 S.2.1 dX6_alertAt_64 rfl hl (by decide) rfl (fun ls hl => ?_)
      refine lv_iload S.1 S.2.1 dX6_alertAt_65 (lv_at hl 6 rfl) ?_
      refine lv_aload S.1 S.2.1 dX6_alertAt_67 (lv_at hl 2 rfl) ?_
      refine lv_iconst (v := 1) S.1 S.2.1 dX6_alertAt_69 (by decide) ?_
      refine hm_uV (As := [.int 1]) (rest := [.int (nI (caN x 1 i))]) (st1 := [.int (nI (caF (xAl x i) 1)), .int (nI (caN x 1 i))]) S hE hG (c_X4_countAlertsFrom l g ad M i (xRu x i) (xAl x i) (hRu i hi9) 1) (hm_gV hb_271 hb_272 hb_273 hb_170 hb_274) hd_X4_countAlertsFrom rfl (hRu i hi9).1 rfl rfl ⟨Nat.le_of_ble_eq_true rfl, Nat.le_of_ble_eq_true rfl⟩ rfl hl.1 rfl (Nat.le_of_ble_eq_true rfl) dX6_alertAt_70 ⟨Nat.le_of_ble_eq_true rfl, Nat.le_of_ble_eq_true rfl⟩ rfl (fun H locs hG => ?_)
      refine lv_iadd S.1 S.2.1 dX6_alertAt_73 ?_
      refine hm_top (z := nI (caN x 1 (i + 1))) (nI_add _ _) ?_
      refine lv_istore (lv' := [(5, .int (nI (caN x 1 (i + 1)))), (3, .ref (ad (20, i, 0))), (4, .int (koF (xAl x i) (q - caN x 1 i))), (7, .ref (ad (20, i, 0))), (0, .ref (ad (0, 0, 0))), (1, .int (nI q)), (2, .int (nI w)), (6, .int (nI i))]) S.1 S.2.1 dX6_alertAt_74 hl (by decide) rfl (fun ls hl => ?_)
      refine lv_iinc (v := nI (i + 1)) (lv' := [(6, .int (nI (i + 1))), (5, .int (nI (caN x 1 (i + 1)))), (3, .ref (ad (20, i, 0))), (4, .int (koF (xAl x i) (q - caN x 1 i))), (7, .ref (ad (20, i, 0))), (0, .ref (ad (0, 0, 0))), (1, .int (nI q)), (2, .int (nI w))]) S.1 S.2.1 dX6_alertAt_76 hl (k := 7) rfl (nI_1 i) (by decide) rfl (fun ls hl => ?_)
      refine lv_goto (tgt := 11) S.1 S.2.1 dX6_alertAt_79 (by decide) ?_
      by_cases hlast : i + 1 < xR x
      · skip
        have e4 : koF (xAl x i) (q - caN x 1 i) = nI k := hq.hit w0
        rw [e4] at hl
        refine lv_iload S.1 S.2.1 dX6_alertAt_11 (lv_at hl 0 rfl) ?_
        refine lv_aload_n S.1 S.2.1 dX6_alertAt_13 rfl (lv_at hl 5 rfl) ?_
        refine hm_get (k := 1) S hE hG hX rfl rfl hi_X60 (by decide) hb_17 rfl rfl dX6_alertAt_14 ?_
        refine hm_uV (As := []) (rest := [.int (nI (i + 1))]) (st1 := [.int (nI (xR x)), .int (nI (i + 1))]) S hE hG (c_size l hLr) (hm_gV hb_97 hb_98 hb_99 hb_15 hb_100) hd_Jx4a65c_size_8abf5 rfl hb2 rfl rfl ⟨Nat.le_of_ble_eq_true rfl, Nat.le_of_ble_eq_true rfl⟩ rfl hl.1 rfl (Nat.le_of_ble_eq_true rfl) dX6_alertAt_17 ⟨Nat.le_of_ble_eq_true rfl, Nat.le_of_ble_eq_true rfl⟩ rfl (fun H locs hG => ?_)
        refine lv_icmp_ge (tgt := 82) S.1 S.2.1 dX6_alertAt_20 (by decide) (fun h9 => absurd h9 (nI_ge hlast (by omega))) (fun _ => ?_)
        refine lv_aload_n S.1 S.2.1 dX6_alertAt_23 rfl (lv_at hl 2 rfl) ?_
        refine lv_ifnonnull (tgt := 82) S.1 S.2.1 dX6_alertAt_24 (by decide) ?_
        refine lv_aload_n S.1 S.2.1 dX6_alertAt_82 rfl (lv_at hl 2 rfl) ?_
        refine lv_ifnonnull (tgt := 96) S.1 S.2.1 dX6_alertAt_83 (by decide) ?_
        have h9 : w = 0 ∨ w = 1 ∨ w = 2 := by omega
        rcases h9 with rfl | rfl | rfl
        · skip
          have hl : lv_has ls 8 [(6, .int (nI (i + 1))), (5, .int (nI (caN x 1 (i + 1)))), (3, .ref (ad (20, i, 0))), (4, .int (nI k)), (7, .ref (ad (20, i, 0))), (0, .ref (ad (0, 0, 0))), (1, .int (nI q)), (2, .int 0)] := hl
          refine lv_iload_n S.1 S.2.1 dX6_alertAt_96 rfl (lv_at hl 7 rfl) ?_
          refine lv_tableIn (tgt := 124) S.1 S.2.1 dX6_alertAt_97 (by decide) (by decide) (by rfl) (by decide) ?_
          refine lv_aload_n S.1 S.2.1 dX6_alertAt_124 rfl (lv_at hl 2 rfl) ?_
          refine hm_get (k := 0) S hE hG (hRu i hi9).1 rfl rfl hi_X40 (by decide) hb_284 rfl rfl dX6_alertAt_125 ?_
          exact hm_iret S hG hr hlk (⟨rfl, rfl, rfl⟩) (Nat.le_of_ble_eq_true rfl) (Nat.le_of_ble_eq_true rfl) dX6_alertAt_128
        · skip
          have hl : lv_has ls 8 [(6, .int (nI (i + 1))), (5, .int (nI (caN x 1 (i + 1)))), (3, .ref (ad (20, i, 0))), (4, .int (nI k)), (7, .ref (ad (20, i, 0))), (0, .ref (ad (0, 0, 0))), (1, .int (nI q)), (2, .int 1)] := hl
          refine lv_iload_n S.1 S.2.1 dX6_alertAt_96 rfl (lv_at hl 7 rfl) ?_
          refine lv_tableIn (tgt := 129) S.1 S.2.1 dX6_alertAt_97 (by decide) (by decide) (by rfl) (by decide) ?_
          refine lv_iload S.1 S.2.1 dX6_alertAt_129 (lv_at hl 3 rfl) ?_
          exact hm_iret S hG hr hlk (⟨rfl, rfl, rfl⟩) (Nat.le_of_ble_eq_true rfl) (Nat.le_of_ble_eq_true rfl) dX6_alertAt_131
        · skip
          have hl : lv_has ls 8 [(6, .int (nI (i + 1))), (5, .int (nI (caN x 1 (i + 1)))), (3, .ref (ad (20, i, 0))), (4, .int (nI k)), (7, .ref (ad (20, i, 0))), (0, .ref (ad (0, 0, 0))), (1, .int (nI q)), (2, .int 2)] := hl
          refine lv_iload_n S.1 S.2.1 dX6_alertAt_96 rfl (lv_at hl 7 rfl) ?_
          refine lv_tableIn (tgt := 132) S.1 S.2.1 dX6_alertAt_97 (by decide) (by decide) (by rfl) (by decide) ?_
          refine lv_aload_n S.1 S.2.1 dX6_alertAt_132 rfl (lv_at hl 5 rfl) ?_
          refine lv_aload_n S.1 S.2.1 dX6_alertAt_133 rfl (lv_at hl 2 rfl) ?_
          refine lv_iload S.1 S.2.1 dX6_alertAt_134 (lv_at hl 3 rfl) ?_
          refine hm_uV (As := [.ref (ad (20, i, 0)), .int (nI k)]) (rest := []) (st1 := [.int (plF x (xRu x i) k)]) S hE hG (c_X6_placeOf l g ad M x hx i hi9 k hk) (hm_gV hb_293 hb_294 hb_295 hb_2 hb_296) hd_X6_placeOf rfl hX rfl rfl ⟨Nat.le_of_ble_eq_true rfl, Nat.le_of_ble_eq_true rfl⟩ rfl hl.1 rfl (Nat.le_of_ble_eq_true rfl) dX6_alertAt_136 ⟨Nat.le_of_ble_eq_true rfl, Nat.le_of_ble_eq_true rfl⟩ rfl (fun H locs hG => ?_)
          exact hm_iret S hG hr hlk (⟨rfl, rfl, rfl⟩) (Nat.le_of_ble_eq_true rfl) (Nat.le_of_ble_eq_true rfl) dX6_alertAt_139
      · skip
        have e4 : koF (xAl x i) (q - caN x 1 i) = nI k := hq.hit w0
        rw [e4] at hl
        refine lv_iload S.1 S.2.1 dX6_alertAt_11 (lv_at hl 0 rfl) ?_
        refine lv_aload_n S.1 S.2.1 dX6_alertAt_13 rfl (lv_at hl 5 rfl) ?_
        refine hm_get (k := 1) S hE hG hX rfl rfl hi_X60 (by decide) hb_17 rfl rfl dX6_alertAt_14 ?_
        refine hm_uV (As := []) (rest := [.int (nI (i + 1))]) (st1 := [.int (nI (xR x)), .int (nI (i + 1))]) S hE hG (c_size l hLr) (hm_gV hb_97 hb_98 hb_99 hb_15 hb_100) hd_Jx4a65c_size_8abf5 rfl hb2 rfl rfl ⟨Nat.le_of_ble_eq_true rfl, Nat.le_of_ble_eq_true rfl⟩ rfl hl.1 rfl (Nat.le_of_ble_eq_true rfl) dX6_alertAt_17 ⟨Nat.le_of_ble_eq_true rfl, Nat.le_of_ble_eq_true rfl⟩ rfl (fun H locs hG => ?_)
        refine lv_icmp_ge (tgt := 82) S.1 S.2.1 dX6_alertAt_20 (by decide) (fun _ => ?_) (fun h9 => absurd (nI_le (by omega) (by omega)) h9)
        refine lv_aload_n S.1 S.2.1 dX6_alertAt_82 rfl (lv_at hl 2 rfl) ?_
        refine lv_ifnonnull (tgt := 96) S.1 S.2.1 dX6_alertAt_83 (by decide) ?_
        have h9 : w = 0 ∨ w = 1 ∨ w = 2 := by omega
        rcases h9 with rfl | rfl | rfl
        · skip
          have hl : lv_has ls 8 [(6, .int (nI (i + 1))), (5, .int (nI (caN x 1 (i + 1)))), (3, .ref (ad (20, i, 0))), (4, .int (nI k)), (7, .ref (ad (20, i, 0))), (0, .ref (ad (0, 0, 0))), (1, .int (nI q)), (2, .int 0)] := hl
          refine lv_iload_n S.1 S.2.1 dX6_alertAt_96 rfl (lv_at hl 7 rfl) ?_
          refine lv_tableIn (tgt := 124) S.1 S.2.1 dX6_alertAt_97 (by decide) (by decide) (by rfl) (by decide) ?_
          refine lv_aload_n S.1 S.2.1 dX6_alertAt_124 rfl (lv_at hl 2 rfl) ?_
          refine hm_get (k := 0) S hE hG (hRu i hi9).1 rfl rfl hi_X40 (by decide) hb_284 rfl rfl dX6_alertAt_125 ?_
          exact hm_iret S hG hr hlk (⟨rfl, rfl, rfl⟩) (Nat.le_of_ble_eq_true rfl) (Nat.le_of_ble_eq_true rfl) dX6_alertAt_128
        · skip
          have hl : lv_has ls 8 [(6, .int (nI (i + 1))), (5, .int (nI (caN x 1 (i + 1)))), (3, .ref (ad (20, i, 0))), (4, .int (nI k)), (7, .ref (ad (20, i, 0))), (0, .ref (ad (0, 0, 0))), (1, .int (nI q)), (2, .int 1)] := hl
          refine lv_iload_n S.1 S.2.1 dX6_alertAt_96 rfl (lv_at hl 7 rfl) ?_
          refine lv_tableIn (tgt := 129) S.1 S.2.1 dX6_alertAt_97 (by decide) (by decide) (by rfl) (by decide) ?_
          refine lv_iload S.1 S.2.1 dX6_alertAt_129 (lv_at hl 3 rfl) ?_
          exact hm_iret S hG hr hlk (⟨rfl, rfl, rfl⟩) (Nat.le_of_ble_eq_true rfl) (Nat.le_of_ble_eq_true rfl) dX6_alertAt_131
        · skip
          have hl : lv_has ls 8 [(6, .int (nI (i + 1))), (5, .int (nI (caN x 1 (i + 1)))), (3, .ref (ad (20, i, 0))), (4, .int (nI k)), (7, .ref (ad (20, i, 0))), (0, .ref (ad (0, 0, 0))), (1, .int (nI q)), (2, .int 2)] := hl
          refine lv_iload_n S.1 S.2.1 dX6_alertAt_96 rfl (lv_at hl 7 rfl) ?_
          refine lv_tableIn (tgt := 132) S.1 S.2.1 dX6_alertAt_97 (by decide) (by decide) (by rfl) (by decide) ?_
          refine lv_aload_n S.1 S.2.1 dX6_alertAt_132 rfl (lv_at hl 5 rfl) ?_
          refine lv_aload_n S.1 S.2.1 dX6_alertAt_133 rfl (lv_at hl 2 rfl) ?_
          refine lv_iload S.1 S.2.1 dX6_alertAt_134 (lv_at hl 3 rfl) ?_
          refine hm_uV (As := [.ref (ad (20, i, 0)), .int (nI k)]) (rest := []) (st1 := [.int (plF x (xRu x i) k)]) S hE hG (c_X6_placeOf l g ad M x hx i hi9 k hk) (hm_gV hb_293 hb_294 hb_295 hb_2 hb_296) hd_X6_placeOf rfl hX rfl rfl ⟨Nat.le_of_ble_eq_true rfl, Nat.le_of_ble_eq_true rfl⟩ rfl hl.1 rfl (Nat.le_of_ble_eq_true rfl) dX6_alertAt_136 ⟨Nat.le_of_ble_eq_true rfl, Nat.le_of_ble_eq_true rfl⟩ rfl (fun H locs hG => ?_)
          exact hm_iret S hG hr hlk (⟨rfl, rfl, rfl⟩) (Nat.le_of_ble_eq_true rfl) (Nat.le_of_ble_eq_true rfl) dX6_alertAt_139
    | succ n ih11 =>
      intro i kk hi0 H locs ls hG hl
      have hi8 : i < r := by omega
      have hi9 : i < xR x := by omega
      refine lv_iload S.1 S.2.1 dX6_alertAt_11 (lv_at hl 6 rfl) ?_
      refine lv_aload_n S.1 S.2.1 dX6_alertAt_13 rfl (lv_at hl 0 rfl) ?_
      refine hm_get (k := 1) S hE hG hX rfl rfl hi_X60 (by decide) hb_17 rfl rfl dX6_alertAt_14 ?_
      refine hm_uV (As := []) (rest := [.int (nI i)]) (st1 := [.int (nI (xR x)), .int (nI i)]) S hE hG (c_size l hLr) (hm_gV hb_97 hb_98 hb_99 hb_15 hb_100) hd_Jx4a65c_size_8abf5 rfl hb2 rfl rfl ⟨Nat.le_of_ble_eq_true rfl, Nat.le_of_ble_eq_true rfl⟩ rfl hl.1 rfl (Nat.le_of_ble_eq_true rfl) dX6_alertAt_17 ⟨Nat.le_of_ble_eq_true rfl, Nat.le_of_ble_eq_true rfl⟩ rfl (fun H locs hG => ?_)
      refine lv_icmp_ge (tgt := 82) S.1 S.2.1 dX6_alertAt_20 (by decide) (fun h9 => absurd h9 (nI_ge hi9 (by omega))) (fun _ => ?_)
      refine lv_aload_nN S.1 S.2.1 dX6_alertAt_23 rfl (lv_at hl 3 rfl) ?_
      refine lv_ifnonnullN S.1 S.2.1 dX6_alertAt_24 ?_
      refine lv_aload_n S.1 S.2.1 dX6_alertAt_27 rfl (lv_at hl 0 rfl) ?_
      refine hm_get (k := 1) S hE hG hX rfl rfl hi_X60 (by decide) hb_17 rfl rfl dX6_alertAt_28 ?_
      refine lv_iload S.1 S.2.1 dX6_alertAt_31 (lv_at hl 6 rfl) ?_
      refine hm_uV (As := [.int (nI i)]) (rest := []) (st1 := [.ref (ad (20, i, 0))]) S hE hG (c_get l hLr i hi9) (hm_gV hb_208 hb_209 hb_210 hb_15 hb_211) hd_Jx4a65c_get_915e3 rfl hb2 rfl rfl ⟨Nat.le_of_ble_eq_true rfl, Nat.le_of_ble_eq_true rfl⟩ rfl hl.1 rfl (Nat.le_of_ble_eq_true rfl) dX6_alertAt_33 ⟨Nat.le_of_ble_eq_true rfl, Nat.le_of_ble_eq_true rfl⟩ rfl (fun H locs hG => ?_)
      refine hm_cast S hE hG (hRu i hi9).1 rfl rfl hb_207 dX6_alertAt_36 ?_
      refine lv_astore (lv' := [(7, .ref (ad (20, i, 0))), (0, .ref (ad (0, 0, 0))), (1, .int (nI q)), (2, .int (nI w)), (3, .null), (4, .int kk), (5, .int (nI (caN x 1 i))), (6, .int (nI i))]) S.1 S.2.1 dX6_alertAt_39 hl (by decide) rfl (fun ls hl => ?_)
      refine lv_aload S.1 S.2.1 dX6_alertAt_41 (lv_at hl 0 rfl) ?_
      refine lv_iload_n S.1 S.2.1 dX6_alertAt_43 rfl (lv_at hl 2 rfl) ?_
      refine lv_iload S.1 S.2.1 dX6_alertAt_44 (lv_at hl 6 rfl) ?_
      refine lv_isub S.1 S.2.1 dX6_alertAt_46 ?_
      refine hm_top (z := nI (q - caN x 1 i)) (pk_sub (hq.cn (by omega))) ?_
      refine hm_uV (As := [.int (nI (q - caN x 1 i))]) (rest := []) (st1 := [.int (koF (xAl x i) (q - caN x 1 i))]) S hE hG (c_X4_keyOfAlert l g ad M i (xRu x i) (xAl x i) (hRu i hi9) (q - caN x 1 i) (by omega)) (hm_gV hb_533 hb_534 hb_535 hb_170 hb_536) hd_X4_keyOfAlert rfl (hRu i hi9).1 rfl rfl ⟨Nat.le_of_ble_eq_true rfl, Nat.le_of_ble_eq_true rfl⟩ rfl hl.1 rfl (Nat.le_of_ble_eq_true rfl) dX6_alertAt_47 ⟨Nat.le_of_ble_eq_true rfl, Nat.le_of_ble_eq_true rfl⟩ rfl (fun H locs hG => ?_)
      refine lv_istore (lv' := [(4, .int (koF (xAl x i) (q - caN x 1 i))), (7, .ref (ad (20, i, 0))), (0, .ref (ad (0, 0, 0))), (1, .int (nI q)), (2, .int (nI w)), (3, .null), (5, .int (nI (caN x 1 i))), (6, .int (nI i))]) S.1 S.2.1 dX6_alertAt_50 hl (by decide) rfl (fun ls hl => ?_)
      refine lv_iload S.1 S.2.1 dX6_alertAt_52 (lv_at hl 0 rfl) ?_
      refine lv_iconst (v := (-1)) S.1 S.2.1 dX6_alertAt_54 (by decide) ?_
      refine lv_icmp_ne (tgt := 62) S.1 S.2.1 dX6_alertAt_55 (by decide) (fun h9 => absurd (hq.pre w0 hi8) h9) (fun _ => ?_)
      refine lv_null S.1 S.2.1 dX6_alertAt_58 ?_
      refine lv_goto (tgt := 64) S.1 S.2.1 dX6_alertAt_59 (by decide) ?_
      refine lv_astore_nN (lv' := [(3, .null), (4, .int (koF (xAl x i) (q - caN x 1 i))), (7, .ref (ad (20, i, 0))), (0, .ref (ad (0, 0, 0))), (1, .int (nI q)), (2, .int (nI w)), (5, .int (nI (caN x 1 i))), (6, .int (nI i))]) S.1 S.2.1 dX6_alertAt_64 rfl hl (by decide) rfl (fun ls hl => ?_)
      refine lv_iload S.1 S.2.1 dX6_alertAt_65 (lv_at hl 6 rfl) ?_
      refine lv_aload S.1 S.2.1 dX6_alertAt_67 (lv_at hl 2 rfl) ?_
      refine lv_iconst (v := 1) S.1 S.2.1 dX6_alertAt_69 (by decide) ?_
      refine hm_uV (As := [.int 1]) (rest := [.int (nI (caN x 1 i))]) (st1 := [.int (nI (caF (xAl x i) 1)), .int (nI (caN x 1 i))]) S hE hG (c_X4_countAlertsFrom l g ad M i (xRu x i) (xAl x i) (hRu i hi9) 1) (hm_gV hb_271 hb_272 hb_273 hb_170 hb_274) hd_X4_countAlertsFrom rfl (hRu i hi9).1 rfl rfl ⟨Nat.le_of_ble_eq_true rfl, Nat.le_of_ble_eq_true rfl⟩ rfl hl.1 rfl (Nat.le_of_ble_eq_true rfl) dX6_alertAt_70 ⟨Nat.le_of_ble_eq_true rfl, Nat.le_of_ble_eq_true rfl⟩ rfl (fun H locs hG => ?_)
      refine lv_iadd S.1 S.2.1 dX6_alertAt_73 ?_
      refine hm_top (z := nI (caN x 1 (i + 1))) (nI_add _ _) ?_
      refine lv_istore (lv' := [(5, .int (nI (caN x 1 (i + 1)))), (3, .null), (4, .int (koF (xAl x i) (q - caN x 1 i))), (7, .ref (ad (20, i, 0))), (0, .ref (ad (0, 0, 0))), (1, .int (nI q)), (2, .int (nI w)), (6, .int (nI i))]) S.1 S.2.1 dX6_alertAt_74 hl (by decide) rfl (fun ls hl => ?_)
      refine lv_iinc (v := nI (i + 1)) (lv' := [(6, .int (nI (i + 1))), (5, .int (nI (caN x 1 (i + 1)))), (3, .null), (4, .int (koF (xAl x i) (q - caN x 1 i))), (7, .ref (ad (20, i, 0))), (0, .ref (ad (0, 0, 0))), (1, .int (nI q)), (2, .int (nI w))]) S.1 S.2.1 dX6_alertAt_76 hl (k := 7) rfl (nI_1 i) (by decide) rfl (fun ls hl => ?_)
      refine lv_goto (tgt := 11) S.1 S.2.1 dX6_alertAt_79 (by decide) ?_
      exact ih11 (i + 1) _ (by omega) _ _ _ hG (lv_sub hl [5, 6, 7, 2, 3, 1, 0] rfl)
  exact L11_0 r 0 _ rfl _ _ _ hG (lv_sub hl [4, 5, 6, 3, 2, 1, 0] rfl)

abbrev rm_X6_alert : Room := { frames := 6, cells := 0, slots := 0, locals := 140 }
set_option maxHeartbeats 4000000 in
set_option maxRecDepth 100000 in
theorem c_X6_alert (l : Launch) (g : GV) (ad : AD) (M : CT) (x : XD) (hx : hasX g ad M x) (r : Nat) (hr9 : r < xR x) (k : Nat) (hk : k < 12) (w : Nat) (hw : w < 3) : hm_Met l yX6_alert cX6_alert 6 (some .int) rm_X6_alert g ad M [.ref (ad (0, 0, 0)), .int (nI r), .int (nI k), .int (nI w)] (hm_pU ad M (some (.int (alW x r k w)))) := by
  refine hm_start (own := RX6) (by decide) rfl (Nat.le_of_ble_eq_true rfl) ?_
  intro p e s m args below meth c S hr hlk hnm hE hG ls hl
  have hl : lv_has ls 6 [(0, .ref (ad (0, 0, 0))), (1, .int (nI r)), (2, .int (nI k)), (3, .int (nI w))] := hl
  obtain ⟨hX, hLs, hLr, hLh, h7, hLg, h70, hSe, hRu, hHu, hGr, hS6, hR6, hH5⟩ := id hx
  obtain ⟨fs1, hb1⟩ := hLs.ob
  obtain ⟨fs2, hb2⟩ := hLr.ob
  obtain ⟨fs3, hb3⟩ := hLh.ob
  refine lv_aload_n S.1 S.2.1 dX6_alert_0 rfl (lv_at hl 0 rfl) ?_
  refine lv_iload_n S.1 S.2.1 dX6_alert_1 rfl (lv_at hl 1 rfl) ?_
  refine hm_uV (As := [.int (nI r)]) (rest := []) (st1 := [.ref (ad (20, r, 0))]) S hE hG (c_X6_requireRule l g ad M x hx r hr9) (hm_gV hb_201 hb_202 hb_203 hb_2 hb_204) hd_X6_requireRule rfl hX rfl rfl ⟨Nat.le_of_ble_eq_true rfl, Nat.le_of_ble_eq_true rfl⟩ rfl hl.1 rfl (Nat.le_of_ble_eq_true rfl) dX6_alert_2 ⟨Nat.le_of_ble_eq_true rfl, Nat.le_of_ble_eq_true rfl⟩ rfl (fun H locs hG => ?_)
  refine lv_astore (lv' := [(4, .ref (ad (20, r, 0))), (0, .ref (ad (0, 0, 0))), (1, .int (nI r)), (2, .int (nI k)), (3, .int (nI w))]) S.1 S.2.1 dX6_alert_5 hl (by decide) rfl (fun ls hl => ?_)
  refine lv_iload_n S.1 S.2.1 dX6_alert_7 rfl (lv_at hl 4 rfl) ?_
  refine lv_iconst (v := 0) S.1 S.2.1 dX6_alert_8 (by decide) ?_
  refine lv_iconst (v := 2) S.1 S.2.1 dX6_alert_9 (by decide) ?_
  refine hm_uS (As := [.int (nI w), .int 0, .int 2]) (rest := []) (st1 := [.int (bI (decide ((nI w) < 0) || decide (2 < (nI w))))]) S hE hG (c_X6_isOutside l g ad M (nI w) 0 2) (hm_gS hb_91 hb_92 hb_2 hb_93) hd_X6_isOutside ⟨Nat.le_of_ble_eq_true rfl, Nat.le_of_ble_eq_true rfl⟩ rfl hl.1 rfl (Nat.le_of_ble_eq_true rfl) dX6_alert_10 ⟨Nat.le_of_ble_eq_true rfl, Nat.le_of_ble_eq_true rfl⟩ rfl (fun H locs hG => ?_)
  refine lv_if_eq (tgt := 26) S.1 S.2.1 dX6_alert_13 (by decide) (fun _ => ?_) (fun h9 => absurd (hm_in0 (b := 2) (by omega) (by decide)) h9)
  refine lv_aload S.1 S.2.1 dX6_alert_26 (lv_at hl 0 rfl) ?_
  refine lv_iload_n S.1 S.2.1 dX6_alert_28 rfl (lv_at hl 3 rfl) ?_
  refine hm_uV (As := [.int (nI k)]) (rest := []) (st1 := [.ref (ad (22, r, k))]) S hE hG (c_X4_alertOf l g ad M r (xRu x r) (xAl x r) (hRu r hr9) k hk) (hm_gV hb_338 hb_290 hb_291 hb_170 hb_292) hd_X4_alertOf rfl (hRu r hr9).1 rfl rfl ⟨Nat.le_of_ble_eq_true rfl, Nat.le_of_ble_eq_true rfl⟩ rfl hl.1 rfl (Nat.le_of_ble_eq_true rfl) dX6_alert_29 ⟨Nat.le_of_ble_eq_true rfl, Nat.le_of_ble_eq_true rfl⟩ rfl (fun H locs hG => ?_)
  refine lv_astore (lv' := [(5, .ref (ad (22, r, k))), (4, .ref (ad (20, r, 0))), (0, .ref (ad (0, 0, 0))), (1, .int (nI r)), (2, .int (nI k)), (3, .int (nI w))]) S.1 S.2.1 dX6_alert_32 hl (by decide) rfl (fun ls hl => ?_)
  refine lv_aload S.1 S.2.1 dX6_alert_34 (lv_at hl 0 rfl) ?_
  refine lv_ifnonnull (tgt := 58) S.1 S.2.1 dX6_alert_36 (by decide) ?_
  have h9 : w = 0 ∨ w = 1 ∨ w = 2 := by omega
  rcases h9 with rfl | rfl | rfl
  · skip
    have hl : lv_has ls 6 [(5, .ref (ad (22, r, k))), (4, .ref (ad (20, r, 0))), (0, .ref (ad (0, 0, 0))), (1, .int (nI r)), (2, .int (nI k)), (3, .int 0)] := hl
    refine lv_iload_n S.1 S.2.1 dX6_alert_58 rfl (lv_at hl 5 rfl) ?_
    refine lv_lookup (off := 25) (tgt := 84) S.1 S.2.1 dX6_alert_59 (by decide) (by decide) (by decide) ?_
    refine lv_aload S.1 S.2.1 dX6_alert_84 (lv_at hl 0 rfl) ?_
    refine hm_get (k := 0) S hE hG ((hRu r hr9).2.2.1 k hk) rfl rfl hi_X00 (by decide) hb_337 rfl rfl dX6_alert_86 ?_
    exact hm_iret S hG hr hlk (⟨rfl, rfl, rfl⟩) (Nat.le_of_ble_eq_true rfl) (Nat.le_of_ble_eq_true rfl) dX6_alert_89
  · skip
    have hl : lv_has ls 6 [(5, .ref (ad (22, r, k))), (4, .ref (ad (20, r, 0))), (0, .ref (ad (0, 0, 0))), (1, .int (nI r)), (2, .int (nI k)), (3, .int 1)] := hl
    refine lv_iload_n S.1 S.2.1 dX6_alert_58 rfl (lv_at hl 5 rfl) ?_
    refine lv_lookup (off := 31) (tgt := 90) S.1 S.2.1 dX6_alert_59 (by decide) (by decide) (by decide) ?_
    refine lv_aload S.1 S.2.1 dX6_alert_90 (lv_at hl 0 rfl) ?_
    refine hm_get (k := 1) S hE hG ((hRu r hr9).2.2.1 k hk) rfl rfl hi_X00 (by decide) hb_541 rfl rfl dX6_alert_92 ?_
    exact hm_iret S hG hr hlk (⟨rfl, rfl, rfl⟩) (Nat.le_of_ble_eq_true rfl) (Nat.le_of_ble_eq_true rfl) dX6_alert_95
  · skip
    have hl : lv_has ls 6 [(5, .ref (ad (22, r, k))), (4, .ref (ad (20, r, 0))), (0, .ref (ad (0, 0, 0))), (1, .int (nI r)), (2, .int (nI k)), (3, .int 2)] := hl
    refine lv_iload_n S.1 S.2.1 dX6_alert_58 rfl (lv_at hl 5 rfl) ?_
    refine lv_lookup (off := 37) (tgt := 96) S.1 S.2.1 dX6_alert_59 (by decide) (by decide) (by decide) ?_
    refine lv_aload_n S.1 S.2.1 dX6_alert_96 rfl (lv_at hl 2 rfl) ?_
    refine lv_aload S.1 S.2.1 dX6_alert_97 (lv_at hl 1 rfl) ?_
    refine lv_iload_n S.1 S.2.1 dX6_alert_99 rfl (lv_at hl 4 rfl) ?_
    refine lv_iconst (v := (-1)) S.1 S.2.1 dX6_alert_100 (by decide) ?_
    refine hm_uV (As := [.ref (ad (20, r, 0)), .int (nI k), .int (-1)]) (rest := []) (st1 := [.int (hrF x r k (-1))]) S hE hG (c_X6_hearing l g ad M x hx r hr9 k hk (-1)) (hm_gV hb_280 hb_281 hb_282 hb_2 hb_283) hd_X6_hearing rfl hX rfl rfl ⟨Nat.le_of_ble_eq_true rfl, Nat.le_of_ble_eq_true rfl⟩ rfl hl.1 rfl (Nat.le_of_ble_eq_true rfl) dX6_alert_101 ⟨Nat.le_of_ble_eq_true rfl, Nat.le_of_ble_eq_true rfl⟩ rfl (fun H locs hG => ?_)
    exact hm_iret S hG hr hlk (⟨rfl, rfl, rfl⟩) (Nat.le_of_ble_eq_true rfl) (Nat.le_of_ble_eq_true rfl) dX6_alert_104

abbrev rm_X6_ofHush : Room := { frames := 5, cells := 0, slots := 0, locals := 111 }
set_option maxHeartbeats 4000000 in
set_option maxRecDepth 100000 in
theorem c_X6_ofHush (l : Launch) (g : GV) (ad : AD) (M : CT) (x : XD) (hx : hasX g ad M x) (h : Nat) (hh9 : h < xH x) (w : Nat) (hw : w < 4) : hm_Met l yX6_ofHush cX6_ofHush 4 (some .int) rm_X6_ofHush g ad M [.ref (ad (0, 0, 0)), .int (nI h), .int (nI w)] (hm_pU ad M (some (.int (ohF x h w)))) := by
  refine hm_start (own := RX6) (by decide) rfl (Nat.le_of_ble_eq_true rfl) ?_
  intro p e s m args below meth c S hr hlk hnm hE hG ls hl
  have hl : lv_has ls 4 [(0, .ref (ad (0, 0, 0))), (1, .int (nI h)), (2, .int (nI w))] := hl
  obtain ⟨hX, hLs, hLr, hLh, h7, hLg, h70, hSe, hRu, hHu, hGr, hS6, hR6, hH5⟩ := id hx
  obtain ⟨fs1, hb1⟩ := hLs.ob
  obtain ⟨fs2, hb2⟩ := hLr.ob
  obtain ⟨fs3, hb3⟩ := hLh.ob
  refine lv_aload_n S.1 S.2.1 dX6_ofHush_0 rfl (lv_at hl 0 rfl) ?_
  refine lv_iload_n S.1 S.2.1 dX6_ofHush_1 rfl (lv_at hl 1 rfl) ?_
  refine hm_uV (As := [.int (nI h)]) (rest := []) (st1 := [.ref (ad (30, h, 0))]) S hE hG (c_X6_requireHush l g ad M x hx h hh9) (hm_gV hb_553 hb_554 hb_555 hb_2 hb_556) hd_X6_requireHush rfl hX rfl rfl ⟨Nat.le_of_ble_eq_true rfl, Nat.le_of_ble_eq_true rfl⟩ rfl hl.1 rfl (Nat.le_of_ble_eq_true rfl) dX6_ofHush_2 ⟨Nat.le_of_ble_eq_true rfl, Nat.le_of_ble_eq_true rfl⟩ rfl (fun H locs hG => ?_)
  refine lv_astore_n (lv' := [(3, .ref (ad (30, h, 0))), (0, .ref (ad (0, 0, 0))), (1, .int (nI h)), (2, .int (nI w))]) S.1 S.2.1 dX6_ofHush_5 rfl hl (by decide) rfl (fun ls hl => ?_)
  have h9 : w = 0 ∨ w = 1 ∨ w = 2 ∨ w = 3 := by omega
  rcases h9 with rfl | rfl | rfl | rfl
  · skip
    have hl : lv_has ls 4 [(3, .ref (ad (30, h, 0))), (0, .ref (ad (0, 0, 0))), (1, .int (nI h)), (2, .int 0)] := hl
    refine lv_iload_n S.1 S.2.1 dX6_ofHush_6 rfl (lv_at hl 3 rfl) ?_
    refine lv_tableIn (tgt := 36) S.1 S.2.1 dX6_ofHush_7 (by decide) (by decide) (by rfl) (by decide) ?_
    refine lv_aload_n S.1 S.2.1 dX6_ofHush_36 rfl (lv_at hl 0 rfl) ?_
    refine hm_get (k := 0) S hE hG (hHu h hh9) rfl rfl hi_X20 (by decide) hb_550 rfl rfl dX6_ofHush_37 ?_
    exact hm_iret S hG hr hlk (⟨rfl, rfl, rfl⟩) (Nat.le_of_ble_eq_true rfl) (Nat.le_of_ble_eq_true rfl) dX6_ofHush_40
  · skip
    have hl : lv_has ls 4 [(3, .ref (ad (30, h, 0))), (0, .ref (ad (0, 0, 0))), (1, .int (nI h)), (2, .int 1)] := hl
    refine lv_iload_n S.1 S.2.1 dX6_ofHush_6 rfl (lv_at hl 3 rfl) ?_
    refine lv_tableIn (tgt := 41) S.1 S.2.1 dX6_ofHush_7 (by decide) (by decide) (by rfl) (by decide) ?_
    refine lv_aload_n S.1 S.2.1 dX6_ofHush_41 rfl (lv_at hl 0 rfl) ?_
    refine hm_get (k := 1) S hE hG (hHu h hh9) rfl rfl hi_X20 (by decide) hb_551 rfl rfl dX6_ofHush_42 ?_
    exact hm_iret S hG hr hlk (⟨rfl, rfl, rfl⟩) (Nat.le_of_ble_eq_true rfl) (Nat.le_of_ble_eq_true rfl) dX6_ofHush_45
  · skip
    have hl : lv_has ls 4 [(3, .ref (ad (30, h, 0))), (0, .ref (ad (0, 0, 0))), (1, .int (nI h)), (2, .int 2)] := hl
    refine lv_iload_n S.1 S.2.1 dX6_ofHush_6 rfl (lv_at hl 3 rfl) ?_
    refine lv_tableIn (tgt := 46) S.1 S.2.1 dX6_ofHush_7 (by decide) (by decide) (by rfl) (by decide) ?_
    refine lv_aload_n S.1 S.2.1 dX6_ofHush_46 rfl (lv_at hl 0 rfl) ?_
    refine hm_get (k := 2) S hE hG (hHu h hh9) rfl rfl hi_X20 (by decide) hb_552 rfl rfl dX6_ofHush_47 ?_
    exact hm_iret S hG hr hlk (⟨rfl, rfl, rfl⟩) (Nat.le_of_ble_eq_true rfl) (Nat.le_of_ble_eq_true rfl) dX6_ofHush_50
  · skip
    have hl : lv_has ls 4 [(3, .ref (ad (30, h, 0))), (0, .ref (ad (0, 0, 0))), (1, .int (nI h)), (2, .int 3)] := hl
    refine lv_iload_n S.1 S.2.1 dX6_ofHush_6 rfl (lv_at hl 3 rfl) ?_
    refine lv_tableIn (tgt := 51) S.1 S.2.1 dX6_ofHush_7 (by decide) (by decide) (by rfl) (by decide) ?_
    refine lv_aload_n S.1 S.2.1 dX6_ofHush_51 rfl (lv_at hl 1 rfl) ?_
    refine lv_aload_n S.1 S.2.1 dX6_ofHush_52 rfl (lv_at hl 0 rfl) ?_
    refine hm_uV (As := [.ref (ad (30, h, 0))]) (rest := []) (st1 := [.int (nI (ccX x (xHu x h)))]) S hE hG (c_X6_countCovered l g ad M x hx h hh9) (hm_gV hb_557 hb_558 hb_559 hb_2 hb_560) hd_X6_countCovered rfl hX rfl rfl ⟨Nat.le_of_ble_eq_true rfl, Nat.le_of_ble_eq_true rfl⟩ rfl hl.1 rfl (Nat.le_of_ble_eq_true rfl) dX6_ofHush_53 ⟨Nat.le_of_ble_eq_true rfl, Nat.le_of_ble_eq_true rfl⟩ rfl (fun H locs hG => ?_)
    exact hm_iret S hG hr hlk (⟨rfl, rfl, rfl⟩) (Nat.le_of_ble_eq_true rfl) (Nat.le_of_ble_eq_true rfl) dX6_ofHush_56

abbrev rm_X6_notice : Room := { frames := 1, cells := 0, slots := 0, locals := 22 }
set_option maxHeartbeats 4000000 in
set_option maxRecDepth 100000 in
theorem c_X6_notice (l : Launch) (g : GV) (ad : AD) (M : CT) (x : XD) (hx : hasX g ad M x) (b w : Nat) (hb9 : b < lHe (xL x)) (hw : w < 4) : hm_Met l yX6_notice cX6_notice 3 (some .int) rm_X6_notice g ad M [.ref (ad (0, 0, 0)), .int (nI b), .int (nI w)] (hm_pU ad M (some (.int (foF (xL x) b w)))) := by
  refine hm_start (own := RX6) (by decide) rfl (Nat.le_of_ble_eq_true rfl) ?_
  intro p e s m args below meth c S hr hlk hnm hE hG ls hl
  have hl : lv_has ls 3 [(0, .ref (ad (0, 0, 0))), (1, .int (nI b)), (2, .int (nI w))] := hl
  obtain ⟨hX, hLs, hLr, hLh, h7, hLg, h70, hSe, hRu, hHu, hGr, hS6, hR6, hH5⟩ := id hx
  obtain ⟨fs1, hb1⟩ := hLs.ob
  obtain ⟨fs2, hb2⟩ := hLr.ob
  obtain ⟨fs3, hb3⟩ := hLh.ob
  have hhe : lHe (xL x) ≤ 30 := hLg.2.2.2.2
  refine lv_iload_n S.1 S.2.1 dX6_notice_0 rfl (lv_at hl 1 rfl) ?_
  refine lv_iconst (v := 0) S.1 S.2.1 dX6_notice_1 (by decide) ?_
  refine lv_aload_n S.1 S.2.1 dX6_notice_2 rfl (lv_at hl 0 rfl) ?_
  refine hm_get (k := 4) S hE hG hX rfl rfl hi_X60 (by decide) hb_26 rfl rfl dX6_notice_3 ?_
  refine hm_get (k := 2) S hE hG hLg.1 rfl rfl hi_X30 (by decide) hb_569 rfl rfl dX6_notice_6 ?_
  refine lv_iconst (v := 1) S.1 S.2.1 dX6_notice_9 (by decide) ?_
  refine lv_isub S.1 S.2.1 dX6_notice_10 ?_
  refine hm_top (z := nI (lHe (xL x) - 1)) (pk_sub (b := 1) (by omega)) ?_
  refine hm_uS (As := [.int (nI b), .int 0, .int (nI (lHe (xL x) - 1))]) (rest := []) (st1 := [.int (bI (decide ((nI b) < 0) || decide ((nI (lHe (xL x) - 1)) < (nI b))))]) S hE hG (c_X6_isOutside l g ad M (nI b) 0 (nI (lHe (xL x) - 1))) (hm_gS hb_91 hb_92 hb_2 hb_93) hd_X6_isOutside ⟨Nat.le_of_ble_eq_true rfl, Nat.le_of_ble_eq_true rfl⟩ rfl hl.1 rfl (Nat.le_of_ble_eq_true rfl) dX6_notice_11 ⟨Nat.le_of_ble_eq_true rfl, Nat.le_of_ble_eq_true rfl⟩ rfl (fun H locs hG => ?_)
  refine lv_if_eq (tgt := 28) S.1 S.2.1 dX6_notice_14 (by decide) (fun _ => ?_) (fun h9 => absurd (hm_szO b hb9 (by omega)) h9)
  refine lv_iload_n S.1 S.2.1 dX6_notice_28 rfl (lv_at hl 2 rfl) ?_
  refine lv_iconst (v := 0) S.1 S.2.1 dX6_notice_29 (by decide) ?_
  refine lv_iconst (v := 3) S.1 S.2.1 dX6_notice_30 (by decide) ?_
  refine hm_uS (As := [.int (nI w), .int 0, .int 3]) (rest := []) (st1 := [.int (bI (decide ((nI w) < 0) || decide (3 < (nI w))))]) S hE hG (c_X6_isOutside l g ad M (nI w) 0 3) (hm_gS hb_91 hb_92 hb_2 hb_93) hd_X6_isOutside ⟨Nat.le_of_ble_eq_true rfl, Nat.le_of_ble_eq_true rfl⟩ rfl hl.1 rfl (Nat.le_of_ble_eq_true rfl) dX6_notice_31 ⟨Nat.le_of_ble_eq_true rfl, Nat.le_of_ble_eq_true rfl⟩ rfl (fun H locs hG => ?_)
  refine lv_if_eq (tgt := 48) S.1 S.2.1 dX6_notice_34 (by decide) (fun _ => ?_) (fun h9 => absurd (hm_in0 (b := 3) (by omega) (by decide)) h9)
  refine lv_aload_n S.1 S.2.1 dX6_notice_48 rfl (lv_at hl 0 rfl) ?_
  refine hm_get (k := 4) S hE hG hX rfl rfl hi_X60 (by decide) hb_26 rfl rfl dX6_notice_49 ?_
  refine lv_iload_n S.1 S.2.1 dX6_notice_52 rfl (lv_at hl 1 rfl) ?_
  refine lv_iload_n S.1 S.2.1 dX6_notice_53 rfl (lv_at hl 2 rfl) ?_
  refine hm_uV (As := [.int (nI b), .int (nI w)]) (rest := []) (st1 := [.int (foF (xL x) b w)]) S hE hG (c_X3_factOf l g ad M (xL x) hLg b w (by omega) hw) (hm_gV hb_574 hb_575 hb_576 hb_25 hb_577) hd_X3_factOf rfl hLg.1 rfl rfl ⟨Nat.le_of_ble_eq_true rfl, Nat.le_of_ble_eq_true rfl⟩ rfl hl.1 rfl (Nat.le_of_ble_eq_true rfl) dX6_notice_54 ⟨Nat.le_of_ble_eq_true rfl, Nat.le_of_ble_eq_true rfl⟩ rfl (fun H locs hG => ?_)
  exact hm_iret S hG hr hlk (⟨rfl, rfl, rfl⟩) (Nat.le_of_ble_eq_true rfl) (Nat.le_of_ble_eq_true rfl) dX6_notice_57

abbrev rm_X6_beyond : Room := { frames := 5, cells := 0, slots := 0, locals := 129 }
set_option maxHeartbeats 4000000 in
set_option maxRecDepth 100000 in
theorem c_X6_beyond (l : Launch) (g : GV) (ad : AD) (M : CT) (x : XD) (hx : hasX g ad M x) (r : Nat) (hr9 : r < xR x) (li : Int32) (h1 : ¬ li < -10000) (h2 : ¬ 10000 < li) : hm_Met l yX6_beyond cX6_beyond 6 (some .int) rm_X6_beyond g ad M [.ref (ad (0, 0, 0)), .int (nI r), .int li] (hm_pU ad M (some (.int (nI (byX x r li))))) := by
  refine hm_start (own := RX6) (by decide) rfl (Nat.le_of_ble_eq_true rfl) ?_
  intro p e s m args below meth c S hr hlk hnm hE hG ls hl
  have hl : lv_has ls 6 [(0, .ref (ad (0, 0, 0))), (1, .int (nI r)), (2, .int li)] := hl
  obtain ⟨hX, hLs, hLr, hLh, h7, hLg, h70, hSe, hRu, hHu, hGr, hS6, hR6, hH5⟩ := id hx
  obtain ⟨fs1, hb1⟩ := hLs.ob
  obtain ⟨fs2, hb2⟩ := hLr.ob
  obtain ⟨fs3, hb3⟩ := hLh.ob
  refine lv_aload_n S.1 S.2.1 dX6_beyond_0 rfl (lv_at hl 0 rfl) ?_
  refine lv_iload_n S.1 S.2.1 dX6_beyond_1 rfl (lv_at hl 1 rfl) ?_
  refine hm_uV (As := [.int (nI r)]) (rest := []) (st1 := [.ref (ad (20, r, 0))]) S hE hG (c_X6_requireRule l g ad M x hx r hr9) (hm_gV hb_201 hb_202 hb_203 hb_2 hb_204) hd_X6_requireRule rfl hX rfl rfl ⟨Nat.le_of_ble_eq_true rfl, Nat.le_of_ble_eq_true rfl⟩ rfl hl.1 rfl (Nat.le_of_ble_eq_true rfl) dX6_beyond_2 ⟨Nat.le_of_ble_eq_true rfl, Nat.le_of_ble_eq_true rfl⟩ rfl (fun H locs hG => ?_)
  refine lv_astore_n (lv' := [(3, .ref (ad (20, r, 0))), (0, .ref (ad (0, 0, 0))), (1, .int (nI r)), (2, .int li)]) S.1 S.2.1 dX6_beyond_5 rfl hl (by decide) rfl (fun ls hl => ?_)
  refine lv_iload_n S.1 S.2.1 dX6_beyond_6 rfl (lv_at hl 3 rfl) ?_
  refine hm_uS (As := [.int li]) (rest := []) (st1 := []) S hE hG (c_X6_requireLimit l g ad M li (h1) (h2)) (hm_gS hb_179 hb_180 hb_2 hb_181) hd_X6_requireLimit ⟨Nat.le_of_ble_eq_true rfl, Nat.le_of_ble_eq_true rfl⟩ rfl hl.1 rfl (Nat.le_of_ble_eq_true rfl) dX6_beyond_7 ⟨Nat.le_of_ble_eq_true rfl, Nat.le_of_ble_eq_true rfl⟩ rfl (fun H locs hG => ?_)
  refine lv_iconst (v := 0) S.1 S.2.1 dX6_beyond_10 (by decide) ?_
  refine lv_istore (lv' := [(4, .int 0), (3, .ref (ad (20, r, 0))), (0, .ref (ad (0, 0, 0))), (1, .int (nI r)), (2, .int li)]) S.1 S.2.1 dX6_beyond_11 hl (by decide) rfl (fun ls hl => ?_)
  refine lv_iconst (v := 0) S.1 S.2.1 dX6_beyond_13 (by decide) ?_
  refine lv_istore (lv' := [(5, .int 0), (4, .int 0), (3, .ref (ad (20, r, 0))), (0, .ref (ad (0, 0, 0))), (1, .int (nI r)), (2, .int li)]) S.1 S.2.1 dX6_beyond_14 hl (by decide) rfl (fun ls hl => ?_)
  have L16_0 : ∀ (n : Nat) (k : Nat), n + k = 12 → ∀ (H : Heap) (locs : List Loc) (ls : Array Slot), hm_G g ad M s.heap H locs → lv_has ls 6 [(0, .ref (ad (0, 0, 0))), (2, .int li), (3, .ref (ad (20, r, 0))), (4, .int (nI (cntB (by1 x r li) k))), (5, .int (nI k))] → W p l e rm_X6_beyond s m args below meth c H locs 0 0 (MQ below (hm_Q g (hm_pU ad M (some (.int (nI (byX x r li)))))) args s rm_X6_beyond.cells rm_X6_beyond.slots (hm_A g)) (F0 m 16 ls []) := by
    intro n
    induction n with
    | zero =>
      intro k hk0 H locs ls hG hl
      obtain rfl : k = 12 := by omega
      refine lv_iload S.1 S.2.1 dX6_beyond_16 (lv_at hl 4 rfl) ?_
      refine lv_bipush (v := 12) S.1 S.2.1 dX6_beyond_18 (by decide) ?_
      refine lv_icmp_ge (tgt := 58) S.1 S.2.1 dX6_beyond_20 (by decide) (fun _ => ?_) (fun h9 => absurd (by decide) h9)
      refine lv_iload S.1 S.2.1 dX6_beyond_58 (lv_at hl 3 rfl) ?_
      exact hm_iret S hG hr hlk (⟨rfl, rfl, rfl⟩) (Nat.le_of_ble_eq_true rfl) (Nat.le_of_ble_eq_true rfl) dX6_beyond_60
    | succ n ih16 =>
      intro k hk0 H locs ls hG hl
      have hk : k < 12 := by omega
      refine lv_iload S.1 S.2.1 dX6_beyond_16 (lv_at hl 4 rfl) ?_
      refine lv_bipush (v := 12) S.1 S.2.1 dX6_beyond_18 (by decide) ?_
      refine lv_icmp_ge (tgt := 58) S.1 S.2.1 dX6_beyond_20 (by decide) (fun h9 => absurd h9 (nI_ge (b := 12) hk (by decide))) (fun _ => ?_)
      refine lv_aload_n S.1 S.2.1 dX6_beyond_23 rfl (lv_at hl 0 rfl) ?_
      refine lv_aload_n S.1 S.2.1 dX6_beyond_24 rfl (lv_at hl 2 rfl) ?_
      refine lv_iload S.1 S.2.1 dX6_beyond_25 (lv_at hl 4 rfl) ?_
      refine hm_uV (As := [.ref (ad (20, r, 0)), .int (nI k)]) (rest := []) (st1 := [.int (bI (hkF x (xRu x r) k))]) S hE hG (c_X6_hasKey l g ad M x hx r hr9 k hk) (hm_gV hb_339 hb_340 hb_341 hb_2 hb_342) hd_X6_hasKey rfl hX rfl rfl ⟨Nat.le_of_ble_eq_true rfl, Nat.le_of_ble_eq_true rfl⟩ rfl hl.1 rfl (Nat.le_of_ble_eq_true rfl) dX6_beyond_27 ⟨Nat.le_of_ble_eq_true rfl, Nat.le_of_ble_eq_true rfl⟩ rfl (fun H locs hG => ?_)
      refine lv_if_eq (tgt := 52) S.1 S.2.1 dX6_beyond_30 (by decide) (fun c30 => ?_) (fun c30 => ?_)
      · skip
        have e9 : cntB (by1 x r li) (k + 1) = cntB (by1 x r li) k := cntB_f (by rw [by1, bI_0.mp c30]; simp)
        rw [← e9] at hl
        refine lv_iinc (v := nI (k + 1)) (lv' := [(5, .int (nI (k + 1))), (0, .ref (ad (0, 0, 0))), (2, .int li), (3, .ref (ad (20, r, 0))), (4, .int (nI (cntB (by1 x r li) (k + 1))))]) S.1 S.2.1 dX6_beyond_52 hl (k := 4) rfl (nI_1 k) (by decide) rfl (fun ls hl => ?_)
        refine lv_goto (tgt := 16) S.1 S.2.1 dX6_beyond_55 (by decide) ?_
        exact ih16 (k + 1) (by omega) _ _ _ hG (lv_sub hl [1, 2, 3, 4, 0] rfl)
      · skip
        refine lv_aload_n S.1 S.2.1 dX6_beyond_33 rfl (lv_at hl 2 rfl) ?_
        refine lv_aload_n S.1 S.2.1 dX6_beyond_34 rfl (lv_at hl 0 rfl) ?_
        refine lv_aload_n S.1 S.2.1 dX6_beyond_35 rfl (lv_at hl 2 rfl) ?_
        refine lv_iload S.1 S.2.1 dX6_beyond_36 (lv_at hl 4 rfl) ?_
        refine lv_iconst (v := 0) S.1 S.2.1 dX6_beyond_38 (by decide) ?_
        refine hm_uV (As := [.ref (ad (20, r, 0)), .int (nI k), .int 0]) (rest := [.ref (ad (20, r, 0))]) (st1 := [.int (laF x (xRu x r) k 0), .ref (ad (20, r, 0))]) S hE hG (c_X6_lookedAt l g ad M x hx r hr9 k hk 0 (by omega)) (hm_gV hb_354 hb_355 hb_356 hb_2 hb_357) hd_X6_lookedAt rfl hX rfl rfl ⟨Nat.le_of_ble_eq_true rfl, Nat.le_of_ble_eq_true rfl⟩ rfl hl.1 rfl (Nat.le_of_ble_eq_true rfl) dX6_beyond_39 ⟨Nat.le_of_ble_eq_true rfl, Nat.le_of_ble_eq_true rfl⟩ rfl (fun H locs hG => ?_)
        refine lv_iload_n S.1 S.2.1 dX6_beyond_42 rfl (lv_at hl 1 rfl) ?_
        refine hm_uV (As := [.int (laF x (xRu x r) k 0), .int li]) (rest := []) (st1 := [.int (bI (byF (xRu x r) (laF x (xRu x r) k 0) li))]) S hE hG (c_X4_isBeyond l g ad M r (xRu x r) (xAl x r) (hRu r hr9) (laF x (xRu x r) k 0) li) (hm_gV hb_386 hb_387 hb_388 hb_170 hb_389) hd_X4_isBeyond rfl (hRu r hr9).1 rfl rfl ⟨Nat.le_of_ble_eq_true rfl, Nat.le_of_ble_eq_true rfl⟩ rfl hl.1 rfl (Nat.le_of_ble_eq_true rfl) dX6_beyond_43 ⟨Nat.le_of_ble_eq_true rfl, Nat.le_of_ble_eq_true rfl⟩ rfl (fun H locs hG => ?_)
        refine lv_if_eq (tgt := 52) S.1 S.2.1 dX6_beyond_46 (by decide) (fun c46 => ?_) (fun c46 => ?_)
        · skip
          have e9 : cntB (by1 x r li) (k + 1) = cntB (by1 x r li) k := cntB_f (by rw [by1, bI_0.mp c46]; simp)
          rw [← e9] at hl
          refine lv_iinc (v := nI (k + 1)) (lv' := [(5, .int (nI (k + 1))), (0, .ref (ad (0, 0, 0))), (2, .int li), (3, .ref (ad (20, r, 0))), (4, .int (nI (cntB (by1 x r li) (k + 1))))]) S.1 S.2.1 dX6_beyond_52 hl (k := 4) rfl (nI_1 k) (by decide) rfl (fun ls hl => ?_)
          refine lv_goto (tgt := 16) S.1 S.2.1 dX6_beyond_55 (by decide) ?_
          exact ih16 (k + 1) (by omega) _ _ _ hG (lv_sub hl [1, 2, 3, 4, 0] rfl)
        · skip
          refine lv_iinc (v := nI (cntB (by1 x r li) (k + 1))) (lv' := [(4, .int (nI (cntB (by1 x r li) (k + 1)))), (0, .ref (ad (0, 0, 0))), (2, .int li), (3, .ref (ad (20, r, 0))), (5, .int (nI k))]) S.1 S.2.1 dX6_beyond_49 hl (k := 3) rfl (by rw [cntB_t (by rw [by1, bI_ne.mp c30, bI_ne.mp c46]; rfl)]; exact nI_1 _) (by decide) rfl (fun ls hl => ?_)
          refine lv_iinc (v := nI (k + 1)) (lv' := [(5, .int (nI (k + 1))), (4, .int (nI (cntB (by1 x r li) (k + 1)))), (0, .ref (ad (0, 0, 0))), (2, .int li), (3, .ref (ad (20, r, 0)))]) S.1 S.2.1 dX6_beyond_52 hl (k := 4) rfl (nI_1 k) (by decide) rfl (fun ls hl => ?_)
          refine lv_goto (tgt := 16) S.1 S.2.1 dX6_beyond_55 (by decide) ?_
          exact ih16 (k + 1) (by omega) _ _ _ hG (lv_sub hl [2, 3, 4, 1, 0] rfl)
  exact L16_0 12 0 rfl _ _ _ hG (lv_sub hl [3, 5, 2, 1, 0] rfl)

abbrev rm_X6_calm : Room := { frames := 5, cells := 0, slots := 0, locals := 129 }
set_option maxHeartbeats 4000000 in
set_option maxRecDepth 100000 in
theorem c_X6_calm (l : Launch) (g : GV) (ad : AD) (M : CT) (x : XD) (hx : hasX g ad M x) (r : Nat) (hr9 : r < xR x) : hm_Met l yX6_calm cX6_calm 7 (some .int) rm_X6_calm g ad M [.ref (ad (0, 0, 0)), .int (nI r)] (hm_pU ad M (some (.int (cmX x r)))) := by
  refine hm_start (own := RX6) (by decide) rfl (Nat.le_of_ble_eq_true rfl) ?_
  intro p e s m args below meth c S hr hlk hnm hE hG ls hl
  have hl : lv_has ls 7 [(0, .ref (ad (0, 0, 0))), (1, .int (nI r))] := hl
  obtain ⟨hX, hLs, hLr, hLh, h7, hLg, h70, hSe, hRu, hHu, hGr, hS6, hR6, hH5⟩ := id hx
  obtain ⟨fs1, hb1⟩ := hLs.ob
  obtain ⟨fs2, hb2⟩ := hLr.ob
  obtain ⟨fs3, hb3⟩ := hLh.ob
  refine lv_aload_n S.1 S.2.1 dX6_calm_0 rfl (lv_at hl 0 rfl) ?_
  refine lv_iload_n S.1 S.2.1 dX6_calm_1 rfl (lv_at hl 1 rfl) ?_
  refine hm_uV (As := [.int (nI r)]) (rest := []) (st1 := [.ref (ad (20, r, 0))]) S hE hG (c_X6_requireRule l g ad M x hx r hr9) (hm_gV hb_201 hb_202 hb_203 hb_2 hb_204) hd_X6_requireRule rfl hX rfl rfl ⟨Nat.le_of_ble_eq_true rfl, Nat.le_of_ble_eq_true rfl⟩ rfl hl.1 rfl (Nat.le_of_ble_eq_true rfl) dX6_calm_2 ⟨Nat.le_of_ble_eq_true rfl, Nat.le_of_ble_eq_true rfl⟩ rfl (fun H locs hG => ?_)
  refine lv_astore_n (lv' := [(2, .ref (ad (20, r, 0))), (0, .ref (ad (0, 0, 0))), (1, .int (nI r))]) S.1 S.2.1 dX6_calm_5 rfl hl (by decide) rfl (fun ls hl => ?_)
  refine lv_iconst (v := 1) S.1 S.2.1 dX6_calm_6 (by decide) ?_
  refine lv_istore_n (lv' := [(3, .int 1), (2, .ref (ad (20, r, 0))), (0, .ref (ad (0, 0, 0))), (1, .int (nI r))]) S.1 S.2.1 dX6_calm_7 rfl hl (by decide) rfl (fun ls hl => ?_)
  refine lv_iconst (v := 0) S.1 S.2.1 dX6_calm_8 (by decide) ?_
  refine lv_istore (lv' := [(4, .int 0), (3, .int 1), (2, .ref (ad (20, r, 0))), (0, .ref (ad (0, 0, 0))), (1, .int (nI r))]) S.1 S.2.1 dX6_calm_9 hl (by decide) rfl (fun ls hl => ?_)
  refine lv_iconst (v := 0) S.1 S.2.1 dX6_calm_11 (by decide) ?_
  refine lv_istore (lv' := [(5, .int 0), (4, .int 0), (3, .int 1), (2, .ref (ad (20, r, 0))), (0, .ref (ad (0, 0, 0))), (1, .int (nI r))]) S.1 S.2.1 dX6_calm_12 hl (by decide) rfl (fun ls hl => ?_)
  have L14_0 : ∀ (n : Nat) (k : Nat), n + k = 12 → ∀ (H : Heap) (locs : List Loc) (ls : Array Slot), hm_G g ad M s.heap H locs → lv_has ls 7 [(0, .ref (ad (0, 0, 0))), (2, .ref (ad (20, r, 0))), (3, .int (bI (cmF x (xRu x r) k).1)), (4, .int (cmF x (xRu x r) k).2), (5, .int (nI k))] → W p l e rm_X6_calm s m args below meth c H locs 0 0 (MQ below (hm_Q g (hm_pU ad M (some (.int (cmX x r))))) args s rm_X6_calm.cells rm_X6_calm.slots (hm_A g)) (F0 m 14 ls []) := by
    intro n
    induction n with
    | zero =>
      intro k hk0 H locs ls hG hl
      obtain rfl : k = 12 := by omega
      refine lv_iload S.1 S.2.1 dX6_calm_14 (lv_at hl 4 rfl) ?_
      refine lv_bipush (v := 12) S.1 S.2.1 dX6_calm_16 (by decide) ?_
      refine lv_icmp_ge (tgt := 68) S.1 S.2.1 dX6_calm_18 (by decide) (fun _ => ?_) (fun h9 => absurd (by decide) h9)
      refine lv_iload S.1 S.2.1 dX6_calm_68 (lv_at hl 3 rfl) ?_
      exact hm_iret S hG hr hlk (⟨rfl, rfl, rfl⟩) (Nat.le_of_ble_eq_true rfl) (Nat.le_of_ble_eq_true rfl) dX6_calm_70
    | succ n ih14 =>
      intro k hk0 H locs ls hG hl
      have hk : k < 12 := by omega
      refine lv_iload S.1 S.2.1 dX6_calm_14 (lv_at hl 4 rfl) ?_
      refine lv_bipush (v := 12) S.1 S.2.1 dX6_calm_16 (by decide) ?_
      refine lv_icmp_ge (tgt := 68) S.1 S.2.1 dX6_calm_18 (by decide) (fun h9 => absurd h9 (nI_ge (b := 12) hk (by decide))) (fun _ => ?_)
      refine lv_aload_n S.1 S.2.1 dX6_calm_21 rfl (lv_at hl 0 rfl) ?_
      refine lv_aload_n S.1 S.2.1 dX6_calm_22 rfl (lv_at hl 1 rfl) ?_
      refine lv_iload S.1 S.2.1 dX6_calm_23 (lv_at hl 4 rfl) ?_
      refine hm_uV (As := [.ref (ad (20, r, 0)), .int (nI k)]) (rest := []) (st1 := [.int (bI (hkF x (xRu x r) k))]) S hE hG (c_X6_hasKey l g ad M x hx r hr9 k hk) (hm_gV hb_339 hb_340 hb_341 hb_2 hb_342) hd_X6_hasKey rfl hX rfl rfl ⟨Nat.le_of_ble_eq_true rfl, Nat.le_of_ble_eq_true rfl⟩ rfl hl.1 rfl (Nat.le_of_ble_eq_true rfl) dX6_calm_25 ⟨Nat.le_of_ble_eq_true rfl, Nat.le_of_ble_eq_true rfl⟩ rfl (fun H locs hG => ?_)
      refine lv_if_eq (tgt := 62) S.1 S.2.1 dX6_calm_28 (by decide) (fun c28 => ?_) (fun c28 => ?_)
      · skip
        have e9 : cmF x (xRu x r) (k + 1) = cmF x (xRu x r) k := by rw [cmF, bI_0.mp c28]; rfl
        rw [← e9] at hl
        refine lv_iinc (v := nI (k + 1)) (lv' := [(5, .int (nI (k + 1))), (0, .ref (ad (0, 0, 0))), (2, .ref (ad (20, r, 0))), (3, .int (bI (cmF x (xRu x r) (k + 1)).1)), (4, .int (cmF x (xRu x r) (k + 1)).2)]) S.1 S.2.1 dX6_calm_62 hl (k := 4) rfl (nI_1 k) (by decide) rfl (fun ls hl => ?_)
        refine lv_goto (tgt := 14) S.1 S.2.1 dX6_calm_65 (by decide) ?_
        exact ih14 (k + 1) (by omega) _ _ _ hG (lv_sub hl [1, 2, 3, 4, 0] rfl)
      · skip
        refine lv_aload_n S.1 S.2.1 dX6_calm_31 rfl (lv_at hl 0 rfl) ?_
        refine lv_aload_n S.1 S.2.1 dX6_calm_32 rfl (lv_at hl 1 rfl) ?_
        refine lv_iload S.1 S.2.1 dX6_calm_33 (lv_at hl 4 rfl) ?_
        refine lv_iconst (v := 0) S.1 S.2.1 dX6_calm_35 (by decide) ?_
        refine hm_uV (As := [.ref (ad (20, r, 0)), .int (nI k), .int 0]) (rest := []) (st1 := [.int (laF x (xRu x r) k 0)]) S hE hG (c_X6_lookedAt l g ad M x hx r hr9 k hk 0 (by omega)) (hm_gV hb_354 hb_355 hb_356 hb_2 hb_357) hd_X6_lookedAt rfl hX rfl rfl ⟨Nat.le_of_ble_eq_true rfl, Nat.le_of_ble_eq_true rfl⟩ rfl hl.1 rfl (Nat.le_of_ble_eq_true rfl) dX6_calm_36 ⟨Nat.le_of_ble_eq_true rfl, Nat.le_of_ble_eq_true rfl⟩ rfl (fun H locs hG => ?_)
        refine lv_istore (lv' := [(6, .int (laF x (xRu x r) k 0)), (0, .ref (ad (0, 0, 0))), (2, .ref (ad (20, r, 0))), (3, .int (bI (cmF x (xRu x r) k).1)), (4, .int (cmF x (xRu x r) k).2), (5, .int (nI k))]) S.1 S.2.1 dX6_calm_39 hl (by decide) rfl (fun ls hl => ?_)
        refine lv_iload_n S.1 S.2.1 dX6_calm_41 rfl (lv_at hl 3 rfl) ?_
        refine lv_if_ne (tgt := 56) S.1 S.2.1 dX6_calm_42 (by decide) (fun c42 => ?_) (fun c42 => ?_)
        · skip
          have e42 : (cmF x (xRu x r) k).1 = true := bI_ne.mp c42
          refine lv_iload S.1 S.2.1 dX6_calm_56 (lv_at hl 0 rfl) ?_
          refine lv_istore (lv' := [(4, .int (laF x (xRu x r) k 0)), (6, .int (laF x (xRu x r) k 0)), (0, .ref (ad (0, 0, 0))), (2, .ref (ad (20, r, 0))), (3, .int (bI (cmF x (xRu x r) k).1)), (5, .int (nI k))]) S.1 S.2.1 dX6_calm_58 hl (by decide) rfl (fun ls hl => ?_)
          refine lv_iconst (v := 0) S.1 S.2.1 dX6_calm_60 (by decide) ?_
          refine lv_istore_n (lv' := [(3, .int 0), (4, .int (laF x (xRu x r) k 0)), (6, .int (laF x (xRu x r) k 0)), (0, .ref (ad (0, 0, 0))), (2, .ref (ad (20, r, 0))), (5, .int (nI k))]) S.1 S.2.1 dX6_calm_61 rfl hl (by decide) rfl (fun ls hl => ?_)
          have e9 : cmF x (xRu x r) (k + 1) = (false, (laF x (xRu x r) k 0)) := by rw [cmF, bI_ne.mp c28, e42]; rfl
          have hl : lv_has ls 7 [(3, .int (bI (cmF x (xRu x r) (k + 1)).1)), (4, .int (cmF x (xRu x r) (k + 1)).2), (6, .int (laF x (xRu x r) k 0)), (0, .ref (ad (0, 0, 0))), (2, .ref (ad (20, r, 0))), (5, .int (nI k))] := by rw [e9]; exact hl
          refine lv_iinc (v := nI (k + 1)) (lv' := [(5, .int (nI (k + 1))), (3, .int (bI (cmF x (xRu x r) (k + 1)).1)), (4, .int (cmF x (xRu x r) (k + 1)).2), (6, .int (laF x (xRu x r) k 0)), (0, .ref (ad (0, 0, 0))), (2, .ref (ad (20, r, 0)))]) S.1 S.2.1 dX6_calm_62 hl (k := 5) rfl (nI_1 k) (by decide) rfl (fun ls hl => ?_)
          refine lv_goto (tgt := 14) S.1 S.2.1 dX6_calm_65 (by decide) ?_
          exact ih14 (k + 1) (by omega) _ _ _ hG (lv_sub hl [4, 5, 1, 2, 0] rfl)
        · skip
          have e42 : (cmF x (xRu x r) k).1 = false := bI_0.mp c42
          refine lv_aload_n S.1 S.2.1 dX6_calm_45 rfl (lv_at hl 2 rfl) ?_
          refine lv_iload S.1 S.2.1 dX6_calm_46 (lv_at hl 0 rfl) ?_
          refine lv_iload S.1 S.2.1 dX6_calm_48 (lv_at hl 4 rfl) ?_
          refine hm_uV (As := [.int (laF x (xRu x r) k 0), .int (cmF x (xRu x r) k).2]) (rest := []) (st1 := [.int (bI (byF (xRu x r) (laF x (xRu x r) k 0) ((cmF x (xRu x r) k).2)))]) S hE hG (c_X4_isBeyond l g ad M r (xRu x r) (xAl x r) (hRu r hr9) (laF x (xRu x r) k 0) ((cmF x (xRu x r) k).2)) (hm_gV hb_386 hb_387 hb_388 hb_170 hb_389) hd_X4_isBeyond rfl (hRu r hr9).1 rfl rfl ⟨Nat.le_of_ble_eq_true rfl, Nat.le_of_ble_eq_true rfl⟩ rfl hl.1 rfl (Nat.le_of_ble_eq_true rfl) dX6_calm_50 ⟨Nat.le_of_ble_eq_true rfl, Nat.le_of_ble_eq_true rfl⟩ rfl (fun H locs hG => ?_)
          refine lv_if_eq (tgt := 60) S.1 S.2.1 dX6_calm_53 (by decide) (fun c53 => ?_) (fun c53 => ?_)
          · skip
            refine lv_iconst (v := 0) S.1 S.2.1 dX6_calm_60 (by decide) ?_
            refine lv_istore_n (lv' := [(3, .int 0), (6, .int (laF x (xRu x r) k 0)), (0, .ref (ad (0, 0, 0))), (2, .ref (ad (20, r, 0))), (4, .int (cmF x (xRu x r) k).2), (5, .int (nI k))]) S.1 S.2.1 dX6_calm_61 rfl hl (by decide) rfl (fun ls hl => ?_)
            have e9 : cmF x (xRu x r) (k + 1) = (false, (cmF x (xRu x r) k).2) := by rw [cmF, bI_ne.mp c28, e42, bI_0.mp c53]; rfl
            have hl : lv_has ls 7 [(3, .int (bI (cmF x (xRu x r) (k + 1)).1)), (6, .int (laF x (xRu x r) k 0)), (0, .ref (ad (0, 0, 0))), (2, .ref (ad (20, r, 0))), (4, .int (cmF x (xRu x r) (k + 1)).2), (5, .int (nI k))] := by rw [e9]; exact hl
            refine lv_iinc (v := nI (k + 1)) (lv' := [(5, .int (nI (k + 1))), (3, .int (bI (cmF x (xRu x r) (k + 1)).1)), (6, .int (laF x (xRu x r) k 0)), (0, .ref (ad (0, 0, 0))), (2, .ref (ad (20, r, 0))), (4, .int (cmF x (xRu x r) (k + 1)).2)]) S.1 S.2.1 dX6_calm_62 hl (k := 5) rfl (nI_1 k) (by decide) rfl (fun ls hl => ?_)
            refine lv_goto (tgt := 14) S.1 S.2.1 dX6_calm_65 (by decide) ?_
            exact ih14 (k + 1) (by omega) _ _ _ hG (lv_sub hl [3, 4, 1, 5, 0] rfl)
          · skip
            refine lv_iload S.1 S.2.1 dX6_calm_56 (lv_at hl 0 rfl) ?_
            refine lv_istore (lv' := [(4, .int (laF x (xRu x r) k 0)), (6, .int (laF x (xRu x r) k 0)), (0, .ref (ad (0, 0, 0))), (2, .ref (ad (20, r, 0))), (3, .int (bI (cmF x (xRu x r) k).1)), (5, .int (nI k))]) S.1 S.2.1 dX6_calm_58 hl (by decide) rfl (fun ls hl => ?_)
            refine lv_iconst (v := 0) S.1 S.2.1 dX6_calm_60 (by decide) ?_
            refine lv_istore_n (lv' := [(3, .int 0), (4, .int (laF x (xRu x r) k 0)), (6, .int (laF x (xRu x r) k 0)), (0, .ref (ad (0, 0, 0))), (2, .ref (ad (20, r, 0))), (5, .int (nI k))]) S.1 S.2.1 dX6_calm_61 rfl hl (by decide) rfl (fun ls hl => ?_)
            have e9 : cmF x (xRu x r) (k + 1) = (false, (laF x (xRu x r) k 0)) := by rw [cmF, bI_ne.mp c28, bI_ne.mp c53, Bool.or_true]; rfl
            have hl : lv_has ls 7 [(3, .int (bI (cmF x (xRu x r) (k + 1)).1)), (4, .int (cmF x (xRu x r) (k + 1)).2), (6, .int (laF x (xRu x r) k 0)), (0, .ref (ad (0, 0, 0))), (2, .ref (ad (20, r, 0))), (5, .int (nI k))] := by rw [e9]; exact hl
            refine lv_iinc (v := nI (k + 1)) (lv' := [(5, .int (nI (k + 1))), (3, .int (bI (cmF x (xRu x r) (k + 1)).1)), (4, .int (cmF x (xRu x r) (k + 1)).2), (6, .int (laF x (xRu x r) k 0)), (0, .ref (ad (0, 0, 0))), (2, .ref (ad (20, r, 0)))]) S.1 S.2.1 dX6_calm_62 hl (k := 5) rfl (nI_1 k) (by decide) rfl (fun ls hl => ?_)
            refine lv_goto (tgt := 14) S.1 S.2.1 dX6_calm_65 (by decide) ?_
            exact ih14 (k + 1) (by omega) _ _ _ hG (lv_sub hl [4, 5, 1, 2, 0] rfl)
  exact L14_0 12 0 rfl _ _ _ hG (lv_sub hl [4, 3, 2, 1, 0] rfl)

abbrev rm_X6_loudWithout : Room := { frames := 7, cells := 0, slots := 0, locals := 165 }
set_option maxHeartbeats 4000000 in
set_option maxRecDepth 100000 in
theorem c_X6_loudWithout (l : Launch) (g : GV) (ad : AD) (M : CT) (x : XD) (hx : hasX g ad M x) (h : Nat) (hh9 : h < xH x) : hm_Met l yX6_loudWithout cX6_loudWithout 2 (some .int) rm_X6_loudWithout g ad M [.ref (ad (0, 0, 0)), .int (nI h)] (hm_pU ad M (some (.int (nI (clX x (nI h)))))) := by
  refine hm_start (own := RX6) (by decide) rfl (Nat.le_of_ble_eq_true rfl) ?_
  intro p e s m args below meth c S hr hlk hnm hE hG ls hl
  have hl : lv_has ls 2 [(0, .ref (ad (0, 0, 0))), (1, .int (nI h))] := hl
  obtain ⟨hX, hLs, hLr, hLh, h7, hLg, h70, hSe, hRu, hHu, hGr, hS6, hR6, hH5⟩ := id hx
  obtain ⟨fs1, hb1⟩ := hLs.ob
  obtain ⟨fs2, hb2⟩ := hLr.ob
  obtain ⟨fs3, hb3⟩ := hLh.ob
  refine lv_aload_n S.1 S.2.1 dX6_loudWithout_0 rfl (lv_at hl 0 rfl) ?_
  refine lv_iload_n S.1 S.2.1 dX6_loudWithout_1 rfl (lv_at hl 1 rfl) ?_
  refine hm_uV (As := [.int (nI h)]) (rest := []) (st1 := [.ref (ad (30, h, 0))]) S hE hG (c_X6_requireHush l g ad M x hx h hh9) (hm_gV hb_553 hb_554 hb_555 hb_2 hb_556) hd_X6_requireHush rfl hX rfl rfl ⟨Nat.le_of_ble_eq_true rfl, Nat.le_of_ble_eq_true rfl⟩ rfl hl.1 rfl (Nat.le_of_ble_eq_true rfl) dX6_loudWithout_2 ⟨Nat.le_of_ble_eq_true rfl, Nat.le_of_ble_eq_true rfl⟩ rfl (fun H locs hG => ?_)
  refine lv_pop S.1 S.2.1 dX6_loudWithout_5 rfl ?_
  refine lv_aload_n S.1 S.2.1 dX6_loudWithout_6 rfl (lv_at hl 0 rfl) ?_
  refine lv_iload_n S.1 S.2.1 dX6_loudWithout_7 rfl (lv_at hl 1 rfl) ?_
  refine hm_uV (As := [.int (nI h)]) (rest := []) (st1 := [.int (nI (clX x (nI h)))]) S hE hG (c_X6_countLoud l g ad M x hx (nI h)) (hm_gV hb_276 hb_277 hb_278 hb_2 hb_279) hd_X6_countLoud rfl hX rfl rfl ⟨Nat.le_of_ble_eq_true rfl, Nat.le_of_ble_eq_true rfl⟩ rfl hl.1 rfl (Nat.le_of_ble_eq_true rfl) dX6_loudWithout_8 ⟨Nat.le_of_ble_eq_true rfl, Nat.le_of_ble_eq_true rfl⟩ rfl (fun H locs hG => ?_)
  exact hm_iret S hG hr hlk (⟨rfl, rfl, rfl⟩) (Nat.le_of_ble_eq_true rfl) (Nat.le_of_ble_eq_true rfl) dX6_loudWithout_11

abbrev rm_X6_many : Room := { frames := 7, cells := 0, slots := 0, locals := 165 }
set_option maxHeartbeats 4000000 in
set_option maxRecDepth 100000 in
theorem c_X6_many (l : Launch) (g : GV) (ad : AD) (M : CT) (x : XD) (hx : hasX g ad M x) (w : Nat) (hw : w < 7) : hm_Met l yX6_many cX6_many 2 (some .int) rm_X6_many g ad M [.ref (ad (0, 0, 0)), .int (nI w)] (hm_pU ad M (some (.int (myF x w)))) := by
  refine hm_start (own := RX6) (by decide) rfl (Nat.le_of_ble_eq_true rfl) ?_
  intro p e s m args below meth c S hr hlk hnm hE hG ls hl
  have hl : lv_has ls 2 [(0, .ref (ad (0, 0, 0))), (1, .int (nI w))] := hl
  obtain ⟨hX, hLs, hLr, hLh, h7, hLg, h70, hSe, hRu, hHu, hGr, hS6, hR6, hH5⟩ := id hx
  obtain ⟨fs1, hb1⟩ := hLs.ob
  obtain ⟨fs2, hb2⟩ := hLr.ob
  obtain ⟨fs3, hb3⟩ := hLh.ob
  have h9 : w = 0 ∨ w = 1 ∨ w = 2 ∨ w = 3 ∨ w = 4 ∨ w = 5 ∨ w = 6 := by omega
  rcases h9 with rfl | rfl | rfl | rfl | rfl | rfl | rfl
  · skip
    have hl : lv_has ls 2 [(0, .ref (ad (0, 0, 0))), (1, .int 0)] := hl
    refine lv_iload_n S.1 S.2.1 dX6_many_0 rfl (lv_at hl 1 rfl) ?_
    refine lv_tableIn (tgt := 44) S.1 S.2.1 dX6_many_1 (by decide) (by decide) (by rfl) (by decide) ?_
    refine lv_aload_n S.1 S.2.1 dX6_many_44 rfl (lv_at hl 0 rfl) ?_
    refine hm_get (k := 0) S hE hG hX rfl rfl hi_X60 (by decide) hb_16 rfl rfl dX6_many_45 ?_
    refine hm_uV (As := []) (rest := []) (st1 := [.int (nI (xS x))]) S hE hG (c_size l hLs) (hm_gV hb_97 hb_98 hb_99 hb_15 hb_100) hd_Jx4a65c_size_8abf5 rfl hb1 rfl rfl ⟨Nat.le_of_ble_eq_true rfl, Nat.le_of_ble_eq_true rfl⟩ rfl hl.1 rfl (Nat.le_of_ble_eq_true rfl) dX6_many_48 ⟨Nat.le_of_ble_eq_true rfl, Nat.le_of_ble_eq_true rfl⟩ rfl (fun H locs hG => ?_)
    exact hm_iret S hG hr hlk (⟨rfl, rfl, rfl⟩) (Nat.le_of_ble_eq_true rfl) (Nat.le_of_ble_eq_true rfl) dX6_many_51
  · skip
    have hl : lv_has ls 2 [(0, .ref (ad (0, 0, 0))), (1, .int 1)] := hl
    refine lv_iload_n S.1 S.2.1 dX6_many_0 rfl (lv_at hl 1 rfl) ?_
    refine lv_tableIn (tgt := 52) S.1 S.2.1 dX6_many_1 (by decide) (by decide) (by rfl) (by decide) ?_
    refine lv_aload_n S.1 S.2.1 dX6_many_52 rfl (lv_at hl 0 rfl) ?_
    refine hm_get (k := 1) S hE hG hX rfl rfl hi_X60 (by decide) hb_17 rfl rfl dX6_many_53 ?_
    refine hm_uV (As := []) (rest := []) (st1 := [.int (nI (xR x))]) S hE hG (c_size l hLr) (hm_gV hb_97 hb_98 hb_99 hb_15 hb_100) hd_Jx4a65c_size_8abf5 rfl hb2 rfl rfl ⟨Nat.le_of_ble_eq_true rfl, Nat.le_of_ble_eq_true rfl⟩ rfl hl.1 rfl (Nat.le_of_ble_eq_true rfl) dX6_many_56 ⟨Nat.le_of_ble_eq_true rfl, Nat.le_of_ble_eq_true rfl⟩ rfl (fun H locs hG => ?_)
    exact hm_iret S hG hr hlk (⟨rfl, rfl, rfl⟩) (Nat.le_of_ble_eq_true rfl) (Nat.le_of_ble_eq_true rfl) dX6_many_59
  · skip
    have hl : lv_has ls 2 [(0, .ref (ad (0, 0, 0))), (1, .int 2)] := hl
    refine lv_iload_n S.1 S.2.1 dX6_many_0 rfl (lv_at hl 1 rfl) ?_
    refine lv_tableIn (tgt := 60) S.1 S.2.1 dX6_many_1 (by decide) (by decide) (by rfl) (by decide) ?_
    refine lv_aload_n S.1 S.2.1 dX6_many_60 rfl (lv_at hl 0 rfl) ?_
    refine hm_get (k := 2) S hE hG hX rfl rfl hi_X60 (by decide) hb_18 rfl rfl dX6_many_61 ?_
    refine hm_uV (As := []) (rest := []) (st1 := [.int (nI (xH x))]) S hE hG (c_size l hLh) (hm_gV hb_97 hb_98 hb_99 hb_15 hb_100) hd_Jx4a65c_size_8abf5 rfl hb3 rfl rfl ⟨Nat.le_of_ble_eq_true rfl, Nat.le_of_ble_eq_true rfl⟩ rfl hl.1 rfl (Nat.le_of_ble_eq_true rfl) dX6_many_64 ⟨Nat.le_of_ble_eq_true rfl, Nat.le_of_ble_eq_true rfl⟩ rfl (fun H locs hG => ?_)
    exact hm_iret S hG hr hlk (⟨rfl, rfl, rfl⟩) (Nat.le_of_ble_eq_true rfl) (Nat.le_of_ble_eq_true rfl) dX6_many_67
  · skip
    have hl : lv_has ls 2 [(0, .ref (ad (0, 0, 0))), (1, .int 3)] := hl
    refine lv_iload_n S.1 S.2.1 dX6_many_0 rfl (lv_at hl 1 rfl) ?_
    refine lv_tableIn (tgt := 68) S.1 S.2.1 dX6_many_1 (by decide) (by decide) (by rfl) (by decide) ?_
    refine lv_aload_n S.1 S.2.1 dX6_many_68 rfl (lv_at hl 0 rfl) ?_
    refine lv_iconst (v := 1) S.1 S.2.1 dX6_many_69 (by decide) ?_
    refine hm_uV (As := [.int 1]) (rest := []) (st1 := [.int (nI (caX x 1))]) S hE hG (c_X6_countAlerts l g ad M x hx 1) (hm_gV hb_267 hb_268 hb_269 hb_2 hb_270) hd_X6_countAlerts rfl hX rfl rfl ⟨Nat.le_of_ble_eq_true rfl, Nat.le_of_ble_eq_true rfl⟩ rfl hl.1 rfl (Nat.le_of_ble_eq_true rfl) dX6_many_70 ⟨Nat.le_of_ble_eq_true rfl, Nat.le_of_ble_eq_true rfl⟩ rfl (fun H locs hG => ?_)
    exact hm_iret S hG hr hlk (⟨rfl, rfl, rfl⟩) (Nat.le_of_ble_eq_true rfl) (Nat.le_of_ble_eq_true rfl) dX6_many_73
  · skip
    have hl : lv_has ls 2 [(0, .ref (ad (0, 0, 0))), (1, .int 4)] := hl
    refine lv_iload_n S.1 S.2.1 dX6_many_0 rfl (lv_at hl 1 rfl) ?_
    refine lv_tableIn (tgt := 74) S.1 S.2.1 dX6_many_1 (by decide) (by decide) (by rfl) (by decide) ?_
    refine lv_aload_n S.1 S.2.1 dX6_many_74 rfl (lv_at hl 0 rfl) ?_
    refine lv_iconst (v := 2) S.1 S.2.1 dX6_many_75 (by decide) ?_
    refine hm_uV (As := [.int 2]) (rest := []) (st1 := [.int (nI (caX x 2))]) S hE hG (c_X6_countAlerts l g ad M x hx 2) (hm_gV hb_267 hb_268 hb_269 hb_2 hb_270) hd_X6_countAlerts rfl hX rfl rfl ⟨Nat.le_of_ble_eq_true rfl, Nat.le_of_ble_eq_true rfl⟩ rfl hl.1 rfl (Nat.le_of_ble_eq_true rfl) dX6_many_76 ⟨Nat.le_of_ble_eq_true rfl, Nat.le_of_ble_eq_true rfl⟩ rfl (fun H locs hG => ?_)
    exact hm_iret S hG hr hlk (⟨rfl, rfl, rfl⟩) (Nat.le_of_ble_eq_true rfl) (Nat.le_of_ble_eq_true rfl) dX6_many_79
  · skip
    have hl : lv_has ls 2 [(0, .ref (ad (0, 0, 0))), (1, .int 5)] := hl
    refine lv_iload_n S.1 S.2.1 dX6_many_0 rfl (lv_at hl 1 rfl) ?_
    refine lv_tableIn (tgt := 80) S.1 S.2.1 dX6_many_1 (by decide) (by decide) (by rfl) (by decide) ?_
    refine lv_aload_n S.1 S.2.1 dX6_many_80 rfl (lv_at hl 0 rfl) ?_
    refine lv_iconst (v := (-1)) S.1 S.2.1 dX6_many_81 (by decide) ?_
    refine hm_uV (As := [.int (-1)]) (rest := []) (st1 := [.int (nI (clX x (-1)))]) S hE hG (c_X6_countLoud l g ad M x hx (-1)) (hm_gV hb_276 hb_277 hb_278 hb_2 hb_279) hd_X6_countLoud rfl hX rfl rfl ⟨Nat.le_of_ble_eq_true rfl, Nat.le_of_ble_eq_true rfl⟩ rfl hl.1 rfl (Nat.le_of_ble_eq_true rfl) dX6_many_82 ⟨Nat.le_of_ble_eq_true rfl, Nat.le_of_ble_eq_true rfl⟩ rfl (fun H locs hG => ?_)
    exact hm_iret S hG hr hlk (⟨rfl, rfl, rfl⟩) (Nat.le_of_ble_eq_true rfl) (Nat.le_of_ble_eq_true rfl) dX6_many_85
  · skip
    have hl : lv_has ls 2 [(0, .ref (ad (0, 0, 0))), (1, .int 6)] := hl
    refine lv_iload_n S.1 S.2.1 dX6_many_0 rfl (lv_at hl 1 rfl) ?_
    refine lv_tableIn (tgt := 86) S.1 S.2.1 dX6_many_1 (by decide) (by decide) (by rfl) (by decide) ?_
    refine lv_aload_n S.1 S.2.1 dX6_many_86 rfl (lv_at hl 0 rfl) ?_
    refine hm_get (k := 4) S hE hG hX rfl rfl hi_X60 (by decide) hb_26 rfl rfl dX6_many_87 ?_
    refine hm_get (k := 3) S hE hG hLg.1 rfl rfl hi_X30 (by decide) hb_266 rfl rfl dX6_many_90 ?_
    exact hm_iret S hG hr hlk (⟨rfl, rfl, rfl⟩) (Nat.le_of_ble_eq_true rfl) (Nat.le_of_ble_eq_true rfl) dX6_many_93

abbrev rm_X6_now : Room := { frames := 4, cells := 0, slots := 0, locals := 85 }
set_option maxHeartbeats 4000000 in
set_option maxRecDepth 100000 in
theorem c_X6_now (l : Launch) (g : GV) (ad : AD) (M : CT) (x : XD) (hx : hasX g ad M x) (i w : Nat) (hi9 : i < xS x) (hw : w < 7) : hm_Met l yX6_now cX6_now 4 (some .int) rm_X6_now g ad M [.ref (ad (0, 0, 0)), .int (nI i), .int (nI w)] (hm_pU ad M (some (.int (nwF (xSe x i) w)))) := by
  refine hm_start (own := RX6) (by decide) rfl (Nat.le_of_ble_eq_true rfl) ?_
  intro p e s m args below meth c S hr hlk hnm hE hG ls hl
  have hl : lv_has ls 4 [(0, .ref (ad (0, 0, 0))), (1, .int (nI i)), (2, .int (nI w))] := hl
  obtain ⟨hX, hLs, hLr, hLh, h7, hLg, h70, hSe, hRu, hHu, hGr, hS6, hR6, hH5⟩ := id hx
  obtain ⟨fs1, hb1⟩ := hLs.ob
  obtain ⟨fs2, hb2⟩ := hLr.ob
  obtain ⟨fs3, hb3⟩ := hLh.ob
  refine lv_aload_n S.1 S.2.1 dX6_now_0 rfl (lv_at hl 0 rfl) ?_
  refine lv_iload_n S.1 S.2.1 dX6_now_1 rfl (lv_at hl 1 rfl) ?_
  refine hm_uV (As := [.int (nI i)]) (rest := []) (st1 := [.ref (ad (10, i, 0))]) S hE hG (c_X6_requireSeries l g ad M x hx i hi9) (hm_gV hb_242 hb_243 hb_244 hb_2 hb_245) hd_X6_requireSeries rfl hX rfl rfl ⟨Nat.le_of_ble_eq_true rfl, Nat.le_of_ble_eq_true rfl⟩ rfl hl.1 rfl (Nat.le_of_ble_eq_true rfl) dX6_now_2 ⟨Nat.le_of_ble_eq_true rfl, Nat.le_of_ble_eq_true rfl⟩ rfl (fun H locs hG => ?_)
  refine lv_astore_n (lv' := [(3, .ref (ad (10, i, 0))), (0, .ref (ad (0, 0, 0))), (1, .int (nI i)), (2, .int (nI w))]) S.1 S.2.1 dX6_now_5 rfl hl (by decide) rfl (fun ls hl => ?_)
  refine lv_iload_n S.1 S.2.1 dX6_now_6 rfl (lv_at hl 3 rfl) ?_
  refine lv_iconst (v := 0) S.1 S.2.1 dX6_now_7 (by decide) ?_
  refine lv_bipush (v := 6) S.1 S.2.1 dX6_now_8 (by decide) ?_
  refine hm_uS (As := [.int (nI w), .int 0, .int 6]) (rest := []) (st1 := [.int (bI (decide ((nI w) < 0) || decide (6 < (nI w))))]) S hE hG (c_X6_isOutside l g ad M (nI w) 0 6) (hm_gS hb_91 hb_92 hb_2 hb_93) hd_X6_isOutside ⟨Nat.le_of_ble_eq_true rfl, Nat.le_of_ble_eq_true rfl⟩ rfl hl.1 rfl (Nat.le_of_ble_eq_true rfl) dX6_now_10 ⟨Nat.le_of_ble_eq_true rfl, Nat.le_of_ble_eq_true rfl⟩ rfl (fun H locs hG => ?_)
  refine lv_if_eq (tgt := 26) S.1 S.2.1 dX6_now_13 (by decide) (fun _ => ?_) (fun h9 => absurd (hm_in0 (b := 6) (by omega) (by decide)) h9)
  have h9 : w = 0 ∨ w = 1 ∨ w = 2 ∨ w = 3 ∨ w = 4 ∨ w = 5 ∨ w = 6 := by omega
  rcases h9 with rfl | rfl | rfl | rfl | rfl | rfl | rfl
  · skip
    have hl : lv_has ls 4 [(3, .ref (ad (10, i, 0))), (0, .ref (ad (0, 0, 0))), (1, .int (nI i)), (2, .int 0)] := hl
    refine lv_iload_n S.1 S.2.1 dX6_now_26 rfl (lv_at hl 3 rfl) ?_
    refine lv_if_ne (tgt := 37) S.1 S.2.1 dX6_now_27 (by decide) (fun h9 => absurd (by decide) h9) (fun _ => ?_)
    refine lv_aload_n S.1 S.2.1 dX6_now_30 rfl (lv_at hl 0 rfl) ?_
    refine hm_get (k := 4) S hE hG (hSe i hi9).1 rfl rfl hi_X50 (by decide) hb_241 rfl rfl dX6_now_31 ?_
    refine lv_iconst (v := 0) S.1 S.2.1 dX6_now_34 (by decide) ?_
    refine hm_iald (x := (sPr (xSe x i)) 0) S hE hG (hSe i hi9).2.1 rfl (by unfold vp_in; decide) (congrArg (sPr (xSe x i)) (by decide)) dX6_now_35 ?_
    exact hm_iret S hG hr hlk (⟨rfl, rfl, rfl⟩) (Nat.le_of_ble_eq_true rfl) (Nat.le_of_ble_eq_true rfl) dX6_now_36
  · skip
    have hl : lv_has ls 4 [(3, .ref (ad (10, i, 0))), (0, .ref (ad (0, 0, 0))), (1, .int (nI i)), (2, .int 1)] := hl
    refine lv_iload_n S.1 S.2.1 dX6_now_26 rfl (lv_at hl 3 rfl) ?_
    refine lv_if_ne (tgt := 37) S.1 S.2.1 dX6_now_27 (by decide) (fun _ => ?_) (fun h9 => absurd h9 (by decide))
    refine lv_iload_n S.1 S.2.1 dX6_now_37 rfl (lv_at hl 3 rfl) ?_
    refine lv_iconst (v := 1) S.1 S.2.1 dX6_now_38 (by decide) ?_
    refine lv_icmp_ne (tgt := 49) S.1 S.2.1 dX6_now_39 (by decide) (fun h9 => absurd (by decide) h9) (fun _ => ?_)
    refine lv_aload_n S.1 S.2.1 dX6_now_42 rfl (lv_at hl 0 rfl) ?_
    refine hm_get (k := 7) S hE hG (hSe i hi9).1 rfl rfl hi_X50 (by decide) hb_507 rfl rfl dX6_now_43 ?_
    refine lv_goto (tgt := 59) S.1 S.2.1 dX6_now_46 (by decide) ?_
    exact hm_iret S hG hr hlk (⟨rfl, rfl, rfl⟩) (Nat.le_of_ble_eq_true rfl) (Nat.le_of_ble_eq_true rfl) dX6_now_59
  · skip
    have hl : lv_has ls 4 [(3, .ref (ad (10, i, 0))), (0, .ref (ad (0, 0, 0))), (1, .int (nI i)), (2, .int 2)] := hl
    refine lv_iload_n S.1 S.2.1 dX6_now_26 rfl (lv_at hl 3 rfl) ?_
    refine lv_if_ne (tgt := 37) S.1 S.2.1 dX6_now_27 (by decide) (fun _ => ?_) (fun h9 => absurd h9 (by decide))
    refine lv_iload_n S.1 S.2.1 dX6_now_37 rfl (lv_at hl 3 rfl) ?_
    refine lv_iconst (v := 1) S.1 S.2.1 dX6_now_38 (by decide) ?_
    refine lv_icmp_ne (tgt := 49) S.1 S.2.1 dX6_now_39 (by decide) (fun _ => ?_) (fun h9 => absurd h9 (by decide))
    refine lv_aload_n S.1 S.2.1 dX6_now_49 rfl (lv_at hl 0 rfl) ?_
    refine hm_get (k := 4) S hE hG (hSe i hi9).1 rfl rfl hi_X50 (by decide) hb_241 rfl rfl dX6_now_50 ?_
    refine lv_iload_n S.1 S.2.1 dX6_now_53 rfl (lv_at hl 3 rfl) ?_
    refine lv_iconst (v := 2) S.1 S.2.1 dX6_now_54 (by decide) ?_
    refine lv_isub S.1 S.2.1 dX6_now_55 ?_
    refine hm_top (z := 0) (by decide) ?_
    refine lv_iconst (v := 1) S.1 S.2.1 dX6_now_56 (by decide) ?_
    refine lv_iadd S.1 S.2.1 dX6_now_57 ?_
    refine hm_top (z := 1) (by decide) ?_
    refine hm_iald (x := (sPr (xSe x i)) 1) S hE hG (hSe i hi9).2.1 rfl (by unfold vp_in; decide) (congrArg (sPr (xSe x i)) (by decide)) dX6_now_58 ?_
    exact hm_iret S hG hr hlk (⟨rfl, rfl, rfl⟩) (Nat.le_of_ble_eq_true rfl) (Nat.le_of_ble_eq_true rfl) dX6_now_59
  · skip
    have hl : lv_has ls 4 [(3, .ref (ad (10, i, 0))), (0, .ref (ad (0, 0, 0))), (1, .int (nI i)), (2, .int 3)] := hl
    refine lv_iload_n S.1 S.2.1 dX6_now_26 rfl (lv_at hl 3 rfl) ?_
    refine lv_if_ne (tgt := 37) S.1 S.2.1 dX6_now_27 (by decide) (fun _ => ?_) (fun h9 => absurd h9 (by decide))
    refine lv_iload_n S.1 S.2.1 dX6_now_37 rfl (lv_at hl 3 rfl) ?_
    refine lv_iconst (v := 1) S.1 S.2.1 dX6_now_38 (by decide) ?_
    refine lv_icmp_ne (tgt := 49) S.1 S.2.1 dX6_now_39 (by decide) (fun _ => ?_) (fun h9 => absurd h9 (by decide))
    refine lv_aload_n S.1 S.2.1 dX6_now_49 rfl (lv_at hl 0 rfl) ?_
    refine hm_get (k := 4) S hE hG (hSe i hi9).1 rfl rfl hi_X50 (by decide) hb_241 rfl rfl dX6_now_50 ?_
    refine lv_iload_n S.1 S.2.1 dX6_now_53 rfl (lv_at hl 3 rfl) ?_
    refine lv_iconst (v := 2) S.1 S.2.1 dX6_now_54 (by decide) ?_
    refine lv_isub S.1 S.2.1 dX6_now_55 ?_
    refine hm_top (z := 1) (by decide) ?_
    refine lv_iconst (v := 1) S.1 S.2.1 dX6_now_56 (by decide) ?_
    refine lv_iadd S.1 S.2.1 dX6_now_57 ?_
    refine hm_top (z := 2) (by decide) ?_
    refine hm_iald (x := (sPr (xSe x i)) 2) S hE hG (hSe i hi9).2.1 rfl (by unfold vp_in; decide) (congrArg (sPr (xSe x i)) (by decide)) dX6_now_58 ?_
    exact hm_iret S hG hr hlk (⟨rfl, rfl, rfl⟩) (Nat.le_of_ble_eq_true rfl) (Nat.le_of_ble_eq_true rfl) dX6_now_59
  · skip
    have hl : lv_has ls 4 [(3, .ref (ad (10, i, 0))), (0, .ref (ad (0, 0, 0))), (1, .int (nI i)), (2, .int 4)] := hl
    refine lv_iload_n S.1 S.2.1 dX6_now_26 rfl (lv_at hl 3 rfl) ?_
    refine lv_if_ne (tgt := 37) S.1 S.2.1 dX6_now_27 (by decide) (fun _ => ?_) (fun h9 => absurd h9 (by decide))
    refine lv_iload_n S.1 S.2.1 dX6_now_37 rfl (lv_at hl 3 rfl) ?_
    refine lv_iconst (v := 1) S.1 S.2.1 dX6_now_38 (by decide) ?_
    refine lv_icmp_ne (tgt := 49) S.1 S.2.1 dX6_now_39 (by decide) (fun _ => ?_) (fun h9 => absurd h9 (by decide))
    refine lv_aload_n S.1 S.2.1 dX6_now_49 rfl (lv_at hl 0 rfl) ?_
    refine hm_get (k := 4) S hE hG (hSe i hi9).1 rfl rfl hi_X50 (by decide) hb_241 rfl rfl dX6_now_50 ?_
    refine lv_iload_n S.1 S.2.1 dX6_now_53 rfl (lv_at hl 3 rfl) ?_
    refine lv_iconst (v := 2) S.1 S.2.1 dX6_now_54 (by decide) ?_
    refine lv_isub S.1 S.2.1 dX6_now_55 ?_
    refine hm_top (z := 2) (by decide) ?_
    refine lv_iconst (v := 1) S.1 S.2.1 dX6_now_56 (by decide) ?_
    refine lv_iadd S.1 S.2.1 dX6_now_57 ?_
    refine hm_top (z := 3) (by decide) ?_
    refine hm_iald (x := (sPr (xSe x i)) 3) S hE hG (hSe i hi9).2.1 rfl (by unfold vp_in; decide) (congrArg (sPr (xSe x i)) (by decide)) dX6_now_58 ?_
    exact hm_iret S hG hr hlk (⟨rfl, rfl, rfl⟩) (Nat.le_of_ble_eq_true rfl) (Nat.le_of_ble_eq_true rfl) dX6_now_59
  · skip
    have hl : lv_has ls 4 [(3, .ref (ad (10, i, 0))), (0, .ref (ad (0, 0, 0))), (1, .int (nI i)), (2, .int 5)] := hl
    refine lv_iload_n S.1 S.2.1 dX6_now_26 rfl (lv_at hl 3 rfl) ?_
    refine lv_if_ne (tgt := 37) S.1 S.2.1 dX6_now_27 (by decide) (fun _ => ?_) (fun h9 => absurd h9 (by decide))
    refine lv_iload_n S.1 S.2.1 dX6_now_37 rfl (lv_at hl 3 rfl) ?_
    refine lv_iconst (v := 1) S.1 S.2.1 dX6_now_38 (by decide) ?_
    refine lv_icmp_ne (tgt := 49) S.1 S.2.1 dX6_now_39 (by decide) (fun _ => ?_) (fun h9 => absurd h9 (by decide))
    refine lv_aload_n S.1 S.2.1 dX6_now_49 rfl (lv_at hl 0 rfl) ?_
    refine hm_get (k := 4) S hE hG (hSe i hi9).1 rfl rfl hi_X50 (by decide) hb_241 rfl rfl dX6_now_50 ?_
    refine lv_iload_n S.1 S.2.1 dX6_now_53 rfl (lv_at hl 3 rfl) ?_
    refine lv_iconst (v := 2) S.1 S.2.1 dX6_now_54 (by decide) ?_
    refine lv_isub S.1 S.2.1 dX6_now_55 ?_
    refine hm_top (z := 3) (by decide) ?_
    refine lv_iconst (v := 1) S.1 S.2.1 dX6_now_56 (by decide) ?_
    refine lv_iadd S.1 S.2.1 dX6_now_57 ?_
    refine hm_top (z := 4) (by decide) ?_
    refine hm_iald (x := (sPr (xSe x i)) 4) S hE hG (hSe i hi9).2.1 rfl (by unfold vp_in; decide) (congrArg (sPr (xSe x i)) (by decide)) dX6_now_58 ?_
    exact hm_iret S hG hr hlk (⟨rfl, rfl, rfl⟩) (Nat.le_of_ble_eq_true rfl) (Nat.le_of_ble_eq_true rfl) dX6_now_59
  · skip
    have hl : lv_has ls 4 [(3, .ref (ad (10, i, 0))), (0, .ref (ad (0, 0, 0))), (1, .int (nI i)), (2, .int 6)] := hl
    refine lv_iload_n S.1 S.2.1 dX6_now_26 rfl (lv_at hl 3 rfl) ?_
    refine lv_if_ne (tgt := 37) S.1 S.2.1 dX6_now_27 (by decide) (fun _ => ?_) (fun h9 => absurd h9 (by decide))
    refine lv_iload_n S.1 S.2.1 dX6_now_37 rfl (lv_at hl 3 rfl) ?_
    refine lv_iconst (v := 1) S.1 S.2.1 dX6_now_38 (by decide) ?_
    refine lv_icmp_ne (tgt := 49) S.1 S.2.1 dX6_now_39 (by decide) (fun _ => ?_) (fun h9 => absurd h9 (by decide))
    refine lv_aload_n S.1 S.2.1 dX6_now_49 rfl (lv_at hl 0 rfl) ?_
    refine hm_get (k := 4) S hE hG (hSe i hi9).1 rfl rfl hi_X50 (by decide) hb_241 rfl rfl dX6_now_50 ?_
    refine lv_iload_n S.1 S.2.1 dX6_now_53 rfl (lv_at hl 3 rfl) ?_
    refine lv_iconst (v := 2) S.1 S.2.1 dX6_now_54 (by decide) ?_
    refine lv_isub S.1 S.2.1 dX6_now_55 ?_
    refine hm_top (z := 4) (by decide) ?_
    refine lv_iconst (v := 1) S.1 S.2.1 dX6_now_56 (by decide) ?_
    refine lv_iadd S.1 S.2.1 dX6_now_57 ?_
    refine hm_top (z := 5) (by decide) ?_
    refine hm_iald (x := (sPr (xSe x i)) 5) S hE hG (hSe i hi9).2.1 rfl (by unfold vp_in; decide) (congrArg (sPr (xSe x i)) (by decide)) dX6_now_58 ?_
    exact hm_iret S hG hr hlk (⟨rfl, rfl, rfl⟩) (Nat.le_of_ble_eq_true rfl) (Nat.le_of_ble_eq_true rfl) dX6_now_59

abbrev rm_X6_sample : Room := { frames := 4, cells := 0, slots := 0, locals := 85 }
set_option maxHeartbeats 4000000 in
set_option maxRecDepth 100000 in
theorem c_X6_sample (l : Launch) (g : GV) (ad : AD) (M : CT) (x : XD) (hx : hasX g ad M x) (i b : Nat) (hi9 : i < xS x) (hb : b < 1000) : hm_Met l yX6_sample cX6_sample 4 (some .int) rm_X6_sample g ad M [.ref (ad (0, 0, 0)), .int (nI i), .int (nI b)] (hm_pU ad M (some (.int (pastF (xSe x i) 0 b 0)))) := by
  refine hm_start (own := RX6) (by decide) rfl (Nat.le_of_ble_eq_true rfl) ?_
  intro p e s m args below meth c S hr hlk hnm hE hG ls hl
  have hl : lv_has ls 4 [(0, .ref (ad (0, 0, 0))), (1, .int (nI i)), (2, .int (nI b))] := hl
  obtain ⟨hX, hLs, hLr, hLh, h7, hLg, h70, hSe, hRu, hHu, hGr, hS6, hR6, hH5⟩ := id hx
  obtain ⟨fs1, hb1⟩ := hLs.ob
  obtain ⟨fs2, hb2⟩ := hLr.ob
  obtain ⟨fs3, hb3⟩ := hLh.ob
  refine lv_aload_n S.1 S.2.1 dX6_sample_0 rfl (lv_at hl 0 rfl) ?_
  refine lv_iload_n S.1 S.2.1 dX6_sample_1 rfl (lv_at hl 1 rfl) ?_
  refine hm_uV (As := [.int (nI i)]) (rest := []) (st1 := [.ref (ad (10, i, 0))]) S hE hG (c_X6_requireSeries l g ad M x hx i hi9) (hm_gV hb_242 hb_243 hb_244 hb_2 hb_245) hd_X6_requireSeries rfl hX rfl rfl ⟨Nat.le_of_ble_eq_true rfl, Nat.le_of_ble_eq_true rfl⟩ rfl hl.1 rfl (Nat.le_of_ble_eq_true rfl) dX6_sample_2 ⟨Nat.le_of_ble_eq_true rfl, Nat.le_of_ble_eq_true rfl⟩ rfl (fun H locs hG => ?_)
  refine lv_astore_n (lv' := [(3, .ref (ad (10, i, 0))), (0, .ref (ad (0, 0, 0))), (1, .int (nI i)), (2, .int (nI b))]) S.1 S.2.1 dX6_sample_5 rfl hl (by decide) rfl (fun ls hl => ?_)
  refine lv_iload_n S.1 S.2.1 dX6_sample_6 rfl (lv_at hl 3 rfl) ?_
  refine lv_if_ge (tgt := 20) S.1 S.2.1 dX6_sample_7 (by decide) (fun _ => ?_) (fun h9 => absurd (nI_le (a := 0) (Nat.zero_le _) (by omega)) h9)
  refine lv_aload_n S.1 S.2.1 dX6_sample_20 rfl (lv_at hl 0 rfl) ?_
  refine lv_iconst (v := 0) S.1 S.2.1 dX6_sample_21 (by decide) ?_
  refine lv_iload_n S.1 S.2.1 dX6_sample_22 rfl (lv_at hl 3 rfl) ?_
  refine lv_iconst (v := 0) S.1 S.2.1 dX6_sample_23 (by decide) ?_
  refine hm_uV (As := [.int 0, .int (nI b), .int 0]) (rest := []) (st1 := [.int (pastF (xSe x i) 0 b 0)]) S hE hG (c_X5_past l g ad M i (xSe x i) (hSe i hi9) 0 b 0 (by omega) (by omega) (by omega)) (hm_gV hb_512 hb_365 hb_366 hb_90 hb_367) hd_X5_past rfl (hSe i hi9).1 rfl rfl ⟨Nat.le_of_ble_eq_true rfl, Nat.le_of_ble_eq_true rfl⟩ rfl hl.1 rfl (Nat.le_of_ble_eq_true rfl) dX6_sample_24 ⟨Nat.le_of_ble_eq_true rfl, Nat.le_of_ble_eq_true rfl⟩ rfl (fun H locs hG => ?_)
  exact hm_iret S hG hr hlk (⟨rfl, rfl, rfl⟩) (Nat.le_of_ble_eq_true rfl) (Nat.le_of_ble_eq_true rfl) dX6_sample_27

abbrev rm_X6_look : Room := { frames := 4, cells := 0, slots := 0, locals := 103 }
set_option maxHeartbeats 4000000 in
set_option maxRecDepth 100000 in
theorem c_X6_look (l : Launch) (g : GV) (ad : AD) (M : CT) (x : XD) (hx : hasX g ad M x) (i lk w : Nat) (hi9 : i < xS x) (hlo : lk < 9) (hw1 : 1 ≤ w) (hw2 : w ≤ 12) : hm_Met l yX6_look cX6_look 5 (some .int) rm_X6_look g ad M [.ref (ad (0, 0, 0)), .int (nI i), .int (nI lk), .int (nI w)] (hm_pU ad M (some (.int (lookF (xSe x i) lk w 0)))) := by
  refine hm_start (own := RX6) (by decide) rfl (Nat.le_of_ble_eq_true rfl) ?_
  intro p e s m args below meth c S hr hlk hnm hE hG ls hl
  have hl : lv_has ls 5 [(0, .ref (ad (0, 0, 0))), (1, .int (nI i)), (2, .int (nI lk)), (3, .int (nI w))] := hl
  obtain ⟨hX, hLs, hLr, hLh, h7, hLg, h70, hSe, hRu, hHu, hGr, hS6, hR6, hH5⟩ := id hx
  obtain ⟨fs1, hb1⟩ := hLs.ob
  obtain ⟨fs2, hb2⟩ := hLr.ob
  obtain ⟨fs3, hb3⟩ := hLh.ob
  refine lv_aload_n S.1 S.2.1 dX6_look_0 rfl (lv_at hl 0 rfl) ?_
  refine lv_iload_n S.1 S.2.1 dX6_look_1 rfl (lv_at hl 1 rfl) ?_
  refine hm_uV (As := [.int (nI i)]) (rest := []) (st1 := [.ref (ad (10, i, 0))]) S hE hG (c_X6_requireSeries l g ad M x hx i hi9) (hm_gV hb_242 hb_243 hb_244 hb_2 hb_245) hd_X6_requireSeries rfl hX rfl rfl ⟨Nat.le_of_ble_eq_true rfl, Nat.le_of_ble_eq_true rfl⟩ rfl hl.1 rfl (Nat.le_of_ble_eq_true rfl) dX6_look_2 ⟨Nat.le_of_ble_eq_true rfl, Nat.le_of_ble_eq_true rfl⟩ rfl (fun H locs hG => ?_)
  refine lv_astore (lv' := [(4, .ref (ad (10, i, 0))), (0, .ref (ad (0, 0, 0))), (1, .int (nI i)), (2, .int (nI lk)), (3, .int (nI w))]) S.1 S.2.1 dX6_look_5 hl (by decide) rfl (fun ls hl => ?_)
  refine lv_iload_n S.1 S.2.1 dX6_look_7 rfl (lv_at hl 3 rfl) ?_
  refine hm_uS (As := [.int (nI lk)]) (rest := []) (st1 := []) S hE hG (c_X6_requireLook l g ad M (nI lk) (nI_nlt (b := 0) (by omega) (by omega)) (nI_nlt (a := 8) (b := lk) (by omega) (by omega))) (hm_gS hb_173 hb_174 hb_2 hb_175) hd_X6_requireLook ⟨Nat.le_of_ble_eq_true rfl, Nat.le_of_ble_eq_true rfl⟩ rfl hl.1 rfl (Nat.le_of_ble_eq_true rfl) dX6_look_8 ⟨Nat.le_of_ble_eq_true rfl, Nat.le_of_ble_eq_true rfl⟩ rfl (fun H locs hG => ?_)
  refine lv_iload_n S.1 S.2.1 dX6_look_11 rfl (lv_at hl 4 rfl) ?_
  refine hm_uS (As := [.int (nI w)]) (rest := []) (st1 := []) S hE hG (c_X6_requireW l g ad M (nI w) (nI_nlt (b := 1) (by omega) (by omega)) (nI_nlt (a := 12) (b := w) (by omega) (by omega))) (hm_gS hb_176 hb_177 hb_2 hb_178) hd_X6_requireW ⟨Nat.le_of_ble_eq_true rfl, Nat.le_of_ble_eq_true rfl⟩ rfl hl.1 rfl (Nat.le_of_ble_eq_true rfl) dX6_look_12 ⟨Nat.le_of_ble_eq_true rfl, Nat.le_of_ble_eq_true rfl⟩ rfl (fun H locs hG => ?_)
  refine lv_aload S.1 S.2.1 dX6_look_15 (lv_at hl 0 rfl) ?_
  refine lv_iload_n S.1 S.2.1 dX6_look_17 rfl (lv_at hl 3 rfl) ?_
  refine lv_iload_n S.1 S.2.1 dX6_look_18 rfl (lv_at hl 4 rfl) ?_
  refine lv_iconst (v := 0) S.1 S.2.1 dX6_look_19 (by decide) ?_
  refine hm_uV (As := [.int (nI lk), .int (nI w), .int 0]) (rest := []) (st1 := [.int (lookF (xSe x i) lk w 0)]) S hE hG (c_X5_lookOver l g ad M i (xSe x i) (hSe i hi9) lk w 0 hlo (by omega) (by omega)) (hm_gV hb_360 hb_361 hb_362 hb_90 hb_363) hd_X5_lookOver rfl (hSe i hi9).1 rfl rfl ⟨Nat.le_of_ble_eq_true rfl, Nat.le_of_ble_eq_true rfl⟩ rfl hl.1 rfl (Nat.le_of_ble_eq_true rfl) dX6_look_20 ⟨Nat.le_of_ble_eq_true rfl, Nat.le_of_ble_eq_true rfl⟩ rfl (fun H locs hG => ?_)
  exact hm_iret S hG hr hlk (⟨rfl, rfl, rfl⟩) (Nat.le_of_ble_eq_true rfl) (Nat.le_of_ble_eq_true rfl) dX6_look_23

abbrev rm_X6_clock : Room := { frames := 0, cells := 0, slots := 0, locals := 0 }
set_option maxHeartbeats 4000000 in
set_option maxRecDepth 100000 in
theorem c_X6_clock (l : Launch) (g : GV) (ad : AD) (M : CT) (x : XD) (hx : hasX g ad M x) : hm_Met l yX6_clock cX6_clock 1 (some .int) rm_X6_clock g ad M [.ref (ad (0, 0, 0))] (hm_pU ad M (some (.int (nI (xC x))))) := by
  refine hm_start (own := RX6) (by decide) rfl (Nat.le_of_ble_eq_true rfl) ?_
  intro p e s m args below meth c S hr hlk hnm hE hG ls hl
  have hl : lv_has ls 1 [(0, .ref (ad (0, 0, 0)))] := hl
  obtain ⟨hX, hLs, hLr, hLh, h7, hLg, h70, hSe, hRu, hHu, hGr, hS6, hR6, hH5⟩ := id hx
  obtain ⟨fs1, hb1⟩ := hLs.ob
  obtain ⟨fs2, hb2⟩ := hLr.ob
  obtain ⟨fs3, hb3⟩ := hLh.ob
  refine lv_aload_n S.1 S.2.1 dX6_clock_0 rfl (lv_at hl 0 rfl) ?_
  refine hm_get (k := 6) S hE hG hX rfl rfl hi_X60 (by decide) hb_31 rfl rfl dX6_clock_1 ?_
  exact hm_iret S hG hr hlk (⟨rfl, rfl, rfl⟩) (Nat.le_of_ble_eq_true rfl) (Nat.le_of_ble_eq_true rfl) dX6_clock_4

abbrev rm_X6_mix : Room := { frames := 0, cells := 0, slots := 0, locals := 0 }
set_option maxHeartbeats 4000000 in
set_option maxRecDepth 100000 in
theorem c_X6_mix (l : Launch) (g : GV) (ad : AD) (M : CT) (d : Int64) (v : Int32) : hm_Met l yX6_mix cX6_mix 3 (some .long) rm_X6_mix g ad M [.long d, .int v] (hm_pU ad M (some (.long (mxL d v)))) := by
  refine hm_start (own := RX6) (by decide) rfl (Nat.le_of_ble_eq_true rfl) ?_
  intro p e s m args below meth c S hr hlk hnm hE hG ls hl
  have hl : lv_has ls 3 [(0, .long d), (2, .int v)] := hl
  refine lv_lload_n S.1 S.2.1 dX6_mix_0 rfl (lv_at hl 0 rfl) ?_
  refine lv_ldc2 S.1 S.2.1 S.2.2.2.1 (S.2.2.2.2 _ hb_497) dX6_mix_1 ?_
  refine lv_lmul S.1 S.2.1 dX6_mix_4 ?_
  refine lv_iload_n S.1 S.2.1 dX6_mix_5 rfl (lv_at hl 1 rfl) ?_
  refine lv_i2l S.1 S.2.1 dX6_mix_6 rfl ?_
  refine lv_ladd S.1 S.2.1 dX6_mix_7 ?_
  exact hm_lret S hG hr hlk (⟨rfl, rfl, rfl⟩) (Nat.le_of_ble_eq_true rfl) (Nat.le_of_ble_eq_true rfl) dX6_mix_8

abbrev rm_X6_mixSeries : Room := { frames := 5, cells := 0, slots := 0, locals := 127 }
set_option maxHeartbeats 4000000 in
set_option maxRecDepth 100000 in
theorem c_X6_mixSeries (l : Launch) (g : GV) (ad : AD) (M : CT) (x : XD) (hx : hasX g ad M x) (d : Int64) (i : Nat) (hi9 : i < xS x) : hm_Met l yX6_mixSeries cX6_mixSeries 7 (some .long) rm_X6_mixSeries g ad M [.ref (ad (0, 0, 0)), .long d, .int (nI i)] (hm_pU ad M (some (.long (ms2 (xSe x i) d 9)))) := by
  refine hm_start (own := RX6) (by decide) rfl (Nat.le_of_ble_eq_true rfl) ?_
  intro p e s m args below meth c S hr hlk hnm hE hG ls hl
  have hl : lv_has ls 7 [(0, .ref (ad (0, 0, 0))), (1, .long d), (3, .int (nI i))] := hl
  obtain ⟨hX, hLs, hLr, hLh, h7, hLg, h70, hSe, hRu, hHu, hGr, hS6, hR6, hH5⟩ := id hx
  obtain ⟨fs1, hb1⟩ := hLs.ob
  obtain ⟨fs2, hb2⟩ := hLr.ob
  obtain ⟨fs3, hb3⟩ := hLh.ob
  refine lv_lload_n S.1 S.2.1 dX6_mixSeries_0 rfl (lv_at hl 1 rfl) ?_
  refine lv_lstore (lv' := [(4, .long d), (0, .ref (ad (0, 0, 0))), (1, .long d), (3, .int (nI i))]) S.1 S.2.1 dX6_mixSeries_1 hl (by decide) rfl (fun ls hl => ?_)
  refine lv_iconst (v := 0) S.1 S.2.1 dX6_mixSeries_3 (by decide) ?_
  refine lv_istore (lv' := [(6, .int 0), (4, .long d), (0, .ref (ad (0, 0, 0))), (1, .long d), (3, .int (nI i))]) S.1 S.2.1 dX6_mixSeries_4 hl (by decide) rfl (fun ls hl => ?_)
  refine lv_iload S.1 S.2.1 dX6_mixSeries_6 (lv_at hl 0 rfl) ?_
  refine lv_bipush (v := 6) S.1 S.2.1 dX6_mixSeries_8 (by decide) ?_
  refine lv_icmp_gt (tgt := 33) S.1 S.2.1 dX6_mixSeries_10 (by decide) (fun h9 => absurd h9 (by decide)) (fun _ => ?_)
  refine lv_lload S.1 S.2.1 dX6_mixSeries_13 (lv_at hl 1 rfl) ?_
  refine lv_aload_n S.1 S.2.1 dX6_mixSeries_15 rfl (lv_at hl 2 rfl) ?_
  refine lv_iload_n S.1 S.2.1 dX6_mixSeries_16 rfl (lv_at hl 4 rfl) ?_
  refine lv_iload S.1 S.2.1 dX6_mixSeries_17 (lv_at hl 0 rfl) ?_
  refine hm_uV (As := [.int (nI i), .int 0]) (rest := [.long d]) (st1 := [.int (nwF (xSe x i) 0), .long d]) S hE hG (c_X6_now l g ad M x hx i 0 hi9 (by omega)) (hm_gV hb_503 hb_504 hb_505 hb_2 hb_506) hd_X6_now rfl hX rfl rfl ⟨Nat.le_of_ble_eq_true rfl, Nat.le_of_ble_eq_true rfl⟩ rfl hl.1 rfl (Nat.le_of_ble_eq_true rfl) dX6_mixSeries_19 ⟨Nat.le_of_ble_eq_true rfl, Nat.le_of_ble_eq_true rfl⟩ rfl (fun H locs hG => ?_)
  refine hm_uS (As := [.long d, .int (nwF (xSe x i) 0)]) (rest := []) (st1 := [.long (ms1 (xSe x i) d 1)]) S hE hG (c_X6_mix l g ad M d (nwF (xSe x i) 0)) (hm_gS hb_494 hb_495 hb_2 hb_496) hd_X6_mix ⟨Nat.le_of_ble_eq_true rfl, Nat.le_of_ble_eq_true rfl⟩ rfl hl.1 rfl (Nat.le_of_ble_eq_true rfl) dX6_mixSeries_22 ⟨Nat.le_of_ble_eq_true rfl, Nat.le_of_ble_eq_true rfl⟩ rfl (fun H locs hG => ?_)
  refine lv_lstore (lv' := [(4, .long (ms1 (xSe x i) d 1)), (6, .int 0), (0, .ref (ad (0, 0, 0))), (1, .long d), (3, .int (nI i))]) S.1 S.2.1 dX6_mixSeries_25 hl (by decide) rfl (fun ls hl => ?_)
  refine lv_iinc (v := 1) (lv' := [(6, .int 1), (4, .long (ms1 (xSe x i) d 1)), (0, .ref (ad (0, 0, 0))), (1, .long d), (3, .int (nI i))]) S.1 S.2.1 dX6_mixSeries_27 hl (k := 1) rfl (by decide) (by decide) rfl (fun ls hl => ?_)
  refine lv_goto (tgt := 6) S.1 S.2.1 dX6_mixSeries_30 (by decide) ?_
  refine lv_iload S.1 S.2.1 dX6_mixSeries_6 (lv_at hl 0 rfl) ?_
  refine lv_bipush (v := 6) S.1 S.2.1 dX6_mixSeries_8 (by decide) ?_
  refine lv_icmp_gt (tgt := 33) S.1 S.2.1 dX6_mixSeries_10 (by decide) (fun h9 => absurd h9 (by decide)) (fun _ => ?_)
  refine lv_lload S.1 S.2.1 dX6_mixSeries_13 (lv_at hl 1 rfl) ?_
  refine lv_aload_n S.1 S.2.1 dX6_mixSeries_15 rfl (lv_at hl 2 rfl) ?_
  refine lv_iload_n S.1 S.2.1 dX6_mixSeries_16 rfl (lv_at hl 4 rfl) ?_
  refine lv_iload S.1 S.2.1 dX6_mixSeries_17 (lv_at hl 0 rfl) ?_
  refine hm_uV (As := [.int (nI i), .int 1]) (rest := [.long (ms1 (xSe x i) d 1)]) (st1 := [.int (nwF (xSe x i) 1), .long (ms1 (xSe x i) d 1)]) S hE hG (c_X6_now l g ad M x hx i 1 hi9 (by omega)) (hm_gV hb_503 hb_504 hb_505 hb_2 hb_506) hd_X6_now rfl hX rfl rfl ⟨Nat.le_of_ble_eq_true rfl, Nat.le_of_ble_eq_true rfl⟩ rfl hl.1 rfl (Nat.le_of_ble_eq_true rfl) dX6_mixSeries_19 ⟨Nat.le_of_ble_eq_true rfl, Nat.le_of_ble_eq_true rfl⟩ rfl (fun H locs hG => ?_)
  refine hm_uS (As := [.long (ms1 (xSe x i) d 1), .int (nwF (xSe x i) 1)]) (rest := []) (st1 := [.long (ms1 (xSe x i) d 2)]) S hE hG (c_X6_mix l g ad M (ms1 (xSe x i) d 1) (nwF (xSe x i) 1)) (hm_gS hb_494 hb_495 hb_2 hb_496) hd_X6_mix ⟨Nat.le_of_ble_eq_true rfl, Nat.le_of_ble_eq_true rfl⟩ rfl hl.1 rfl (Nat.le_of_ble_eq_true rfl) dX6_mixSeries_22 ⟨Nat.le_of_ble_eq_true rfl, Nat.le_of_ble_eq_true rfl⟩ rfl (fun H locs hG => ?_)
  refine lv_lstore (lv' := [(4, .long (ms1 (xSe x i) d 2)), (6, .int 1), (0, .ref (ad (0, 0, 0))), (1, .long d), (3, .int (nI i))]) S.1 S.2.1 dX6_mixSeries_25 hl (by decide) rfl (fun ls hl => ?_)
  refine lv_iinc (v := 2) (lv' := [(6, .int 2), (4, .long (ms1 (xSe x i) d 2)), (0, .ref (ad (0, 0, 0))), (1, .long d), (3, .int (nI i))]) S.1 S.2.1 dX6_mixSeries_27 hl (k := 1) rfl (by decide) (by decide) rfl (fun ls hl => ?_)
  refine lv_goto (tgt := 6) S.1 S.2.1 dX6_mixSeries_30 (by decide) ?_
  refine lv_iload S.1 S.2.1 dX6_mixSeries_6 (lv_at hl 0 rfl) ?_
  refine lv_bipush (v := 6) S.1 S.2.1 dX6_mixSeries_8 (by decide) ?_
  refine lv_icmp_gt (tgt := 33) S.1 S.2.1 dX6_mixSeries_10 (by decide) (fun h9 => absurd h9 (by decide)) (fun _ => ?_)
  refine lv_lload S.1 S.2.1 dX6_mixSeries_13 (lv_at hl 1 rfl) ?_
  refine lv_aload_n S.1 S.2.1 dX6_mixSeries_15 rfl (lv_at hl 2 rfl) ?_
  refine lv_iload_n S.1 S.2.1 dX6_mixSeries_16 rfl (lv_at hl 4 rfl) ?_
  refine lv_iload S.1 S.2.1 dX6_mixSeries_17 (lv_at hl 0 rfl) ?_
  refine hm_uV (As := [.int (nI i), .int 2]) (rest := [.long (ms1 (xSe x i) d 2)]) (st1 := [.int (nwF (xSe x i) 2), .long (ms1 (xSe x i) d 2)]) S hE hG (c_X6_now l g ad M x hx i 2 hi9 (by omega)) (hm_gV hb_503 hb_504 hb_505 hb_2 hb_506) hd_X6_now rfl hX rfl rfl ⟨Nat.le_of_ble_eq_true rfl, Nat.le_of_ble_eq_true rfl⟩ rfl hl.1 rfl (Nat.le_of_ble_eq_true rfl) dX6_mixSeries_19 ⟨Nat.le_of_ble_eq_true rfl, Nat.le_of_ble_eq_true rfl⟩ rfl (fun H locs hG => ?_)
  refine hm_uS (As := [.long (ms1 (xSe x i) d 2), .int (nwF (xSe x i) 2)]) (rest := []) (st1 := [.long (ms1 (xSe x i) d 3)]) S hE hG (c_X6_mix l g ad M (ms1 (xSe x i) d 2) (nwF (xSe x i) 2)) (hm_gS hb_494 hb_495 hb_2 hb_496) hd_X6_mix ⟨Nat.le_of_ble_eq_true rfl, Nat.le_of_ble_eq_true rfl⟩ rfl hl.1 rfl (Nat.le_of_ble_eq_true rfl) dX6_mixSeries_22 ⟨Nat.le_of_ble_eq_true rfl, Nat.le_of_ble_eq_true rfl⟩ rfl (fun H locs hG => ?_)
  refine lv_lstore (lv' := [(4, .long (ms1 (xSe x i) d 3)), (6, .int 2), (0, .ref (ad (0, 0, 0))), (1, .long d), (3, .int (nI i))]) S.1 S.2.1 dX6_mixSeries_25 hl (by decide) rfl (fun ls hl => ?_)
  refine lv_iinc (v := 3) (lv' := [(6, .int 3), (4, .long (ms1 (xSe x i) d 3)), (0, .ref (ad (0, 0, 0))), (1, .long d), (3, .int (nI i))]) S.1 S.2.1 dX6_mixSeries_27 hl (k := 1) rfl (by decide) (by decide) rfl (fun ls hl => ?_)
  refine lv_goto (tgt := 6) S.1 S.2.1 dX6_mixSeries_30 (by decide) ?_
  refine lv_iload S.1 S.2.1 dX6_mixSeries_6 (lv_at hl 0 rfl) ?_
  refine lv_bipush (v := 6) S.1 S.2.1 dX6_mixSeries_8 (by decide) ?_
  refine lv_icmp_gt (tgt := 33) S.1 S.2.1 dX6_mixSeries_10 (by decide) (fun h9 => absurd h9 (by decide)) (fun _ => ?_)
  refine lv_lload S.1 S.2.1 dX6_mixSeries_13 (lv_at hl 1 rfl) ?_
  refine lv_aload_n S.1 S.2.1 dX6_mixSeries_15 rfl (lv_at hl 2 rfl) ?_
  refine lv_iload_n S.1 S.2.1 dX6_mixSeries_16 rfl (lv_at hl 4 rfl) ?_
  refine lv_iload S.1 S.2.1 dX6_mixSeries_17 (lv_at hl 0 rfl) ?_
  refine hm_uV (As := [.int (nI i), .int 3]) (rest := [.long (ms1 (xSe x i) d 3)]) (st1 := [.int (nwF (xSe x i) 3), .long (ms1 (xSe x i) d 3)]) S hE hG (c_X6_now l g ad M x hx i 3 hi9 (by omega)) (hm_gV hb_503 hb_504 hb_505 hb_2 hb_506) hd_X6_now rfl hX rfl rfl ⟨Nat.le_of_ble_eq_true rfl, Nat.le_of_ble_eq_true rfl⟩ rfl hl.1 rfl (Nat.le_of_ble_eq_true rfl) dX6_mixSeries_19 ⟨Nat.le_of_ble_eq_true rfl, Nat.le_of_ble_eq_true rfl⟩ rfl (fun H locs hG => ?_)
  refine hm_uS (As := [.long (ms1 (xSe x i) d 3), .int (nwF (xSe x i) 3)]) (rest := []) (st1 := [.long (ms1 (xSe x i) d 4)]) S hE hG (c_X6_mix l g ad M (ms1 (xSe x i) d 3) (nwF (xSe x i) 3)) (hm_gS hb_494 hb_495 hb_2 hb_496) hd_X6_mix ⟨Nat.le_of_ble_eq_true rfl, Nat.le_of_ble_eq_true rfl⟩ rfl hl.1 rfl (Nat.le_of_ble_eq_true rfl) dX6_mixSeries_22 ⟨Nat.le_of_ble_eq_true rfl, Nat.le_of_ble_eq_true rfl⟩ rfl (fun H locs hG => ?_)
  refine lv_lstore (lv' := [(4, .long (ms1 (xSe x i) d 4)), (6, .int 3), (0, .ref (ad (0, 0, 0))), (1, .long d), (3, .int (nI i))]) S.1 S.2.1 dX6_mixSeries_25 hl (by decide) rfl (fun ls hl => ?_)
  refine lv_iinc (v := 4) (lv' := [(6, .int 4), (4, .long (ms1 (xSe x i) d 4)), (0, .ref (ad (0, 0, 0))), (1, .long d), (3, .int (nI i))]) S.1 S.2.1 dX6_mixSeries_27 hl (k := 1) rfl (by decide) (by decide) rfl (fun ls hl => ?_)
  refine lv_goto (tgt := 6) S.1 S.2.1 dX6_mixSeries_30 (by decide) ?_
  refine lv_iload S.1 S.2.1 dX6_mixSeries_6 (lv_at hl 0 rfl) ?_
  refine lv_bipush (v := 6) S.1 S.2.1 dX6_mixSeries_8 (by decide) ?_
  refine lv_icmp_gt (tgt := 33) S.1 S.2.1 dX6_mixSeries_10 (by decide) (fun h9 => absurd h9 (by decide)) (fun _ => ?_)
  refine lv_lload S.1 S.2.1 dX6_mixSeries_13 (lv_at hl 1 rfl) ?_
  refine lv_aload_n S.1 S.2.1 dX6_mixSeries_15 rfl (lv_at hl 2 rfl) ?_
  refine lv_iload_n S.1 S.2.1 dX6_mixSeries_16 rfl (lv_at hl 4 rfl) ?_
  refine lv_iload S.1 S.2.1 dX6_mixSeries_17 (lv_at hl 0 rfl) ?_
  refine hm_uV (As := [.int (nI i), .int 4]) (rest := [.long (ms1 (xSe x i) d 4)]) (st1 := [.int (nwF (xSe x i) 4), .long (ms1 (xSe x i) d 4)]) S hE hG (c_X6_now l g ad M x hx i 4 hi9 (by omega)) (hm_gV hb_503 hb_504 hb_505 hb_2 hb_506) hd_X6_now rfl hX rfl rfl ⟨Nat.le_of_ble_eq_true rfl, Nat.le_of_ble_eq_true rfl⟩ rfl hl.1 rfl (Nat.le_of_ble_eq_true rfl) dX6_mixSeries_19 ⟨Nat.le_of_ble_eq_true rfl, Nat.le_of_ble_eq_true rfl⟩ rfl (fun H locs hG => ?_)
  refine hm_uS (As := [.long (ms1 (xSe x i) d 4), .int (nwF (xSe x i) 4)]) (rest := []) (st1 := [.long (ms1 (xSe x i) d 5)]) S hE hG (c_X6_mix l g ad M (ms1 (xSe x i) d 4) (nwF (xSe x i) 4)) (hm_gS hb_494 hb_495 hb_2 hb_496) hd_X6_mix ⟨Nat.le_of_ble_eq_true rfl, Nat.le_of_ble_eq_true rfl⟩ rfl hl.1 rfl (Nat.le_of_ble_eq_true rfl) dX6_mixSeries_22 ⟨Nat.le_of_ble_eq_true rfl, Nat.le_of_ble_eq_true rfl⟩ rfl (fun H locs hG => ?_)
  refine lv_lstore (lv' := [(4, .long (ms1 (xSe x i) d 5)), (6, .int 4), (0, .ref (ad (0, 0, 0))), (1, .long d), (3, .int (nI i))]) S.1 S.2.1 dX6_mixSeries_25 hl (by decide) rfl (fun ls hl => ?_)
  refine lv_iinc (v := 5) (lv' := [(6, .int 5), (4, .long (ms1 (xSe x i) d 5)), (0, .ref (ad (0, 0, 0))), (1, .long d), (3, .int (nI i))]) S.1 S.2.1 dX6_mixSeries_27 hl (k := 1) rfl (by decide) (by decide) rfl (fun ls hl => ?_)
  refine lv_goto (tgt := 6) S.1 S.2.1 dX6_mixSeries_30 (by decide) ?_
  refine lv_iload S.1 S.2.1 dX6_mixSeries_6 (lv_at hl 0 rfl) ?_
  refine lv_bipush (v := 6) S.1 S.2.1 dX6_mixSeries_8 (by decide) ?_
  refine lv_icmp_gt (tgt := 33) S.1 S.2.1 dX6_mixSeries_10 (by decide) (fun h9 => absurd h9 (by decide)) (fun _ => ?_)
  refine lv_lload S.1 S.2.1 dX6_mixSeries_13 (lv_at hl 1 rfl) ?_
  refine lv_aload_n S.1 S.2.1 dX6_mixSeries_15 rfl (lv_at hl 2 rfl) ?_
  refine lv_iload_n S.1 S.2.1 dX6_mixSeries_16 rfl (lv_at hl 4 rfl) ?_
  refine lv_iload S.1 S.2.1 dX6_mixSeries_17 (lv_at hl 0 rfl) ?_
  refine hm_uV (As := [.int (nI i), .int 5]) (rest := [.long (ms1 (xSe x i) d 5)]) (st1 := [.int (nwF (xSe x i) 5), .long (ms1 (xSe x i) d 5)]) S hE hG (c_X6_now l g ad M x hx i 5 hi9 (by omega)) (hm_gV hb_503 hb_504 hb_505 hb_2 hb_506) hd_X6_now rfl hX rfl rfl ⟨Nat.le_of_ble_eq_true rfl, Nat.le_of_ble_eq_true rfl⟩ rfl hl.1 rfl (Nat.le_of_ble_eq_true rfl) dX6_mixSeries_19 ⟨Nat.le_of_ble_eq_true rfl, Nat.le_of_ble_eq_true rfl⟩ rfl (fun H locs hG => ?_)
  refine hm_uS (As := [.long (ms1 (xSe x i) d 5), .int (nwF (xSe x i) 5)]) (rest := []) (st1 := [.long (ms1 (xSe x i) d 6)]) S hE hG (c_X6_mix l g ad M (ms1 (xSe x i) d 5) (nwF (xSe x i) 5)) (hm_gS hb_494 hb_495 hb_2 hb_496) hd_X6_mix ⟨Nat.le_of_ble_eq_true rfl, Nat.le_of_ble_eq_true rfl⟩ rfl hl.1 rfl (Nat.le_of_ble_eq_true rfl) dX6_mixSeries_22 ⟨Nat.le_of_ble_eq_true rfl, Nat.le_of_ble_eq_true rfl⟩ rfl (fun H locs hG => ?_)
  refine lv_lstore (lv' := [(4, .long (ms1 (xSe x i) d 6)), (6, .int 5), (0, .ref (ad (0, 0, 0))), (1, .long d), (3, .int (nI i))]) S.1 S.2.1 dX6_mixSeries_25 hl (by decide) rfl (fun ls hl => ?_)
  refine lv_iinc (v := 6) (lv' := [(6, .int 6), (4, .long (ms1 (xSe x i) d 6)), (0, .ref (ad (0, 0, 0))), (1, .long d), (3, .int (nI i))]) S.1 S.2.1 dX6_mixSeries_27 hl (k := 1) rfl (by decide) (by decide) rfl (fun ls hl => ?_)
  refine lv_goto (tgt := 6) S.1 S.2.1 dX6_mixSeries_30 (by decide) ?_
  refine lv_iload S.1 S.2.1 dX6_mixSeries_6 (lv_at hl 0 rfl) ?_
  refine lv_bipush (v := 6) S.1 S.2.1 dX6_mixSeries_8 (by decide) ?_
  refine lv_icmp_gt (tgt := 33) S.1 S.2.1 dX6_mixSeries_10 (by decide) (fun h9 => absurd h9 (by decide)) (fun _ => ?_)
  refine lv_lload S.1 S.2.1 dX6_mixSeries_13 (lv_at hl 1 rfl) ?_
  refine lv_aload_n S.1 S.2.1 dX6_mixSeries_15 rfl (lv_at hl 2 rfl) ?_
  refine lv_iload_n S.1 S.2.1 dX6_mixSeries_16 rfl (lv_at hl 4 rfl) ?_
  refine lv_iload S.1 S.2.1 dX6_mixSeries_17 (lv_at hl 0 rfl) ?_
  refine hm_uV (As := [.int (nI i), .int 6]) (rest := [.long (ms1 (xSe x i) d 6)]) (st1 := [.int (nwF (xSe x i) 6), .long (ms1 (xSe x i) d 6)]) S hE hG (c_X6_now l g ad M x hx i 6 hi9 (by omega)) (hm_gV hb_503 hb_504 hb_505 hb_2 hb_506) hd_X6_now rfl hX rfl rfl ⟨Nat.le_of_ble_eq_true rfl, Nat.le_of_ble_eq_true rfl⟩ rfl hl.1 rfl (Nat.le_of_ble_eq_true rfl) dX6_mixSeries_19 ⟨Nat.le_of_ble_eq_true rfl, Nat.le_of_ble_eq_true rfl⟩ rfl (fun H locs hG => ?_)
  refine hm_uS (As := [.long (ms1 (xSe x i) d 6), .int (nwF (xSe x i) 6)]) (rest := []) (st1 := [.long (ms1 (xSe x i) d 7)]) S hE hG (c_X6_mix l g ad M (ms1 (xSe x i) d 6) (nwF (xSe x i) 6)) (hm_gS hb_494 hb_495 hb_2 hb_496) hd_X6_mix ⟨Nat.le_of_ble_eq_true rfl, Nat.le_of_ble_eq_true rfl⟩ rfl hl.1 rfl (Nat.le_of_ble_eq_true rfl) dX6_mixSeries_22 ⟨Nat.le_of_ble_eq_true rfl, Nat.le_of_ble_eq_true rfl⟩ rfl (fun H locs hG => ?_)
  refine lv_lstore (lv' := [(4, .long (ms1 (xSe x i) d 7)), (6, .int 6), (0, .ref (ad (0, 0, 0))), (1, .long d), (3, .int (nI i))]) S.1 S.2.1 dX6_mixSeries_25 hl (by decide) rfl (fun ls hl => ?_)
  refine lv_iinc (v := 7) (lv' := [(6, .int 7), (4, .long (ms1 (xSe x i) d 7)), (0, .ref (ad (0, 0, 0))), (1, .long d), (3, .int (nI i))]) S.1 S.2.1 dX6_mixSeries_27 hl (k := 1) rfl (by decide) (by decide) rfl (fun ls hl => ?_)
  refine lv_goto (tgt := 6) S.1 S.2.1 dX6_mixSeries_30 (by decide) ?_
  refine lv_iload S.1 S.2.1 dX6_mixSeries_6 (lv_at hl 0 rfl) ?_
  refine lv_bipush (v := 6) S.1 S.2.1 dX6_mixSeries_8 (by decide) ?_
  refine lv_icmp_gt (tgt := 33) S.1 S.2.1 dX6_mixSeries_10 (by decide) (fun _ => ?_) (fun h9 => absurd (by decide) h9)
  refine lv_lload S.1 S.2.1 dX6_mixSeries_33 (lv_at hl 1 rfl) ?_
  refine lv_aload_n S.1 S.2.1 dX6_mixSeries_35 rfl (lv_at hl 2 rfl) ?_
  refine lv_iload_n S.1 S.2.1 dX6_mixSeries_36 rfl (lv_at hl 4 rfl) ?_
  refine lv_iconst (v := 0) S.1 S.2.1 dX6_mixSeries_37 (by decide) ?_
  refine hm_uV (As := [.int (nI i), .int 0]) (rest := [.long (ms1 (xSe x i) d 7)]) (st1 := [.int (pastF (xSe x i) 0 0 0), .long (ms1 (xSe x i) d 7)]) S hE hG (c_X6_sample l g ad M x hx i 0 hi9 (by omega)) (hm_gV hb_508 hb_509 hb_510 hb_2 hb_511) hd_X6_sample rfl hX rfl rfl ⟨Nat.le_of_ble_eq_true rfl, Nat.le_of_ble_eq_true rfl⟩ rfl hl.1 rfl (Nat.le_of_ble_eq_true rfl) dX6_mixSeries_38 ⟨Nat.le_of_ble_eq_true rfl, Nat.le_of_ble_eq_true rfl⟩ rfl (fun H locs hG => ?_)
  refine hm_uS (As := [.long (ms1 (xSe x i) d 7), .int (pastF (xSe x i) 0 0 0)]) (rest := []) (st1 := [.long (mxL (ms1 (xSe x i) d 7) (pastF (xSe x i) 0 0 0))]) S hE hG (c_X6_mix l g ad M (ms1 (xSe x i) d 7) (pastF (xSe x i) 0 0 0)) (hm_gS hb_494 hb_495 hb_2 hb_496) hd_X6_mix ⟨Nat.le_of_ble_eq_true rfl, Nat.le_of_ble_eq_true rfl⟩ rfl hl.1 rfl (Nat.le_of_ble_eq_true rfl) dX6_mixSeries_41 ⟨Nat.le_of_ble_eq_true rfl, Nat.le_of_ble_eq_true rfl⟩ rfl (fun H locs hG => ?_)
  refine lv_lstore (lv' := [(4, .long (mxL (ms1 (xSe x i) d 7) (pastF (xSe x i) 0 0 0))), (6, .int 7), (0, .ref (ad (0, 0, 0))), (1, .long d), (3, .int (nI i))]) S.1 S.2.1 dX6_mixSeries_44 hl (by decide) rfl (fun ls hl => ?_)
  refine lv_lload S.1 S.2.1 dX6_mixSeries_46 (lv_at hl 0 rfl) ?_
  refine lv_aload_n S.1 S.2.1 dX6_mixSeries_48 rfl (lv_at hl 2 rfl) ?_
  refine lv_iload_n S.1 S.2.1 dX6_mixSeries_49 rfl (lv_at hl 4 rfl) ?_
  refine lv_iconst (v := 1) S.1 S.2.1 dX6_mixSeries_50 (by decide) ?_
  refine hm_uV (As := [.int (nI i), .int 1]) (rest := [.long (mxL (ms1 (xSe x i) d 7) (pastF (xSe x i) 0 0 0))]) (st1 := [.int (pastF (xSe x i) 0 1 0), .long (mxL (ms1 (xSe x i) d 7) (pastF (xSe x i) 0 0 0))]) S hE hG (c_X6_sample l g ad M x hx i 1 hi9 (by omega)) (hm_gV hb_508 hb_509 hb_510 hb_2 hb_511) hd_X6_sample rfl hX rfl rfl ⟨Nat.le_of_ble_eq_true rfl, Nat.le_of_ble_eq_true rfl⟩ rfl hl.1 rfl (Nat.le_of_ble_eq_true rfl) dX6_mixSeries_51 ⟨Nat.le_of_ble_eq_true rfl, Nat.le_of_ble_eq_true rfl⟩ rfl (fun H locs hG => ?_)
  refine hm_uS (As := [.long (mxL (ms1 (xSe x i) d 7) (pastF (xSe x i) 0 0 0)), .int (pastF (xSe x i) 0 1 0)]) (rest := []) (st1 := [.long (ms2 (xSe x i) d 0)]) S hE hG (c_X6_mix l g ad M (mxL (ms1 (xSe x i) d 7) (pastF (xSe x i) 0 0 0)) (pastF (xSe x i) 0 1 0)) (hm_gS hb_494 hb_495 hb_2 hb_496) hd_X6_mix ⟨Nat.le_of_ble_eq_true rfl, Nat.le_of_ble_eq_true rfl⟩ rfl hl.1 rfl (Nat.le_of_ble_eq_true rfl) dX6_mixSeries_54 ⟨Nat.le_of_ble_eq_true rfl, Nat.le_of_ble_eq_true rfl⟩ rfl (fun H locs hG => ?_)
  refine lv_lstore (lv' := [(4, .long (ms2 (xSe x i) d 0)), (6, .int 7), (0, .ref (ad (0, 0, 0))), (1, .long d), (3, .int (nI i))]) S.1 S.2.1 dX6_mixSeries_57 hl (by decide) rfl (fun ls hl => ?_)
  refine lv_iconst (v := 0) S.1 S.2.1 dX6_mixSeries_59 (by decide) ?_
  refine lv_istore (lv' := [(6, .int 0), (4, .long (ms2 (xSe x i) d 0)), (0, .ref (ad (0, 0, 0))), (1, .long d), (3, .int (nI i))]) S.1 S.2.1 dX6_mixSeries_60 hl (by decide) rfl (fun ls hl => ?_)
  refine lv_iload S.1 S.2.1 dX6_mixSeries_62 (lv_at hl 0 rfl) ?_
  refine lv_bipush (v := 8) S.1 S.2.1 dX6_mixSeries_64 (by decide) ?_
  refine lv_icmp_gt (tgt := 90) S.1 S.2.1 dX6_mixSeries_66 (by decide) (fun h9 => absurd h9 (by decide)) (fun _ => ?_)
  refine lv_lload S.1 S.2.1 dX6_mixSeries_69 (lv_at hl 1 rfl) ?_
  refine lv_aload_n S.1 S.2.1 dX6_mixSeries_71 rfl (lv_at hl 2 rfl) ?_
  refine lv_iload_n S.1 S.2.1 dX6_mixSeries_72 rfl (lv_at hl 4 rfl) ?_
  refine lv_iload S.1 S.2.1 dX6_mixSeries_73 (lv_at hl 0 rfl) ?_
  refine lv_iconst (v := 5) S.1 S.2.1 dX6_mixSeries_75 (by decide) ?_
  refine hm_uV (As := [.int (nI i), .int 0, .int 5]) (rest := [.long (ms2 (xSe x i) d 0)]) (st1 := [.int (lookF (xSe x i) 0 5 0), .long (ms2 (xSe x i) d 0)]) S hE hG (c_X6_look l g ad M x hx i 0 5 hi9 (by omega) (by omega) (by omega)) (hm_gV hb_513 hb_514 hb_515 hb_2 hb_516) hd_X6_look rfl hX rfl rfl ⟨Nat.le_of_ble_eq_true rfl, Nat.le_of_ble_eq_true rfl⟩ rfl hl.1 rfl (Nat.le_of_ble_eq_true rfl) dX6_mixSeries_76 ⟨Nat.le_of_ble_eq_true rfl, Nat.le_of_ble_eq_true rfl⟩ rfl (fun H locs hG => ?_)
  refine hm_uS (As := [.long (ms2 (xSe x i) d 0), .int (lookF (xSe x i) 0 5 0)]) (rest := []) (st1 := [.long (ms2 (xSe x i) d 1)]) S hE hG (c_X6_mix l g ad M (ms2 (xSe x i) d 0) (lookF (xSe x i) 0 5 0)) (hm_gS hb_494 hb_495 hb_2 hb_496) hd_X6_mix ⟨Nat.le_of_ble_eq_true rfl, Nat.le_of_ble_eq_true rfl⟩ rfl hl.1 rfl (Nat.le_of_ble_eq_true rfl) dX6_mixSeries_79 ⟨Nat.le_of_ble_eq_true rfl, Nat.le_of_ble_eq_true rfl⟩ rfl (fun H locs hG => ?_)
  refine lv_lstore (lv' := [(4, .long (ms2 (xSe x i) d 1)), (6, .int 0), (0, .ref (ad (0, 0, 0))), (1, .long d), (3, .int (nI i))]) S.1 S.2.1 dX6_mixSeries_82 hl (by decide) rfl (fun ls hl => ?_)
  refine lv_iinc (v := 1) (lv' := [(6, .int 1), (4, .long (ms2 (xSe x i) d 1)), (0, .ref (ad (0, 0, 0))), (1, .long d), (3, .int (nI i))]) S.1 S.2.1 dX6_mixSeries_84 hl (k := 1) rfl (by decide) (by decide) rfl (fun ls hl => ?_)
  refine lv_goto (tgt := 62) S.1 S.2.1 dX6_mixSeries_87 (by decide) ?_
  refine lv_iload S.1 S.2.1 dX6_mixSeries_62 (lv_at hl 0 rfl) ?_
  refine lv_bipush (v := 8) S.1 S.2.1 dX6_mixSeries_64 (by decide) ?_
  refine lv_icmp_gt (tgt := 90) S.1 S.2.1 dX6_mixSeries_66 (by decide) (fun h9 => absurd h9 (by decide)) (fun _ => ?_)
  refine lv_lload S.1 S.2.1 dX6_mixSeries_69 (lv_at hl 1 rfl) ?_
  refine lv_aload_n S.1 S.2.1 dX6_mixSeries_71 rfl (lv_at hl 2 rfl) ?_
  refine lv_iload_n S.1 S.2.1 dX6_mixSeries_72 rfl (lv_at hl 4 rfl) ?_
  refine lv_iload S.1 S.2.1 dX6_mixSeries_73 (lv_at hl 0 rfl) ?_
  refine lv_iconst (v := 5) S.1 S.2.1 dX6_mixSeries_75 (by decide) ?_
  refine hm_uV (As := [.int (nI i), .int 1, .int 5]) (rest := [.long (ms2 (xSe x i) d 1)]) (st1 := [.int (lookF (xSe x i) 1 5 0), .long (ms2 (xSe x i) d 1)]) S hE hG (c_X6_look l g ad M x hx i 1 5 hi9 (by omega) (by omega) (by omega)) (hm_gV hb_513 hb_514 hb_515 hb_2 hb_516) hd_X6_look rfl hX rfl rfl ⟨Nat.le_of_ble_eq_true rfl, Nat.le_of_ble_eq_true rfl⟩ rfl hl.1 rfl (Nat.le_of_ble_eq_true rfl) dX6_mixSeries_76 ⟨Nat.le_of_ble_eq_true rfl, Nat.le_of_ble_eq_true rfl⟩ rfl (fun H locs hG => ?_)
  refine hm_uS (As := [.long (ms2 (xSe x i) d 1), .int (lookF (xSe x i) 1 5 0)]) (rest := []) (st1 := [.long (ms2 (xSe x i) d 2)]) S hE hG (c_X6_mix l g ad M (ms2 (xSe x i) d 1) (lookF (xSe x i) 1 5 0)) (hm_gS hb_494 hb_495 hb_2 hb_496) hd_X6_mix ⟨Nat.le_of_ble_eq_true rfl, Nat.le_of_ble_eq_true rfl⟩ rfl hl.1 rfl (Nat.le_of_ble_eq_true rfl) dX6_mixSeries_79 ⟨Nat.le_of_ble_eq_true rfl, Nat.le_of_ble_eq_true rfl⟩ rfl (fun H locs hG => ?_)
  refine lv_lstore (lv' := [(4, .long (ms2 (xSe x i) d 2)), (6, .int 1), (0, .ref (ad (0, 0, 0))), (1, .long d), (3, .int (nI i))]) S.1 S.2.1 dX6_mixSeries_82 hl (by decide) rfl (fun ls hl => ?_)
  refine lv_iinc (v := 2) (lv' := [(6, .int 2), (4, .long (ms2 (xSe x i) d 2)), (0, .ref (ad (0, 0, 0))), (1, .long d), (3, .int (nI i))]) S.1 S.2.1 dX6_mixSeries_84 hl (k := 1) rfl (by decide) (by decide) rfl (fun ls hl => ?_)
  refine lv_goto (tgt := 62) S.1 S.2.1 dX6_mixSeries_87 (by decide) ?_
  refine lv_iload S.1 S.2.1 dX6_mixSeries_62 (lv_at hl 0 rfl) ?_
  refine lv_bipush (v := 8) S.1 S.2.1 dX6_mixSeries_64 (by decide) ?_
  refine lv_icmp_gt (tgt := 90) S.1 S.2.1 dX6_mixSeries_66 (by decide) (fun h9 => absurd h9 (by decide)) (fun _ => ?_)
  refine lv_lload S.1 S.2.1 dX6_mixSeries_69 (lv_at hl 1 rfl) ?_
  refine lv_aload_n S.1 S.2.1 dX6_mixSeries_71 rfl (lv_at hl 2 rfl) ?_
  refine lv_iload_n S.1 S.2.1 dX6_mixSeries_72 rfl (lv_at hl 4 rfl) ?_
  refine lv_iload S.1 S.2.1 dX6_mixSeries_73 (lv_at hl 0 rfl) ?_
  refine lv_iconst (v := 5) S.1 S.2.1 dX6_mixSeries_75 (by decide) ?_
  refine hm_uV (As := [.int (nI i), .int 2, .int 5]) (rest := [.long (ms2 (xSe x i) d 2)]) (st1 := [.int (lookF (xSe x i) 2 5 0), .long (ms2 (xSe x i) d 2)]) S hE hG (c_X6_look l g ad M x hx i 2 5 hi9 (by omega) (by omega) (by omega)) (hm_gV hb_513 hb_514 hb_515 hb_2 hb_516) hd_X6_look rfl hX rfl rfl ⟨Nat.le_of_ble_eq_true rfl, Nat.le_of_ble_eq_true rfl⟩ rfl hl.1 rfl (Nat.le_of_ble_eq_true rfl) dX6_mixSeries_76 ⟨Nat.le_of_ble_eq_true rfl, Nat.le_of_ble_eq_true rfl⟩ rfl (fun H locs hG => ?_)
  refine hm_uS (As := [.long (ms2 (xSe x i) d 2), .int (lookF (xSe x i) 2 5 0)]) (rest := []) (st1 := [.long (ms2 (xSe x i) d 3)]) S hE hG (c_X6_mix l g ad M (ms2 (xSe x i) d 2) (lookF (xSe x i) 2 5 0)) (hm_gS hb_494 hb_495 hb_2 hb_496) hd_X6_mix ⟨Nat.le_of_ble_eq_true rfl, Nat.le_of_ble_eq_true rfl⟩ rfl hl.1 rfl (Nat.le_of_ble_eq_true rfl) dX6_mixSeries_79 ⟨Nat.le_of_ble_eq_true rfl, Nat.le_of_ble_eq_true rfl⟩ rfl (fun H locs hG => ?_)
  refine lv_lstore (lv' := [(4, .long (ms2 (xSe x i) d 3)), (6, .int 2), (0, .ref (ad (0, 0, 0))), (1, .long d), (3, .int (nI i))]) S.1 S.2.1 dX6_mixSeries_82 hl (by decide) rfl (fun ls hl => ?_)
  refine lv_iinc (v := 3) (lv' := [(6, .int 3), (4, .long (ms2 (xSe x i) d 3)), (0, .ref (ad (0, 0, 0))), (1, .long d), (3, .int (nI i))]) S.1 S.2.1 dX6_mixSeries_84 hl (k := 1) rfl (by decide) (by decide) rfl (fun ls hl => ?_)
  refine lv_goto (tgt := 62) S.1 S.2.1 dX6_mixSeries_87 (by decide) ?_
  refine lv_iload S.1 S.2.1 dX6_mixSeries_62 (lv_at hl 0 rfl) ?_
  refine lv_bipush (v := 8) S.1 S.2.1 dX6_mixSeries_64 (by decide) ?_
  refine lv_icmp_gt (tgt := 90) S.1 S.2.1 dX6_mixSeries_66 (by decide) (fun h9 => absurd h9 (by decide)) (fun _ => ?_)
  refine lv_lload S.1 S.2.1 dX6_mixSeries_69 (lv_at hl 1 rfl) ?_
  refine lv_aload_n S.1 S.2.1 dX6_mixSeries_71 rfl (lv_at hl 2 rfl) ?_
  refine lv_iload_n S.1 S.2.1 dX6_mixSeries_72 rfl (lv_at hl 4 rfl) ?_
  refine lv_iload S.1 S.2.1 dX6_mixSeries_73 (lv_at hl 0 rfl) ?_
  refine lv_iconst (v := 5) S.1 S.2.1 dX6_mixSeries_75 (by decide) ?_
  refine hm_uV (As := [.int (nI i), .int 3, .int 5]) (rest := [.long (ms2 (xSe x i) d 3)]) (st1 := [.int (lookF (xSe x i) 3 5 0), .long (ms2 (xSe x i) d 3)]) S hE hG (c_X6_look l g ad M x hx i 3 5 hi9 (by omega) (by omega) (by omega)) (hm_gV hb_513 hb_514 hb_515 hb_2 hb_516) hd_X6_look rfl hX rfl rfl ⟨Nat.le_of_ble_eq_true rfl, Nat.le_of_ble_eq_true rfl⟩ rfl hl.1 rfl (Nat.le_of_ble_eq_true rfl) dX6_mixSeries_76 ⟨Nat.le_of_ble_eq_true rfl, Nat.le_of_ble_eq_true rfl⟩ rfl (fun H locs hG => ?_)
  refine hm_uS (As := [.long (ms2 (xSe x i) d 3), .int (lookF (xSe x i) 3 5 0)]) (rest := []) (st1 := [.long (ms2 (xSe x i) d 4)]) S hE hG (c_X6_mix l g ad M (ms2 (xSe x i) d 3) (lookF (xSe x i) 3 5 0)) (hm_gS hb_494 hb_495 hb_2 hb_496) hd_X6_mix ⟨Nat.le_of_ble_eq_true rfl, Nat.le_of_ble_eq_true rfl⟩ rfl hl.1 rfl (Nat.le_of_ble_eq_true rfl) dX6_mixSeries_79 ⟨Nat.le_of_ble_eq_true rfl, Nat.le_of_ble_eq_true rfl⟩ rfl (fun H locs hG => ?_)
  refine lv_lstore (lv' := [(4, .long (ms2 (xSe x i) d 4)), (6, .int 3), (0, .ref (ad (0, 0, 0))), (1, .long d), (3, .int (nI i))]) S.1 S.2.1 dX6_mixSeries_82 hl (by decide) rfl (fun ls hl => ?_)
  refine lv_iinc (v := 4) (lv' := [(6, .int 4), (4, .long (ms2 (xSe x i) d 4)), (0, .ref (ad (0, 0, 0))), (1, .long d), (3, .int (nI i))]) S.1 S.2.1 dX6_mixSeries_84 hl (k := 1) rfl (by decide) (by decide) rfl (fun ls hl => ?_)
  refine lv_goto (tgt := 62) S.1 S.2.1 dX6_mixSeries_87 (by decide) ?_
  refine lv_iload S.1 S.2.1 dX6_mixSeries_62 (lv_at hl 0 rfl) ?_
  refine lv_bipush (v := 8) S.1 S.2.1 dX6_mixSeries_64 (by decide) ?_
  refine lv_icmp_gt (tgt := 90) S.1 S.2.1 dX6_mixSeries_66 (by decide) (fun h9 => absurd h9 (by decide)) (fun _ => ?_)
  refine lv_lload S.1 S.2.1 dX6_mixSeries_69 (lv_at hl 1 rfl) ?_
  refine lv_aload_n S.1 S.2.1 dX6_mixSeries_71 rfl (lv_at hl 2 rfl) ?_
  refine lv_iload_n S.1 S.2.1 dX6_mixSeries_72 rfl (lv_at hl 4 rfl) ?_
  refine lv_iload S.1 S.2.1 dX6_mixSeries_73 (lv_at hl 0 rfl) ?_
  refine lv_iconst (v := 5) S.1 S.2.1 dX6_mixSeries_75 (by decide) ?_
  refine hm_uV (As := [.int (nI i), .int 4, .int 5]) (rest := [.long (ms2 (xSe x i) d 4)]) (st1 := [.int (lookF (xSe x i) 4 5 0), .long (ms2 (xSe x i) d 4)]) S hE hG (c_X6_look l g ad M x hx i 4 5 hi9 (by omega) (by omega) (by omega)) (hm_gV hb_513 hb_514 hb_515 hb_2 hb_516) hd_X6_look rfl hX rfl rfl ⟨Nat.le_of_ble_eq_true rfl, Nat.le_of_ble_eq_true rfl⟩ rfl hl.1 rfl (Nat.le_of_ble_eq_true rfl) dX6_mixSeries_76 ⟨Nat.le_of_ble_eq_true rfl, Nat.le_of_ble_eq_true rfl⟩ rfl (fun H locs hG => ?_)
  refine hm_uS (As := [.long (ms2 (xSe x i) d 4), .int (lookF (xSe x i) 4 5 0)]) (rest := []) (st1 := [.long (ms2 (xSe x i) d 5)]) S hE hG (c_X6_mix l g ad M (ms2 (xSe x i) d 4) (lookF (xSe x i) 4 5 0)) (hm_gS hb_494 hb_495 hb_2 hb_496) hd_X6_mix ⟨Nat.le_of_ble_eq_true rfl, Nat.le_of_ble_eq_true rfl⟩ rfl hl.1 rfl (Nat.le_of_ble_eq_true rfl) dX6_mixSeries_79 ⟨Nat.le_of_ble_eq_true rfl, Nat.le_of_ble_eq_true rfl⟩ rfl (fun H locs hG => ?_)
  refine lv_lstore (lv' := [(4, .long (ms2 (xSe x i) d 5)), (6, .int 4), (0, .ref (ad (0, 0, 0))), (1, .long d), (3, .int (nI i))]) S.1 S.2.1 dX6_mixSeries_82 hl (by decide) rfl (fun ls hl => ?_)
  refine lv_iinc (v := 5) (lv' := [(6, .int 5), (4, .long (ms2 (xSe x i) d 5)), (0, .ref (ad (0, 0, 0))), (1, .long d), (3, .int (nI i))]) S.1 S.2.1 dX6_mixSeries_84 hl (k := 1) rfl (by decide) (by decide) rfl (fun ls hl => ?_)
  refine lv_goto (tgt := 62) S.1 S.2.1 dX6_mixSeries_87 (by decide) ?_
  refine lv_iload S.1 S.2.1 dX6_mixSeries_62 (lv_at hl 0 rfl) ?_
  refine lv_bipush (v := 8) S.1 S.2.1 dX6_mixSeries_64 (by decide) ?_
  refine lv_icmp_gt (tgt := 90) S.1 S.2.1 dX6_mixSeries_66 (by decide) (fun h9 => absurd h9 (by decide)) (fun _ => ?_)
  refine lv_lload S.1 S.2.1 dX6_mixSeries_69 (lv_at hl 1 rfl) ?_
  refine lv_aload_n S.1 S.2.1 dX6_mixSeries_71 rfl (lv_at hl 2 rfl) ?_
  refine lv_iload_n S.1 S.2.1 dX6_mixSeries_72 rfl (lv_at hl 4 rfl) ?_
  refine lv_iload S.1 S.2.1 dX6_mixSeries_73 (lv_at hl 0 rfl) ?_
  refine lv_iconst (v := 5) S.1 S.2.1 dX6_mixSeries_75 (by decide) ?_
  refine hm_uV (As := [.int (nI i), .int 5, .int 5]) (rest := [.long (ms2 (xSe x i) d 5)]) (st1 := [.int (lookF (xSe x i) 5 5 0), .long (ms2 (xSe x i) d 5)]) S hE hG (c_X6_look l g ad M x hx i 5 5 hi9 (by omega) (by omega) (by omega)) (hm_gV hb_513 hb_514 hb_515 hb_2 hb_516) hd_X6_look rfl hX rfl rfl ⟨Nat.le_of_ble_eq_true rfl, Nat.le_of_ble_eq_true rfl⟩ rfl hl.1 rfl (Nat.le_of_ble_eq_true rfl) dX6_mixSeries_76 ⟨Nat.le_of_ble_eq_true rfl, Nat.le_of_ble_eq_true rfl⟩ rfl (fun H locs hG => ?_)
  refine hm_uS (As := [.long (ms2 (xSe x i) d 5), .int (lookF (xSe x i) 5 5 0)]) (rest := []) (st1 := [.long (ms2 (xSe x i) d 6)]) S hE hG (c_X6_mix l g ad M (ms2 (xSe x i) d 5) (lookF (xSe x i) 5 5 0)) (hm_gS hb_494 hb_495 hb_2 hb_496) hd_X6_mix ⟨Nat.le_of_ble_eq_true rfl, Nat.le_of_ble_eq_true rfl⟩ rfl hl.1 rfl (Nat.le_of_ble_eq_true rfl) dX6_mixSeries_79 ⟨Nat.le_of_ble_eq_true rfl, Nat.le_of_ble_eq_true rfl⟩ rfl (fun H locs hG => ?_)
  refine lv_lstore (lv' := [(4, .long (ms2 (xSe x i) d 6)), (6, .int 5), (0, .ref (ad (0, 0, 0))), (1, .long d), (3, .int (nI i))]) S.1 S.2.1 dX6_mixSeries_82 hl (by decide) rfl (fun ls hl => ?_)
  refine lv_iinc (v := 6) (lv' := [(6, .int 6), (4, .long (ms2 (xSe x i) d 6)), (0, .ref (ad (0, 0, 0))), (1, .long d), (3, .int (nI i))]) S.1 S.2.1 dX6_mixSeries_84 hl (k := 1) rfl (by decide) (by decide) rfl (fun ls hl => ?_)
  refine lv_goto (tgt := 62) S.1 S.2.1 dX6_mixSeries_87 (by decide) ?_
  refine lv_iload S.1 S.2.1 dX6_mixSeries_62 (lv_at hl 0 rfl) ?_
  refine lv_bipush (v := 8) S.1 S.2.1 dX6_mixSeries_64 (by decide) ?_
  refine lv_icmp_gt (tgt := 90) S.1 S.2.1 dX6_mixSeries_66 (by decide) (fun h9 => absurd h9 (by decide)) (fun _ => ?_)
  refine lv_lload S.1 S.2.1 dX6_mixSeries_69 (lv_at hl 1 rfl) ?_
  refine lv_aload_n S.1 S.2.1 dX6_mixSeries_71 rfl (lv_at hl 2 rfl) ?_
  refine lv_iload_n S.1 S.2.1 dX6_mixSeries_72 rfl (lv_at hl 4 rfl) ?_
  refine lv_iload S.1 S.2.1 dX6_mixSeries_73 (lv_at hl 0 rfl) ?_
  refine lv_iconst (v := 5) S.1 S.2.1 dX6_mixSeries_75 (by decide) ?_
  refine hm_uV (As := [.int (nI i), .int 6, .int 5]) (rest := [.long (ms2 (xSe x i) d 6)]) (st1 := [.int (lookF (xSe x i) 6 5 0), .long (ms2 (xSe x i) d 6)]) S hE hG (c_X6_look l g ad M x hx i 6 5 hi9 (by omega) (by omega) (by omega)) (hm_gV hb_513 hb_514 hb_515 hb_2 hb_516) hd_X6_look rfl hX rfl rfl ⟨Nat.le_of_ble_eq_true rfl, Nat.le_of_ble_eq_true rfl⟩ rfl hl.1 rfl (Nat.le_of_ble_eq_true rfl) dX6_mixSeries_76 ⟨Nat.le_of_ble_eq_true rfl, Nat.le_of_ble_eq_true rfl⟩ rfl (fun H locs hG => ?_)
  refine hm_uS (As := [.long (ms2 (xSe x i) d 6), .int (lookF (xSe x i) 6 5 0)]) (rest := []) (st1 := [.long (ms2 (xSe x i) d 7)]) S hE hG (c_X6_mix l g ad M (ms2 (xSe x i) d 6) (lookF (xSe x i) 6 5 0)) (hm_gS hb_494 hb_495 hb_2 hb_496) hd_X6_mix ⟨Nat.le_of_ble_eq_true rfl, Nat.le_of_ble_eq_true rfl⟩ rfl hl.1 rfl (Nat.le_of_ble_eq_true rfl) dX6_mixSeries_79 ⟨Nat.le_of_ble_eq_true rfl, Nat.le_of_ble_eq_true rfl⟩ rfl (fun H locs hG => ?_)
  refine lv_lstore (lv' := [(4, .long (ms2 (xSe x i) d 7)), (6, .int 6), (0, .ref (ad (0, 0, 0))), (1, .long d), (3, .int (nI i))]) S.1 S.2.1 dX6_mixSeries_82 hl (by decide) rfl (fun ls hl => ?_)
  refine lv_iinc (v := 7) (lv' := [(6, .int 7), (4, .long (ms2 (xSe x i) d 7)), (0, .ref (ad (0, 0, 0))), (1, .long d), (3, .int (nI i))]) S.1 S.2.1 dX6_mixSeries_84 hl (k := 1) rfl (by decide) (by decide) rfl (fun ls hl => ?_)
  refine lv_goto (tgt := 62) S.1 S.2.1 dX6_mixSeries_87 (by decide) ?_
  refine lv_iload S.1 S.2.1 dX6_mixSeries_62 (lv_at hl 0 rfl) ?_
  refine lv_bipush (v := 8) S.1 S.2.1 dX6_mixSeries_64 (by decide) ?_
  refine lv_icmp_gt (tgt := 90) S.1 S.2.1 dX6_mixSeries_66 (by decide) (fun h9 => absurd h9 (by decide)) (fun _ => ?_)
  refine lv_lload S.1 S.2.1 dX6_mixSeries_69 (lv_at hl 1 rfl) ?_
  refine lv_aload_n S.1 S.2.1 dX6_mixSeries_71 rfl (lv_at hl 2 rfl) ?_
  refine lv_iload_n S.1 S.2.1 dX6_mixSeries_72 rfl (lv_at hl 4 rfl) ?_
  refine lv_iload S.1 S.2.1 dX6_mixSeries_73 (lv_at hl 0 rfl) ?_
  refine lv_iconst (v := 5) S.1 S.2.1 dX6_mixSeries_75 (by decide) ?_
  refine hm_uV (As := [.int (nI i), .int 7, .int 5]) (rest := [.long (ms2 (xSe x i) d 7)]) (st1 := [.int (lookF (xSe x i) 7 5 0), .long (ms2 (xSe x i) d 7)]) S hE hG (c_X6_look l g ad M x hx i 7 5 hi9 (by omega) (by omega) (by omega)) (hm_gV hb_513 hb_514 hb_515 hb_2 hb_516) hd_X6_look rfl hX rfl rfl ⟨Nat.le_of_ble_eq_true rfl, Nat.le_of_ble_eq_true rfl⟩ rfl hl.1 rfl (Nat.le_of_ble_eq_true rfl) dX6_mixSeries_76 ⟨Nat.le_of_ble_eq_true rfl, Nat.le_of_ble_eq_true rfl⟩ rfl (fun H locs hG => ?_)
  refine hm_uS (As := [.long (ms2 (xSe x i) d 7), .int (lookF (xSe x i) 7 5 0)]) (rest := []) (st1 := [.long (ms2 (xSe x i) d 8)]) S hE hG (c_X6_mix l g ad M (ms2 (xSe x i) d 7) (lookF (xSe x i) 7 5 0)) (hm_gS hb_494 hb_495 hb_2 hb_496) hd_X6_mix ⟨Nat.le_of_ble_eq_true rfl, Nat.le_of_ble_eq_true rfl⟩ rfl hl.1 rfl (Nat.le_of_ble_eq_true rfl) dX6_mixSeries_79 ⟨Nat.le_of_ble_eq_true rfl, Nat.le_of_ble_eq_true rfl⟩ rfl (fun H locs hG => ?_)
  refine lv_lstore (lv' := [(4, .long (ms2 (xSe x i) d 8)), (6, .int 7), (0, .ref (ad (0, 0, 0))), (1, .long d), (3, .int (nI i))]) S.1 S.2.1 dX6_mixSeries_82 hl (by decide) rfl (fun ls hl => ?_)
  refine lv_iinc (v := 8) (lv' := [(6, .int 8), (4, .long (ms2 (xSe x i) d 8)), (0, .ref (ad (0, 0, 0))), (1, .long d), (3, .int (nI i))]) S.1 S.2.1 dX6_mixSeries_84 hl (k := 1) rfl (by decide) (by decide) rfl (fun ls hl => ?_)
  refine lv_goto (tgt := 62) S.1 S.2.1 dX6_mixSeries_87 (by decide) ?_
  refine lv_iload S.1 S.2.1 dX6_mixSeries_62 (lv_at hl 0 rfl) ?_
  refine lv_bipush (v := 8) S.1 S.2.1 dX6_mixSeries_64 (by decide) ?_
  refine lv_icmp_gt (tgt := 90) S.1 S.2.1 dX6_mixSeries_66 (by decide) (fun h9 => absurd h9 (by decide)) (fun _ => ?_)
  refine lv_lload S.1 S.2.1 dX6_mixSeries_69 (lv_at hl 1 rfl) ?_
  refine lv_aload_n S.1 S.2.1 dX6_mixSeries_71 rfl (lv_at hl 2 rfl) ?_
  refine lv_iload_n S.1 S.2.1 dX6_mixSeries_72 rfl (lv_at hl 4 rfl) ?_
  refine lv_iload S.1 S.2.1 dX6_mixSeries_73 (lv_at hl 0 rfl) ?_
  refine lv_iconst (v := 5) S.1 S.2.1 dX6_mixSeries_75 (by decide) ?_
  refine hm_uV (As := [.int (nI i), .int 8, .int 5]) (rest := [.long (ms2 (xSe x i) d 8)]) (st1 := [.int (lookF (xSe x i) 8 5 0), .long (ms2 (xSe x i) d 8)]) S hE hG (c_X6_look l g ad M x hx i 8 5 hi9 (by omega) (by omega) (by omega)) (hm_gV hb_513 hb_514 hb_515 hb_2 hb_516) hd_X6_look rfl hX rfl rfl ⟨Nat.le_of_ble_eq_true rfl, Nat.le_of_ble_eq_true rfl⟩ rfl hl.1 rfl (Nat.le_of_ble_eq_true rfl) dX6_mixSeries_76 ⟨Nat.le_of_ble_eq_true rfl, Nat.le_of_ble_eq_true rfl⟩ rfl (fun H locs hG => ?_)
  refine hm_uS (As := [.long (ms2 (xSe x i) d 8), .int (lookF (xSe x i) 8 5 0)]) (rest := []) (st1 := [.long (ms2 (xSe x i) d 9)]) S hE hG (c_X6_mix l g ad M (ms2 (xSe x i) d 8) (lookF (xSe x i) 8 5 0)) (hm_gS hb_494 hb_495 hb_2 hb_496) hd_X6_mix ⟨Nat.le_of_ble_eq_true rfl, Nat.le_of_ble_eq_true rfl⟩ rfl hl.1 rfl (Nat.le_of_ble_eq_true rfl) dX6_mixSeries_79 ⟨Nat.le_of_ble_eq_true rfl, Nat.le_of_ble_eq_true rfl⟩ rfl (fun H locs hG => ?_)
  refine lv_lstore (lv' := [(4, .long (ms2 (xSe x i) d 9)), (6, .int 8), (0, .ref (ad (0, 0, 0))), (1, .long d), (3, .int (nI i))]) S.1 S.2.1 dX6_mixSeries_82 hl (by decide) rfl (fun ls hl => ?_)
  refine lv_iinc (v := 9) (lv' := [(6, .int 9), (4, .long (ms2 (xSe x i) d 9)), (0, .ref (ad (0, 0, 0))), (1, .long d), (3, .int (nI i))]) S.1 S.2.1 dX6_mixSeries_84 hl (k := 1) rfl (by decide) (by decide) rfl (fun ls hl => ?_)
  refine lv_goto (tgt := 62) S.1 S.2.1 dX6_mixSeries_87 (by decide) ?_
  refine lv_iload S.1 S.2.1 dX6_mixSeries_62 (lv_at hl 0 rfl) ?_
  refine lv_bipush (v := 8) S.1 S.2.1 dX6_mixSeries_64 (by decide) ?_
  refine lv_icmp_gt (tgt := 90) S.1 S.2.1 dX6_mixSeries_66 (by decide) (fun _ => ?_) (fun h9 => absurd (by decide) h9)
  refine lv_lload S.1 S.2.1 dX6_mixSeries_90 (lv_at hl 1 rfl) ?_
  exact hm_lret S hG hr hlk (⟨rfl, rfl, rfl⟩) (Nat.le_of_ble_eq_true rfl) (Nat.le_of_ble_eq_true rfl) dX6_mixSeries_92

abbrev rm_X6_mixAlert : Room := { frames := 7, cells := 0, slots := 0, locals := 165 }
set_option maxHeartbeats 4000000 in
set_option maxRecDepth 100000 in
theorem c_X6_mixAlert (l : Launch) (g : GV) (ad : AD) (M : CT) (x : XD) (hx : hasX g ad M x) (w0 : stOK x) (d : Int64) (q r k : Nat) (hq : isAt x q r k) : hm_Met l yX6_mixAlert cX6_mixAlert 9 (some .long) rm_X6_mixAlert g ad M [.ref (ad (0, 0, 0)), .long d, .int (nI q)] (hm_pU ad M (some (.long (ma2 x r k d 3)))) := by
  refine hm_start (own := RX6) (by decide) rfl (Nat.le_of_ble_eq_true rfl) ?_
  intro p e s m args below meth c S hr hlk hnm hE hG ls hl
  have hl : lv_has ls 9 [(0, .ref (ad (0, 0, 0))), (1, .long d), (3, .int (nI q))] := hl
  obtain ⟨hX, hLs, hLr, hLh, h7, hLg, h70, hSe, hRu, hHu, hGr, hS6, hR6, hH5⟩ := id hx
  obtain ⟨fs1, hb1⟩ := hLs.ob
  obtain ⟨fs2, hb2⟩ := hLr.ob
  obtain ⟨fs3, hb3⟩ := hLh.ob
  refine lv_lload_n S.1 S.2.1 dX6_mixAlert_0 rfl (lv_at hl 1 rfl) ?_
  refine lv_lstore (lv' := [(4, .long d), (0, .ref (ad (0, 0, 0))), (1, .long d), (3, .int (nI q))]) S.1 S.2.1 dX6_mixAlert_1 hl (by decide) rfl (fun ls hl => ?_)
  refine lv_iconst (v := 0) S.1 S.2.1 dX6_mixAlert_3 (by decide) ?_
  refine lv_istore (lv' := [(6, .int 0), (4, .long d), (0, .ref (ad (0, 0, 0))), (1, .long d), (3, .int (nI q))]) S.1 S.2.1 dX6_mixAlert_4 hl (by decide) rfl (fun ls hl => ?_)
  refine lv_iload S.1 S.2.1 dX6_mixAlert_6 (lv_at hl 0 rfl) ?_
  refine lv_iconst (v := 2) S.1 S.2.1 dX6_mixAlert_8 (by decide) ?_
  refine lv_icmp_gt (tgt := 32) S.1 S.2.1 dX6_mixAlert_9 (by decide) (fun h9 => absurd h9 (by decide)) (fun _ => ?_)
  refine lv_lload S.1 S.2.1 dX6_mixAlert_12 (lv_at hl 1 rfl) ?_
  refine lv_aload_n S.1 S.2.1 dX6_mixAlert_14 rfl (lv_at hl 2 rfl) ?_
  refine lv_iload_n S.1 S.2.1 dX6_mixAlert_15 rfl (lv_at hl 4 rfl) ?_
  refine lv_iload S.1 S.2.1 dX6_mixAlert_16 (lv_at hl 0 rfl) ?_
  refine hm_uV (As := [.int (nI q), .int 0]) (rest := [.long d]) (st1 := [.int (aaF x r k 0), .long d]) S hE hG (c_X6_alertAt l g ad M x hx w0 q r k 0 hq (by omega)) (hm_gV hb_529 hb_530 hb_531 hb_2 hb_532) hd_X6_alertAt rfl hX rfl rfl ⟨Nat.le_of_ble_eq_true rfl, Nat.le_of_ble_eq_true rfl⟩ rfl hl.1 rfl (Nat.le_of_ble_eq_true rfl) dX6_mixAlert_18 ⟨Nat.le_of_ble_eq_true rfl, Nat.le_of_ble_eq_true rfl⟩ rfl (fun H locs hG => ?_)
  refine hm_uS (As := [.long d, .int (aaF x r k 0)]) (rest := []) (st1 := [.long (ma1 x r k d 1)]) S hE hG (c_X6_mix l g ad M d (aaF x r k 0)) (hm_gS hb_494 hb_495 hb_2 hb_496) hd_X6_mix ⟨Nat.le_of_ble_eq_true rfl, Nat.le_of_ble_eq_true rfl⟩ rfl hl.1 rfl (Nat.le_of_ble_eq_true rfl) dX6_mixAlert_21 ⟨Nat.le_of_ble_eq_true rfl, Nat.le_of_ble_eq_true rfl⟩ rfl (fun H locs hG => ?_)
  refine lv_lstore (lv' := [(4, .long (ma1 x r k d 1)), (6, .int 0), (0, .ref (ad (0, 0, 0))), (1, .long d), (3, .int (nI q))]) S.1 S.2.1 dX6_mixAlert_24 hl (by decide) rfl (fun ls hl => ?_)
  refine lv_iinc (v := 1) (lv' := [(6, .int 1), (4, .long (ma1 x r k d 1)), (0, .ref (ad (0, 0, 0))), (1, .long d), (3, .int (nI q))]) S.1 S.2.1 dX6_mixAlert_26 hl (k := 1) rfl (by decide) (by decide) rfl (fun ls hl => ?_)
  refine lv_goto (tgt := 6) S.1 S.2.1 dX6_mixAlert_29 (by decide) ?_
  refine lv_iload S.1 S.2.1 dX6_mixAlert_6 (lv_at hl 0 rfl) ?_
  refine lv_iconst (v := 2) S.1 S.2.1 dX6_mixAlert_8 (by decide) ?_
  refine lv_icmp_gt (tgt := 32) S.1 S.2.1 dX6_mixAlert_9 (by decide) (fun h9 => absurd h9 (by decide)) (fun _ => ?_)
  refine lv_lload S.1 S.2.1 dX6_mixAlert_12 (lv_at hl 1 rfl) ?_
  refine lv_aload_n S.1 S.2.1 dX6_mixAlert_14 rfl (lv_at hl 2 rfl) ?_
  refine lv_iload_n S.1 S.2.1 dX6_mixAlert_15 rfl (lv_at hl 4 rfl) ?_
  refine lv_iload S.1 S.2.1 dX6_mixAlert_16 (lv_at hl 0 rfl) ?_
  refine hm_uV (As := [.int (nI q), .int 1]) (rest := [.long (ma1 x r k d 1)]) (st1 := [.int (aaF x r k 1), .long (ma1 x r k d 1)]) S hE hG (c_X6_alertAt l g ad M x hx w0 q r k 1 hq (by omega)) (hm_gV hb_529 hb_530 hb_531 hb_2 hb_532) hd_X6_alertAt rfl hX rfl rfl ⟨Nat.le_of_ble_eq_true rfl, Nat.le_of_ble_eq_true rfl⟩ rfl hl.1 rfl (Nat.le_of_ble_eq_true rfl) dX6_mixAlert_18 ⟨Nat.le_of_ble_eq_true rfl, Nat.le_of_ble_eq_true rfl⟩ rfl (fun H locs hG => ?_)
  refine hm_uS (As := [.long (ma1 x r k d 1), .int (aaF x r k 1)]) (rest := []) (st1 := [.long (ma1 x r k d 2)]) S hE hG (c_X6_mix l g ad M (ma1 x r k d 1) (aaF x r k 1)) (hm_gS hb_494 hb_495 hb_2 hb_496) hd_X6_mix ⟨Nat.le_of_ble_eq_true rfl, Nat.le_of_ble_eq_true rfl⟩ rfl hl.1 rfl (Nat.le_of_ble_eq_true rfl) dX6_mixAlert_21 ⟨Nat.le_of_ble_eq_true rfl, Nat.le_of_ble_eq_true rfl⟩ rfl (fun H locs hG => ?_)
  refine lv_lstore (lv' := [(4, .long (ma1 x r k d 2)), (6, .int 1), (0, .ref (ad (0, 0, 0))), (1, .long d), (3, .int (nI q))]) S.1 S.2.1 dX6_mixAlert_24 hl (by decide) rfl (fun ls hl => ?_)
  refine lv_iinc (v := 2) (lv' := [(6, .int 2), (4, .long (ma1 x r k d 2)), (0, .ref (ad (0, 0, 0))), (1, .long d), (3, .int (nI q))]) S.1 S.2.1 dX6_mixAlert_26 hl (k := 1) rfl (by decide) (by decide) rfl (fun ls hl => ?_)
  refine lv_goto (tgt := 6) S.1 S.2.1 dX6_mixAlert_29 (by decide) ?_
  refine lv_iload S.1 S.2.1 dX6_mixAlert_6 (lv_at hl 0 rfl) ?_
  refine lv_iconst (v := 2) S.1 S.2.1 dX6_mixAlert_8 (by decide) ?_
  refine lv_icmp_gt (tgt := 32) S.1 S.2.1 dX6_mixAlert_9 (by decide) (fun h9 => absurd h9 (by decide)) (fun _ => ?_)
  refine lv_lload S.1 S.2.1 dX6_mixAlert_12 (lv_at hl 1 rfl) ?_
  refine lv_aload_n S.1 S.2.1 dX6_mixAlert_14 rfl (lv_at hl 2 rfl) ?_
  refine lv_iload_n S.1 S.2.1 dX6_mixAlert_15 rfl (lv_at hl 4 rfl) ?_
  refine lv_iload S.1 S.2.1 dX6_mixAlert_16 (lv_at hl 0 rfl) ?_
  refine hm_uV (As := [.int (nI q), .int 2]) (rest := [.long (ma1 x r k d 2)]) (st1 := [.int (aaF x r k 2), .long (ma1 x r k d 2)]) S hE hG (c_X6_alertAt l g ad M x hx w0 q r k 2 hq (by omega)) (hm_gV hb_529 hb_530 hb_531 hb_2 hb_532) hd_X6_alertAt rfl hX rfl rfl ⟨Nat.le_of_ble_eq_true rfl, Nat.le_of_ble_eq_true rfl⟩ rfl hl.1 rfl (Nat.le_of_ble_eq_true rfl) dX6_mixAlert_18 ⟨Nat.le_of_ble_eq_true rfl, Nat.le_of_ble_eq_true rfl⟩ rfl (fun H locs hG => ?_)
  refine hm_uS (As := [.long (ma1 x r k d 2), .int (aaF x r k 2)]) (rest := []) (st1 := [.long (ma1 x r k d 3)]) S hE hG (c_X6_mix l g ad M (ma1 x r k d 2) (aaF x r k 2)) (hm_gS hb_494 hb_495 hb_2 hb_496) hd_X6_mix ⟨Nat.le_of_ble_eq_true rfl, Nat.le_of_ble_eq_true rfl⟩ rfl hl.1 rfl (Nat.le_of_ble_eq_true rfl) dX6_mixAlert_21 ⟨Nat.le_of_ble_eq_true rfl, Nat.le_of_ble_eq_true rfl⟩ rfl (fun H locs hG => ?_)
  refine lv_lstore (lv' := [(4, .long (ma1 x r k d 3)), (6, .int 2), (0, .ref (ad (0, 0, 0))), (1, .long d), (3, .int (nI q))]) S.1 S.2.1 dX6_mixAlert_24 hl (by decide) rfl (fun ls hl => ?_)
  refine lv_iinc (v := 3) (lv' := [(6, .int 3), (4, .long (ma1 x r k d 3)), (0, .ref (ad (0, 0, 0))), (1, .long d), (3, .int (nI q))]) S.1 S.2.1 dX6_mixAlert_26 hl (k := 1) rfl (by decide) (by decide) rfl (fun ls hl => ?_)
  refine lv_goto (tgt := 6) S.1 S.2.1 dX6_mixAlert_29 (by decide) ?_
  refine lv_iload S.1 S.2.1 dX6_mixAlert_6 (lv_at hl 0 rfl) ?_
  refine lv_iconst (v := 2) S.1 S.2.1 dX6_mixAlert_8 (by decide) ?_
  refine lv_icmp_gt (tgt := 32) S.1 S.2.1 dX6_mixAlert_9 (by decide) (fun _ => ?_) (fun h9 => absurd (by decide) h9)
  refine lv_aload_n S.1 S.2.1 dX6_mixAlert_32 rfl (lv_at hl 2 rfl) ?_
  refine lv_iload_n S.1 S.2.1 dX6_mixAlert_33 rfl (lv_at hl 4 rfl) ?_
  refine lv_iconst (v := 0) S.1 S.2.1 dX6_mixAlert_34 (by decide) ?_
  refine hm_uV (As := [.int (nI q), .int 0]) (rest := []) (st1 := [.int (nI r)]) S hE hG (c_X6_alertAt l g ad M x hx w0 q r k 0 hq (by omega)) (hm_gV hb_529 hb_530 hb_531 hb_2 hb_532) hd_X6_alertAt rfl hX rfl rfl ⟨Nat.le_of_ble_eq_true rfl, Nat.le_of_ble_eq_true rfl⟩ rfl hl.1 rfl (Nat.le_of_ble_eq_true rfl) dX6_mixAlert_35 ⟨Nat.le_of_ble_eq_true rfl, Nat.le_of_ble_eq_true rfl⟩ rfl (fun H locs hG => ?_)
  refine lv_istore (lv' := [(6, .int (nI r)), (4, .long (ma1 x r k d 3)), (0, .ref (ad (0, 0, 0))), (1, .long d), (3, .int (nI q))]) S.1 S.2.1 dX6_mixAlert_38 hl (by decide) rfl (fun ls hl => ?_)
  refine lv_aload_n S.1 S.2.1 dX6_mixAlert_40 rfl (lv_at hl 2 rfl) ?_
  refine lv_iload_n S.1 S.2.1 dX6_mixAlert_41 rfl (lv_at hl 4 rfl) ?_
  refine lv_iconst (v := 1) S.1 S.2.1 dX6_mixAlert_42 (by decide) ?_
  refine hm_uV (As := [.int (nI q), .int 1]) (rest := []) (st1 := [.int (nI k)]) S hE hG (c_X6_alertAt l g ad M x hx w0 q r k 1 hq (by omega)) (hm_gV hb_529 hb_530 hb_531 hb_2 hb_532) hd_X6_alertAt rfl hX rfl rfl ⟨Nat.le_of_ble_eq_true rfl, Nat.le_of_ble_eq_true rfl⟩ rfl hl.1 rfl (Nat.le_of_ble_eq_true rfl) dX6_mixAlert_43 ⟨Nat.le_of_ble_eq_true rfl, Nat.le_of_ble_eq_true rfl⟩ rfl (fun H locs hG => ?_)
  refine lv_istore (lv' := [(7, .int (nI k)), (6, .int (nI r)), (4, .long (ma1 x r k d 3)), (0, .ref (ad (0, 0, 0))), (1, .long d), (3, .int (nI q))]) S.1 S.2.1 dX6_mixAlert_46 hl (by decide) rfl (fun ls hl => ?_)
  refine lv_iconst (v := 0) S.1 S.2.1 dX6_mixAlert_48 (by decide) ?_
  refine lv_istore (lv' := [(8, .int 0), (7, .int (nI k)), (6, .int (nI r)), (4, .long (ma1 x r k d 3)), (0, .ref (ad (0, 0, 0))), (1, .long d), (3, .int (nI q))]) S.1 S.2.1 dX6_mixAlert_49 hl (by decide) rfl (fun ls hl => ?_)
  refine lv_iload S.1 S.2.1 dX6_mixAlert_51 (lv_at hl 0 rfl) ?_
  refine lv_iconst (v := 2) S.1 S.2.1 dX6_mixAlert_53 (by decide) ?_
  refine lv_icmp_gt (tgt := 80) S.1 S.2.1 dX6_mixAlert_54 (by decide) (fun h9 => absurd h9 (by decide)) (fun _ => ?_)
  refine lv_lload S.1 S.2.1 dX6_mixAlert_57 (lv_at hl 3 rfl) ?_
  refine lv_aload_n S.1 S.2.1 dX6_mixAlert_59 rfl (lv_at hl 4 rfl) ?_
  refine lv_iload S.1 S.2.1 dX6_mixAlert_60 (lv_at hl 2 rfl) ?_
  refine lv_iload S.1 S.2.1 dX6_mixAlert_62 (lv_at hl 1 rfl) ?_
  refine lv_iload S.1 S.2.1 dX6_mixAlert_64 (lv_at hl 0 rfl) ?_
  refine hm_uV (As := [.int (nI r), .int (nI k), .int 0]) (rest := [.long (ma1 x r k d 3)]) (st1 := [.int (alW x r k 0), .long (ma1 x r k d 3)]) S hE hG (c_X6_alert l g ad M x hx r hq.1 k hq.2.1 0 (by omega)) (hm_gV hb_537 hb_538 hb_539 hb_2 hb_540) hd_X6_alert rfl hX rfl rfl ⟨Nat.le_of_ble_eq_true rfl, Nat.le_of_ble_eq_true rfl⟩ rfl hl.1 rfl (Nat.le_of_ble_eq_true rfl) dX6_mixAlert_66 ⟨Nat.le_of_ble_eq_true rfl, Nat.le_of_ble_eq_true rfl⟩ rfl (fun H locs hG => ?_)
  refine hm_uS (As := [.long (ma1 x r k d 3), .int (alW x r k 0)]) (rest := []) (st1 := [.long (ma2 x r k d 1)]) S hE hG (c_X6_mix l g ad M (ma1 x r k d 3) (alW x r k 0)) (hm_gS hb_494 hb_495 hb_2 hb_496) hd_X6_mix ⟨Nat.le_of_ble_eq_true rfl, Nat.le_of_ble_eq_true rfl⟩ rfl hl.1 rfl (Nat.le_of_ble_eq_true rfl) dX6_mixAlert_69 ⟨Nat.le_of_ble_eq_true rfl, Nat.le_of_ble_eq_true rfl⟩ rfl (fun H locs hG => ?_)
  refine lv_lstore (lv' := [(4, .long (ma2 x r k d 1)), (8, .int 0), (7, .int (nI k)), (6, .int (nI r)), (0, .ref (ad (0, 0, 0))), (1, .long d), (3, .int (nI q))]) S.1 S.2.1 dX6_mixAlert_72 hl (by decide) rfl (fun ls hl => ?_)
  refine lv_iinc (v := 1) (lv' := [(8, .int 1), (4, .long (ma2 x r k d 1)), (7, .int (nI k)), (6, .int (nI r)), (0, .ref (ad (0, 0, 0))), (1, .long d), (3, .int (nI q))]) S.1 S.2.1 dX6_mixAlert_74 hl (k := 1) rfl (by decide) (by decide) rfl (fun ls hl => ?_)
  refine lv_goto (tgt := 51) S.1 S.2.1 dX6_mixAlert_77 (by decide) ?_
  refine lv_iload S.1 S.2.1 dX6_mixAlert_51 (lv_at hl 0 rfl) ?_
  refine lv_iconst (v := 2) S.1 S.2.1 dX6_mixAlert_53 (by decide) ?_
  refine lv_icmp_gt (tgt := 80) S.1 S.2.1 dX6_mixAlert_54 (by decide) (fun h9 => absurd h9 (by decide)) (fun _ => ?_)
  refine lv_lload S.1 S.2.1 dX6_mixAlert_57 (lv_at hl 1 rfl) ?_
  refine lv_aload_n S.1 S.2.1 dX6_mixAlert_59 rfl (lv_at hl 4 rfl) ?_
  refine lv_iload S.1 S.2.1 dX6_mixAlert_60 (lv_at hl 3 rfl) ?_
  refine lv_iload S.1 S.2.1 dX6_mixAlert_62 (lv_at hl 2 rfl) ?_
  refine lv_iload S.1 S.2.1 dX6_mixAlert_64 (lv_at hl 0 rfl) ?_
  refine hm_uV (As := [.int (nI r), .int (nI k), .int 1]) (rest := [.long (ma2 x r k d 1)]) (st1 := [.int (alW x r k 1), .long (ma2 x r k d 1)]) S hE hG (c_X6_alert l g ad M x hx r hq.1 k hq.2.1 1 (by omega)) (hm_gV hb_537 hb_538 hb_539 hb_2 hb_540) hd_X6_alert rfl hX rfl rfl ⟨Nat.le_of_ble_eq_true rfl, Nat.le_of_ble_eq_true rfl⟩ rfl hl.1 rfl (Nat.le_of_ble_eq_true rfl) dX6_mixAlert_66 ⟨Nat.le_of_ble_eq_true rfl, Nat.le_of_ble_eq_true rfl⟩ rfl (fun H locs hG => ?_)
  refine hm_uS (As := [.long (ma2 x r k d 1), .int (alW x r k 1)]) (rest := []) (st1 := [.long (ma2 x r k d 2)]) S hE hG (c_X6_mix l g ad M (ma2 x r k d 1) (alW x r k 1)) (hm_gS hb_494 hb_495 hb_2 hb_496) hd_X6_mix ⟨Nat.le_of_ble_eq_true rfl, Nat.le_of_ble_eq_true rfl⟩ rfl hl.1 rfl (Nat.le_of_ble_eq_true rfl) dX6_mixAlert_69 ⟨Nat.le_of_ble_eq_true rfl, Nat.le_of_ble_eq_true rfl⟩ rfl (fun H locs hG => ?_)
  refine lv_lstore (lv' := [(4, .long (ma2 x r k d 2)), (8, .int 1), (7, .int (nI k)), (6, .int (nI r)), (0, .ref (ad (0, 0, 0))), (1, .long d), (3, .int (nI q))]) S.1 S.2.1 dX6_mixAlert_72 hl (by decide) rfl (fun ls hl => ?_)
  refine lv_iinc (v := 2) (lv' := [(8, .int 2), (4, .long (ma2 x r k d 2)), (7, .int (nI k)), (6, .int (nI r)), (0, .ref (ad (0, 0, 0))), (1, .long d), (3, .int (nI q))]) S.1 S.2.1 dX6_mixAlert_74 hl (k := 1) rfl (by decide) (by decide) rfl (fun ls hl => ?_)
  refine lv_goto (tgt := 51) S.1 S.2.1 dX6_mixAlert_77 (by decide) ?_
  refine lv_iload S.1 S.2.1 dX6_mixAlert_51 (lv_at hl 0 rfl) ?_
  refine lv_iconst (v := 2) S.1 S.2.1 dX6_mixAlert_53 (by decide) ?_
  refine lv_icmp_gt (tgt := 80) S.1 S.2.1 dX6_mixAlert_54 (by decide) (fun h9 => absurd h9 (by decide)) (fun _ => ?_)
  refine lv_lload S.1 S.2.1 dX6_mixAlert_57 (lv_at hl 1 rfl) ?_
  refine lv_aload_n S.1 S.2.1 dX6_mixAlert_59 rfl (lv_at hl 4 rfl) ?_
  refine lv_iload S.1 S.2.1 dX6_mixAlert_60 (lv_at hl 3 rfl) ?_
  refine lv_iload S.1 S.2.1 dX6_mixAlert_62 (lv_at hl 2 rfl) ?_
  refine lv_iload S.1 S.2.1 dX6_mixAlert_64 (lv_at hl 0 rfl) ?_
  refine hm_uV (As := [.int (nI r), .int (nI k), .int 2]) (rest := [.long (ma2 x r k d 2)]) (st1 := [.int (alW x r k 2), .long (ma2 x r k d 2)]) S hE hG (c_X6_alert l g ad M x hx r hq.1 k hq.2.1 2 (by omega)) (hm_gV hb_537 hb_538 hb_539 hb_2 hb_540) hd_X6_alert rfl hX rfl rfl ⟨Nat.le_of_ble_eq_true rfl, Nat.le_of_ble_eq_true rfl⟩ rfl hl.1 rfl (Nat.le_of_ble_eq_true rfl) dX6_mixAlert_66 ⟨Nat.le_of_ble_eq_true rfl, Nat.le_of_ble_eq_true rfl⟩ rfl (fun H locs hG => ?_)
  refine hm_uS (As := [.long (ma2 x r k d 2), .int (alW x r k 2)]) (rest := []) (st1 := [.long (ma2 x r k d 3)]) S hE hG (c_X6_mix l g ad M (ma2 x r k d 2) (alW x r k 2)) (hm_gS hb_494 hb_495 hb_2 hb_496) hd_X6_mix ⟨Nat.le_of_ble_eq_true rfl, Nat.le_of_ble_eq_true rfl⟩ rfl hl.1 rfl (Nat.le_of_ble_eq_true rfl) dX6_mixAlert_69 ⟨Nat.le_of_ble_eq_true rfl, Nat.le_of_ble_eq_true rfl⟩ rfl (fun H locs hG => ?_)
  refine lv_lstore (lv' := [(4, .long (ma2 x r k d 3)), (8, .int 2), (7, .int (nI k)), (6, .int (nI r)), (0, .ref (ad (0, 0, 0))), (1, .long d), (3, .int (nI q))]) S.1 S.2.1 dX6_mixAlert_72 hl (by decide) rfl (fun ls hl => ?_)
  refine lv_iinc (v := 3) (lv' := [(8, .int 3), (4, .long (ma2 x r k d 3)), (7, .int (nI k)), (6, .int (nI r)), (0, .ref (ad (0, 0, 0))), (1, .long d), (3, .int (nI q))]) S.1 S.2.1 dX6_mixAlert_74 hl (k := 1) rfl (by decide) (by decide) rfl (fun ls hl => ?_)
  refine lv_goto (tgt := 51) S.1 S.2.1 dX6_mixAlert_77 (by decide) ?_
  refine lv_iload S.1 S.2.1 dX6_mixAlert_51 (lv_at hl 0 rfl) ?_
  refine lv_iconst (v := 2) S.1 S.2.1 dX6_mixAlert_53 (by decide) ?_
  refine lv_icmp_gt (tgt := 80) S.1 S.2.1 dX6_mixAlert_54 (by decide) (fun _ => ?_) (fun h9 => absurd (by decide) h9)
  refine lv_lload S.1 S.2.1 dX6_mixAlert_80 (lv_at hl 1 rfl) ?_
  exact hm_lret S hG hr hlk (⟨rfl, rfl, rfl⟩) (Nat.le_of_ble_eq_true rfl) (Nat.le_of_ble_eq_true rfl) dX6_mixAlert_82

abbrev rm_X6_mixHush : Room := { frames := 7, cells := 0, slots := 0, locals := 165 }
set_option maxHeartbeats 4000000 in
set_option maxRecDepth 100000 in
theorem c_X6_mixHush (l : Launch) (g : GV) (ad : AD) (M : CT) (x : XD) (hx : hasX g ad M x) (d : Int64) (h : Nat) (hh9 : h < xH x) : hm_Met l yX6_mixHush cX6_mixHush 7 (some .long) rm_X6_mixHush g ad M [.ref (ad (0, 0, 0)), .long d, .int (nI h)] (hm_pU ad M (some (.long (mh2 x h d)))) := by
  refine hm_start (own := RX6) (by decide) rfl (Nat.le_of_ble_eq_true rfl) ?_
  intro p e s m args below meth c S hr hlk hnm hE hG ls hl
  have hl : lv_has ls 7 [(0, .ref (ad (0, 0, 0))), (1, .long d), (3, .int (nI h))] := hl
  obtain ⟨hX, hLs, hLr, hLh, h7, hLg, h70, hSe, hRu, hHu, hGr, hS6, hR6, hH5⟩ := id hx
  obtain ⟨fs1, hb1⟩ := hLs.ob
  obtain ⟨fs2, hb2⟩ := hLr.ob
  obtain ⟨fs3, hb3⟩ := hLh.ob
  refine lv_lload_n S.1 S.2.1 dX6_mixHush_0 rfl (lv_at hl 1 rfl) ?_
  refine lv_lstore (lv' := [(4, .long d), (0, .ref (ad (0, 0, 0))), (1, .long d), (3, .int (nI h))]) S.1 S.2.1 dX6_mixHush_1 hl (by decide) rfl (fun ls hl => ?_)
  refine lv_iconst (v := 0) S.1 S.2.1 dX6_mixHush_3 (by decide) ?_
  refine lv_istore (lv' := [(6, .int 0), (4, .long d), (0, .ref (ad (0, 0, 0))), (1, .long d), (3, .int (nI h))]) S.1 S.2.1 dX6_mixHush_4 hl (by decide) rfl (fun ls hl => ?_)
  refine lv_iload S.1 S.2.1 dX6_mixHush_6 (lv_at hl 0 rfl) ?_
  refine lv_iconst (v := 3) S.1 S.2.1 dX6_mixHush_8 (by decide) ?_
  refine lv_icmp_gt (tgt := 32) S.1 S.2.1 dX6_mixHush_9 (by decide) (fun h9 => absurd h9 (by decide)) (fun _ => ?_)
  refine lv_lload S.1 S.2.1 dX6_mixHush_12 (lv_at hl 1 rfl) ?_
  refine lv_aload_n S.1 S.2.1 dX6_mixHush_14 rfl (lv_at hl 2 rfl) ?_
  refine lv_iload_n S.1 S.2.1 dX6_mixHush_15 rfl (lv_at hl 4 rfl) ?_
  refine lv_iload S.1 S.2.1 dX6_mixHush_16 (lv_at hl 0 rfl) ?_
  refine hm_uV (As := [.int (nI h), .int 0]) (rest := [.long d]) (st1 := [.int (ohF x h 0), .long d]) S hE hG (c_X6_ofHush l g ad M x hx h hh9 0 (by omega)) (hm_gV hb_546 hb_547 hb_548 hb_2 hb_549) hd_X6_ofHush rfl hX rfl rfl ⟨Nat.le_of_ble_eq_true rfl, Nat.le_of_ble_eq_true rfl⟩ rfl hl.1 rfl (Nat.le_of_ble_eq_true rfl) dX6_mixHush_18 ⟨Nat.le_of_ble_eq_true rfl, Nat.le_of_ble_eq_true rfl⟩ rfl (fun H locs hG => ?_)
  refine hm_uS (As := [.long d, .int (ohF x h 0)]) (rest := []) (st1 := [.long (mh1 x h d 1)]) S hE hG (c_X6_mix l g ad M d (ohF x h 0)) (hm_gS hb_494 hb_495 hb_2 hb_496) hd_X6_mix ⟨Nat.le_of_ble_eq_true rfl, Nat.le_of_ble_eq_true rfl⟩ rfl hl.1 rfl (Nat.le_of_ble_eq_true rfl) dX6_mixHush_21 ⟨Nat.le_of_ble_eq_true rfl, Nat.le_of_ble_eq_true rfl⟩ rfl (fun H locs hG => ?_)
  refine lv_lstore (lv' := [(4, .long (mh1 x h d 1)), (6, .int 0), (0, .ref (ad (0, 0, 0))), (1, .long d), (3, .int (nI h))]) S.1 S.2.1 dX6_mixHush_24 hl (by decide) rfl (fun ls hl => ?_)
  refine lv_iinc (v := 1) (lv' := [(6, .int 1), (4, .long (mh1 x h d 1)), (0, .ref (ad (0, 0, 0))), (1, .long d), (3, .int (nI h))]) S.1 S.2.1 dX6_mixHush_26 hl (k := 1) rfl (by decide) (by decide) rfl (fun ls hl => ?_)
  refine lv_goto (tgt := 6) S.1 S.2.1 dX6_mixHush_29 (by decide) ?_
  refine lv_iload S.1 S.2.1 dX6_mixHush_6 (lv_at hl 0 rfl) ?_
  refine lv_iconst (v := 3) S.1 S.2.1 dX6_mixHush_8 (by decide) ?_
  refine lv_icmp_gt (tgt := 32) S.1 S.2.1 dX6_mixHush_9 (by decide) (fun h9 => absurd h9 (by decide)) (fun _ => ?_)
  refine lv_lload S.1 S.2.1 dX6_mixHush_12 (lv_at hl 1 rfl) ?_
  refine lv_aload_n S.1 S.2.1 dX6_mixHush_14 rfl (lv_at hl 2 rfl) ?_
  refine lv_iload_n S.1 S.2.1 dX6_mixHush_15 rfl (lv_at hl 4 rfl) ?_
  refine lv_iload S.1 S.2.1 dX6_mixHush_16 (lv_at hl 0 rfl) ?_
  refine hm_uV (As := [.int (nI h), .int 1]) (rest := [.long (mh1 x h d 1)]) (st1 := [.int (ohF x h 1), .long (mh1 x h d 1)]) S hE hG (c_X6_ofHush l g ad M x hx h hh9 1 (by omega)) (hm_gV hb_546 hb_547 hb_548 hb_2 hb_549) hd_X6_ofHush rfl hX rfl rfl ⟨Nat.le_of_ble_eq_true rfl, Nat.le_of_ble_eq_true rfl⟩ rfl hl.1 rfl (Nat.le_of_ble_eq_true rfl) dX6_mixHush_18 ⟨Nat.le_of_ble_eq_true rfl, Nat.le_of_ble_eq_true rfl⟩ rfl (fun H locs hG => ?_)
  refine hm_uS (As := [.long (mh1 x h d 1), .int (ohF x h 1)]) (rest := []) (st1 := [.long (mh1 x h d 2)]) S hE hG (c_X6_mix l g ad M (mh1 x h d 1) (ohF x h 1)) (hm_gS hb_494 hb_495 hb_2 hb_496) hd_X6_mix ⟨Nat.le_of_ble_eq_true rfl, Nat.le_of_ble_eq_true rfl⟩ rfl hl.1 rfl (Nat.le_of_ble_eq_true rfl) dX6_mixHush_21 ⟨Nat.le_of_ble_eq_true rfl, Nat.le_of_ble_eq_true rfl⟩ rfl (fun H locs hG => ?_)
  refine lv_lstore (lv' := [(4, .long (mh1 x h d 2)), (6, .int 1), (0, .ref (ad (0, 0, 0))), (1, .long d), (3, .int (nI h))]) S.1 S.2.1 dX6_mixHush_24 hl (by decide) rfl (fun ls hl => ?_)
  refine lv_iinc (v := 2) (lv' := [(6, .int 2), (4, .long (mh1 x h d 2)), (0, .ref (ad (0, 0, 0))), (1, .long d), (3, .int (nI h))]) S.1 S.2.1 dX6_mixHush_26 hl (k := 1) rfl (by decide) (by decide) rfl (fun ls hl => ?_)
  refine lv_goto (tgt := 6) S.1 S.2.1 dX6_mixHush_29 (by decide) ?_
  refine lv_iload S.1 S.2.1 dX6_mixHush_6 (lv_at hl 0 rfl) ?_
  refine lv_iconst (v := 3) S.1 S.2.1 dX6_mixHush_8 (by decide) ?_
  refine lv_icmp_gt (tgt := 32) S.1 S.2.1 dX6_mixHush_9 (by decide) (fun h9 => absurd h9 (by decide)) (fun _ => ?_)
  refine lv_lload S.1 S.2.1 dX6_mixHush_12 (lv_at hl 1 rfl) ?_
  refine lv_aload_n S.1 S.2.1 dX6_mixHush_14 rfl (lv_at hl 2 rfl) ?_
  refine lv_iload_n S.1 S.2.1 dX6_mixHush_15 rfl (lv_at hl 4 rfl) ?_
  refine lv_iload S.1 S.2.1 dX6_mixHush_16 (lv_at hl 0 rfl) ?_
  refine hm_uV (As := [.int (nI h), .int 2]) (rest := [.long (mh1 x h d 2)]) (st1 := [.int (ohF x h 2), .long (mh1 x h d 2)]) S hE hG (c_X6_ofHush l g ad M x hx h hh9 2 (by omega)) (hm_gV hb_546 hb_547 hb_548 hb_2 hb_549) hd_X6_ofHush rfl hX rfl rfl ⟨Nat.le_of_ble_eq_true rfl, Nat.le_of_ble_eq_true rfl⟩ rfl hl.1 rfl (Nat.le_of_ble_eq_true rfl) dX6_mixHush_18 ⟨Nat.le_of_ble_eq_true rfl, Nat.le_of_ble_eq_true rfl⟩ rfl (fun H locs hG => ?_)
  refine hm_uS (As := [.long (mh1 x h d 2), .int (ohF x h 2)]) (rest := []) (st1 := [.long (mh1 x h d 3)]) S hE hG (c_X6_mix l g ad M (mh1 x h d 2) (ohF x h 2)) (hm_gS hb_494 hb_495 hb_2 hb_496) hd_X6_mix ⟨Nat.le_of_ble_eq_true rfl, Nat.le_of_ble_eq_true rfl⟩ rfl hl.1 rfl (Nat.le_of_ble_eq_true rfl) dX6_mixHush_21 ⟨Nat.le_of_ble_eq_true rfl, Nat.le_of_ble_eq_true rfl⟩ rfl (fun H locs hG => ?_)
  refine lv_lstore (lv' := [(4, .long (mh1 x h d 3)), (6, .int 2), (0, .ref (ad (0, 0, 0))), (1, .long d), (3, .int (nI h))]) S.1 S.2.1 dX6_mixHush_24 hl (by decide) rfl (fun ls hl => ?_)
  refine lv_iinc (v := 3) (lv' := [(6, .int 3), (4, .long (mh1 x h d 3)), (0, .ref (ad (0, 0, 0))), (1, .long d), (3, .int (nI h))]) S.1 S.2.1 dX6_mixHush_26 hl (k := 1) rfl (by decide) (by decide) rfl (fun ls hl => ?_)
  refine lv_goto (tgt := 6) S.1 S.2.1 dX6_mixHush_29 (by decide) ?_
  refine lv_iload S.1 S.2.1 dX6_mixHush_6 (lv_at hl 0 rfl) ?_
  refine lv_iconst (v := 3) S.1 S.2.1 dX6_mixHush_8 (by decide) ?_
  refine lv_icmp_gt (tgt := 32) S.1 S.2.1 dX6_mixHush_9 (by decide) (fun h9 => absurd h9 (by decide)) (fun _ => ?_)
  refine lv_lload S.1 S.2.1 dX6_mixHush_12 (lv_at hl 1 rfl) ?_
  refine lv_aload_n S.1 S.2.1 dX6_mixHush_14 rfl (lv_at hl 2 rfl) ?_
  refine lv_iload_n S.1 S.2.1 dX6_mixHush_15 rfl (lv_at hl 4 rfl) ?_
  refine lv_iload S.1 S.2.1 dX6_mixHush_16 (lv_at hl 0 rfl) ?_
  refine hm_uV (As := [.int (nI h), .int 3]) (rest := [.long (mh1 x h d 3)]) (st1 := [.int (ohF x h 3), .long (mh1 x h d 3)]) S hE hG (c_X6_ofHush l g ad M x hx h hh9 3 (by omega)) (hm_gV hb_546 hb_547 hb_548 hb_2 hb_549) hd_X6_ofHush rfl hX rfl rfl ⟨Nat.le_of_ble_eq_true rfl, Nat.le_of_ble_eq_true rfl⟩ rfl hl.1 rfl (Nat.le_of_ble_eq_true rfl) dX6_mixHush_18 ⟨Nat.le_of_ble_eq_true rfl, Nat.le_of_ble_eq_true rfl⟩ rfl (fun H locs hG => ?_)
  refine hm_uS (As := [.long (mh1 x h d 3), .int (ohF x h 3)]) (rest := []) (st1 := [.long (mh1 x h d 4)]) S hE hG (c_X6_mix l g ad M (mh1 x h d 3) (ohF x h 3)) (hm_gS hb_494 hb_495 hb_2 hb_496) hd_X6_mix ⟨Nat.le_of_ble_eq_true rfl, Nat.le_of_ble_eq_true rfl⟩ rfl hl.1 rfl (Nat.le_of_ble_eq_true rfl) dX6_mixHush_21 ⟨Nat.le_of_ble_eq_true rfl, Nat.le_of_ble_eq_true rfl⟩ rfl (fun H locs hG => ?_)
  refine lv_lstore (lv' := [(4, .long (mh1 x h d 4)), (6, .int 3), (0, .ref (ad (0, 0, 0))), (1, .long d), (3, .int (nI h))]) S.1 S.2.1 dX6_mixHush_24 hl (by decide) rfl (fun ls hl => ?_)
  refine lv_iinc (v := 4) (lv' := [(6, .int 4), (4, .long (mh1 x h d 4)), (0, .ref (ad (0, 0, 0))), (1, .long d), (3, .int (nI h))]) S.1 S.2.1 dX6_mixHush_26 hl (k := 1) rfl (by decide) (by decide) rfl (fun ls hl => ?_)
  refine lv_goto (tgt := 6) S.1 S.2.1 dX6_mixHush_29 (by decide) ?_
  refine lv_iload S.1 S.2.1 dX6_mixHush_6 (lv_at hl 0 rfl) ?_
  refine lv_iconst (v := 3) S.1 S.2.1 dX6_mixHush_8 (by decide) ?_
  refine lv_icmp_gt (tgt := 32) S.1 S.2.1 dX6_mixHush_9 (by decide) (fun _ => ?_) (fun h9 => absurd (by decide) h9)
  refine lv_lload S.1 S.2.1 dX6_mixHush_32 (lv_at hl 1 rfl) ?_
  refine lv_aload_n S.1 S.2.1 dX6_mixHush_34 rfl (lv_at hl 2 rfl) ?_
  refine lv_iload_n S.1 S.2.1 dX6_mixHush_35 rfl (lv_at hl 4 rfl) ?_
  refine hm_uV (As := [.int (nI h)]) (rest := [.long (mh1 x h d 4)]) (st1 := [.int (nI (clX x (nI h))), .long (mh1 x h d 4)]) S hE hG (c_X6_countLoud l g ad M x hx (nI h)) (hm_gV hb_276 hb_277 hb_278 hb_2 hb_279) hd_X6_countLoud rfl hX rfl rfl ⟨Nat.le_of_ble_eq_true rfl, Nat.le_of_ble_eq_true rfl⟩ rfl hl.1 rfl (Nat.le_of_ble_eq_true rfl) dX6_mixHush_36 ⟨Nat.le_of_ble_eq_true rfl, Nat.le_of_ble_eq_true rfl⟩ rfl (fun H locs hG => ?_)
  refine hm_uS (As := [.long (mh1 x h d 4), .int (nI (clX x (nI h)))]) (rest := []) (st1 := [.long (mh2 x h d)]) S hE hG (c_X6_mix l g ad M (mh1 x h d 4) (nI (clX x (nI h)))) (hm_gS hb_494 hb_495 hb_2 hb_496) hd_X6_mix ⟨Nat.le_of_ble_eq_true rfl, Nat.le_of_ble_eq_true rfl⟩ rfl hl.1 rfl (Nat.le_of_ble_eq_true rfl) dX6_mixHush_39 ⟨Nat.le_of_ble_eq_true rfl, Nat.le_of_ble_eq_true rfl⟩ rfl (fun H locs hG => ?_)
  exact hm_lret S hG hr hlk (⟨rfl, rfl, rfl⟩) (Nat.le_of_ble_eq_true rfl) (Nat.le_of_ble_eq_true rfl) dX6_mixHush_42

abbrev rm_X6_mixNotices : Room := { frames := 2, cells := 0, slots := 0, locals := 44 }
set_option maxHeartbeats 4000000 in
set_option maxRecDepth 100000 in
theorem c_X6_mixNotices (l : Launch) (g : GV) (ad : AD) (M : CT) (x : XD) (hx : hasX g ad M x) (d : Int64) : hm_Met l yX6_mixNotices cX6_mixNotices 7 (some .long) rm_X6_mixNotices g ad M [.ref (ad (0, 0, 0)), .long d] (hm_pU ad M (some (.long (mn2 x d (lHe (xL x)))))) := by
  refine hm_start (own := RX6) (by decide) rfl (Nat.le_of_ble_eq_true rfl) ?_
  intro p e s m args below meth c S hr hlk hnm hE hG ls hl
  have hl : lv_has ls 7 [(0, .ref (ad (0, 0, 0))), (1, .long d)] := hl
  obtain ⟨hX, hLs, hLr, hLh, h7, hLg, h70, hSe, hRu, hHu, hGr, hS6, hR6, hH5⟩ := id hx
  obtain ⟨fs1, hb1⟩ := hLs.ob
  obtain ⟨fs2, hb2⟩ := hLr.ob
  obtain ⟨fs3, hb3⟩ := hLh.ob
  have hhe : lHe (xL x) ≤ 30 := hLg.2.2.2.2
  refine lv_lload_n S.1 S.2.1 dX6_mixNotices_0 rfl (lv_at hl 1 rfl) ?_
  refine lv_lstore_n (lv' := [(3, .long d), (0, .ref (ad (0, 0, 0))), (1, .long d)]) S.1 S.2.1 dX6_mixNotices_1 rfl hl (by decide) rfl (fun ls hl => ?_)
  refine lv_iconst (v := 0) S.1 S.2.1 dX6_mixNotices_2 (by decide) ?_
  refine lv_istore (lv' := [(5, .int 0), (3, .long d), (0, .ref (ad (0, 0, 0))), (1, .long d)]) S.1 S.2.1 dX6_mixNotices_3 hl (by decide) rfl (fun ls hl => ?_)
  have L5_0 : ∀ (n : Nat) (b : Nat), n + b = lHe (xL x) → ∀ (H : Heap) (locs : List Loc) (ls : Array Slot), hm_G g ad M s.heap H locs → lv_has ls 7 [(0, .ref (ad (0, 0, 0))), (3, .long (mn2 x d b)), (5, .int (nI b))] → W p l e rm_X6_mixNotices s m args below meth c H locs 0 0 (MQ below (hm_Q g (hm_pU ad M (some (.long (mn2 x d (lHe (xL x))))))) args s rm_X6_mixNotices.cells rm_X6_mixNotices.slots (hm_A g)) (F0 m 5 ls []) := by
    intro n
    induction n with
    | zero =>
      intro b hb0 H locs ls hG hl
      obtain rfl : b = lHe (xL x) := by omega
      refine lv_iload S.1 S.2.1 dX6_mixNotices_5 (lv_at hl 2 rfl) ?_
      refine lv_aload_n S.1 S.2.1 dX6_mixNotices_7 rfl (lv_at hl 0 rfl) ?_
      refine hm_get (k := 4) S hE hG hX rfl rfl hi_X60 (by decide) hb_26 rfl rfl dX6_mixNotices_8 ?_
      refine hm_get (k := 2) S hE hG hLg.1 rfl rfl hi_X30 (by decide) hb_569 rfl rfl dX6_mixNotices_11 ?_
      refine lv_icmp_ge (tgt := 51) S.1 S.2.1 dX6_mixNotices_14 (by decide) (fun _ => ?_) (fun h9 => absurd (nI_le (Nat.le_refl _) (by omega)) h9)
      refine lv_lload_n S.1 S.2.1 dX6_mixNotices_51 rfl (lv_at hl 1 rfl) ?_
      exact hm_lret S hG hr hlk (⟨rfl, rfl, rfl⟩) (Nat.le_of_ble_eq_true rfl) (Nat.le_of_ble_eq_true rfl) dX6_mixNotices_52
    | succ n ih5 =>
      intro b hb0 H locs ls hG hl
      refine lv_iload S.1 S.2.1 dX6_mixNotices_5 (lv_at hl 2 rfl) ?_
      refine lv_aload_n S.1 S.2.1 dX6_mixNotices_7 rfl (lv_at hl 0 rfl) ?_
      refine hm_get (k := 4) S hE hG hX rfl rfl hi_X60 (by decide) hb_26 rfl rfl dX6_mixNotices_8 ?_
      refine hm_get (k := 2) S hE hG hLg.1 rfl rfl hi_X30 (by decide) hb_569 rfl rfl dX6_mixNotices_11 ?_
      refine lv_icmp_ge (tgt := 51) S.1 S.2.1 dX6_mixNotices_14 (by decide) (fun h9 => absurd h9 (nI_ge (show b < lHe (xL x) by omega) (by omega))) (fun _ => ?_)
      refine lv_iconst (v := 0) S.1 S.2.1 dX6_mixNotices_17 (by decide) ?_
      refine lv_istore (lv' := [(6, .int 0), (0, .ref (ad (0, 0, 0))), (3, .long (mn2 x d b)), (5, .int (nI b))]) S.1 S.2.1 dX6_mixNotices_18 hl (by decide) rfl (fun ls hl => ?_)
      refine lv_iload S.1 S.2.1 dX6_mixNotices_20 (lv_at hl 0 rfl) ?_
      refine lv_iconst (v := 4) S.1 S.2.1 dX6_mixNotices_22 (by decide) ?_
      refine lv_icmp_ge (tgt := 45) S.1 S.2.1 dX6_mixNotices_23 (by decide) (fun h9 => absurd h9 (by decide)) (fun _ => ?_)
      refine lv_lload_n S.1 S.2.1 dX6_mixNotices_26 rfl (lv_at hl 2 rfl) ?_
      refine lv_aload_n S.1 S.2.1 dX6_mixNotices_27 rfl (lv_at hl 1 rfl) ?_
      refine lv_iload S.1 S.2.1 dX6_mixNotices_28 (lv_at hl 3 rfl) ?_
      refine lv_iload S.1 S.2.1 dX6_mixNotices_30 (lv_at hl 0 rfl) ?_
      refine hm_uV (As := [.int (nI b), .int 0]) (rest := [.long (mn2 x d b)]) (st1 := [.int (foF (xL x) b 0), .long (mn2 x d b)]) S hE hG (c_X6_notice l g ad M x hx b 0 (by omega) (by omega)) (hm_gV hb_570 hb_571 hb_572 hb_2 hb_573) hd_X6_notice rfl hX rfl rfl ⟨Nat.le_of_ble_eq_true rfl, Nat.le_of_ble_eq_true rfl⟩ rfl hl.1 rfl (Nat.le_of_ble_eq_true rfl) dX6_mixNotices_32 ⟨Nat.le_of_ble_eq_true rfl, Nat.le_of_ble_eq_true rfl⟩ rfl (fun H locs hG => ?_)
      refine hm_uS (As := [.long (mn2 x d b), .int (foF (xL x) b 0)]) (rest := []) (st1 := [.long (mn1 x b (mn2 x d b) 1)]) S hE hG (c_X6_mix l g ad M (mn2 x d b) (foF (xL x) b 0)) (hm_gS hb_494 hb_495 hb_2 hb_496) hd_X6_mix ⟨Nat.le_of_ble_eq_true rfl, Nat.le_of_ble_eq_true rfl⟩ rfl hl.1 rfl (Nat.le_of_ble_eq_true rfl) dX6_mixNotices_35 ⟨Nat.le_of_ble_eq_true rfl, Nat.le_of_ble_eq_true rfl⟩ rfl (fun H locs hG => ?_)
      refine lv_lstore_n (lv' := [(3, .long (mn1 x b (mn2 x d b) 1)), (6, .int 0), (0, .ref (ad (0, 0, 0))), (5, .int (nI b))]) S.1 S.2.1 dX6_mixNotices_38 rfl hl (by decide) rfl (fun ls hl => ?_)
      refine lv_iinc (v := 1) (lv' := [(6, .int 1), (3, .long (mn1 x b (mn2 x d b) 1)), (0, .ref (ad (0, 0, 0))), (5, .int (nI b))]) S.1 S.2.1 dX6_mixNotices_39 hl (k := 1) rfl (by decide) (by decide) rfl (fun ls hl => ?_)
      refine lv_goto (tgt := 20) S.1 S.2.1 dX6_mixNotices_42 (by decide) ?_
      refine lv_iload S.1 S.2.1 dX6_mixNotices_20 (lv_at hl 0 rfl) ?_
      refine lv_iconst (v := 4) S.1 S.2.1 dX6_mixNotices_22 (by decide) ?_
      refine lv_icmp_ge (tgt := 45) S.1 S.2.1 dX6_mixNotices_23 (by decide) (fun h9 => absurd h9 (by decide)) (fun _ => ?_)
      refine lv_lload_n S.1 S.2.1 dX6_mixNotices_26 rfl (lv_at hl 1 rfl) ?_
      refine lv_aload_n S.1 S.2.1 dX6_mixNotices_27 rfl (lv_at hl 2 rfl) ?_
      refine lv_iload S.1 S.2.1 dX6_mixNotices_28 (lv_at hl 3 rfl) ?_
      refine lv_iload S.1 S.2.1 dX6_mixNotices_30 (lv_at hl 0 rfl) ?_
      refine hm_uV (As := [.int (nI b), .int 1]) (rest := [.long (mn1 x b (mn2 x d b) 1)]) (st1 := [.int (foF (xL x) b 1), .long (mn1 x b (mn2 x d b) 1)]) S hE hG (c_X6_notice l g ad M x hx b 1 (by omega) (by omega)) (hm_gV hb_570 hb_571 hb_572 hb_2 hb_573) hd_X6_notice rfl hX rfl rfl ⟨Nat.le_of_ble_eq_true rfl, Nat.le_of_ble_eq_true rfl⟩ rfl hl.1 rfl (Nat.le_of_ble_eq_true rfl) dX6_mixNotices_32 ⟨Nat.le_of_ble_eq_true rfl, Nat.le_of_ble_eq_true rfl⟩ rfl (fun H locs hG => ?_)
      refine hm_uS (As := [.long (mn1 x b (mn2 x d b) 1), .int (foF (xL x) b 1)]) (rest := []) (st1 := [.long (mn1 x b (mn2 x d b) 2)]) S hE hG (c_X6_mix l g ad M (mn1 x b (mn2 x d b) 1) (foF (xL x) b 1)) (hm_gS hb_494 hb_495 hb_2 hb_496) hd_X6_mix ⟨Nat.le_of_ble_eq_true rfl, Nat.le_of_ble_eq_true rfl⟩ rfl hl.1 rfl (Nat.le_of_ble_eq_true rfl) dX6_mixNotices_35 ⟨Nat.le_of_ble_eq_true rfl, Nat.le_of_ble_eq_true rfl⟩ rfl (fun H locs hG => ?_)
      refine lv_lstore_n (lv' := [(3, .long (mn1 x b (mn2 x d b) 2)), (6, .int 1), (0, .ref (ad (0, 0, 0))), (5, .int (nI b))]) S.1 S.2.1 dX6_mixNotices_38 rfl hl (by decide) rfl (fun ls hl => ?_)
      refine lv_iinc (v := 2) (lv' := [(6, .int 2), (3, .long (mn1 x b (mn2 x d b) 2)), (0, .ref (ad (0, 0, 0))), (5, .int (nI b))]) S.1 S.2.1 dX6_mixNotices_39 hl (k := 1) rfl (by decide) (by decide) rfl (fun ls hl => ?_)
      refine lv_goto (tgt := 20) S.1 S.2.1 dX6_mixNotices_42 (by decide) ?_
      refine lv_iload S.1 S.2.1 dX6_mixNotices_20 (lv_at hl 0 rfl) ?_
      refine lv_iconst (v := 4) S.1 S.2.1 dX6_mixNotices_22 (by decide) ?_
      refine lv_icmp_ge (tgt := 45) S.1 S.2.1 dX6_mixNotices_23 (by decide) (fun h9 => absurd h9 (by decide)) (fun _ => ?_)
      refine lv_lload_n S.1 S.2.1 dX6_mixNotices_26 rfl (lv_at hl 1 rfl) ?_
      refine lv_aload_n S.1 S.2.1 dX6_mixNotices_27 rfl (lv_at hl 2 rfl) ?_
      refine lv_iload S.1 S.2.1 dX6_mixNotices_28 (lv_at hl 3 rfl) ?_
      refine lv_iload S.1 S.2.1 dX6_mixNotices_30 (lv_at hl 0 rfl) ?_
      refine hm_uV (As := [.int (nI b), .int 2]) (rest := [.long (mn1 x b (mn2 x d b) 2)]) (st1 := [.int (foF (xL x) b 2), .long (mn1 x b (mn2 x d b) 2)]) S hE hG (c_X6_notice l g ad M x hx b 2 (by omega) (by omega)) (hm_gV hb_570 hb_571 hb_572 hb_2 hb_573) hd_X6_notice rfl hX rfl rfl ⟨Nat.le_of_ble_eq_true rfl, Nat.le_of_ble_eq_true rfl⟩ rfl hl.1 rfl (Nat.le_of_ble_eq_true rfl) dX6_mixNotices_32 ⟨Nat.le_of_ble_eq_true rfl, Nat.le_of_ble_eq_true rfl⟩ rfl (fun H locs hG => ?_)
      refine hm_uS (As := [.long (mn1 x b (mn2 x d b) 2), .int (foF (xL x) b 2)]) (rest := []) (st1 := [.long (mn1 x b (mn2 x d b) 3)]) S hE hG (c_X6_mix l g ad M (mn1 x b (mn2 x d b) 2) (foF (xL x) b 2)) (hm_gS hb_494 hb_495 hb_2 hb_496) hd_X6_mix ⟨Nat.le_of_ble_eq_true rfl, Nat.le_of_ble_eq_true rfl⟩ rfl hl.1 rfl (Nat.le_of_ble_eq_true rfl) dX6_mixNotices_35 ⟨Nat.le_of_ble_eq_true rfl, Nat.le_of_ble_eq_true rfl⟩ rfl (fun H locs hG => ?_)
      refine lv_lstore_n (lv' := [(3, .long (mn1 x b (mn2 x d b) 3)), (6, .int 2), (0, .ref (ad (0, 0, 0))), (5, .int (nI b))]) S.1 S.2.1 dX6_mixNotices_38 rfl hl (by decide) rfl (fun ls hl => ?_)
      refine lv_iinc (v := 3) (lv' := [(6, .int 3), (3, .long (mn1 x b (mn2 x d b) 3)), (0, .ref (ad (0, 0, 0))), (5, .int (nI b))]) S.1 S.2.1 dX6_mixNotices_39 hl (k := 1) rfl (by decide) (by decide) rfl (fun ls hl => ?_)
      refine lv_goto (tgt := 20) S.1 S.2.1 dX6_mixNotices_42 (by decide) ?_
      refine lv_iload S.1 S.2.1 dX6_mixNotices_20 (lv_at hl 0 rfl) ?_
      refine lv_iconst (v := 4) S.1 S.2.1 dX6_mixNotices_22 (by decide) ?_
      refine lv_icmp_ge (tgt := 45) S.1 S.2.1 dX6_mixNotices_23 (by decide) (fun h9 => absurd h9 (by decide)) (fun _ => ?_)
      refine lv_lload_n S.1 S.2.1 dX6_mixNotices_26 rfl (lv_at hl 1 rfl) ?_
      refine lv_aload_n S.1 S.2.1 dX6_mixNotices_27 rfl (lv_at hl 2 rfl) ?_
      refine lv_iload S.1 S.2.1 dX6_mixNotices_28 (lv_at hl 3 rfl) ?_
      refine lv_iload S.1 S.2.1 dX6_mixNotices_30 (lv_at hl 0 rfl) ?_
      refine hm_uV (As := [.int (nI b), .int 3]) (rest := [.long (mn1 x b (mn2 x d b) 3)]) (st1 := [.int (foF (xL x) b 3), .long (mn1 x b (mn2 x d b) 3)]) S hE hG (c_X6_notice l g ad M x hx b 3 (by omega) (by omega)) (hm_gV hb_570 hb_571 hb_572 hb_2 hb_573) hd_X6_notice rfl hX rfl rfl ⟨Nat.le_of_ble_eq_true rfl, Nat.le_of_ble_eq_true rfl⟩ rfl hl.1 rfl (Nat.le_of_ble_eq_true rfl) dX6_mixNotices_32 ⟨Nat.le_of_ble_eq_true rfl, Nat.le_of_ble_eq_true rfl⟩ rfl (fun H locs hG => ?_)
      refine hm_uS (As := [.long (mn1 x b (mn2 x d b) 3), .int (foF (xL x) b 3)]) (rest := []) (st1 := [.long (mn1 x b (mn2 x d b) 4)]) S hE hG (c_X6_mix l g ad M (mn1 x b (mn2 x d b) 3) (foF (xL x) b 3)) (hm_gS hb_494 hb_495 hb_2 hb_496) hd_X6_mix ⟨Nat.le_of_ble_eq_true rfl, Nat.le_of_ble_eq_true rfl⟩ rfl hl.1 rfl (Nat.le_of_ble_eq_true rfl) dX6_mixNotices_35 ⟨Nat.le_of_ble_eq_true rfl, Nat.le_of_ble_eq_true rfl⟩ rfl (fun H locs hG => ?_)
      refine lv_lstore_n (lv' := [(3, .long (mn1 x b (mn2 x d b) 4)), (6, .int 3), (0, .ref (ad (0, 0, 0))), (5, .int (nI b))]) S.1 S.2.1 dX6_mixNotices_38 rfl hl (by decide) rfl (fun ls hl => ?_)
      refine lv_iinc (v := 4) (lv' := [(6, .int 4), (3, .long (mn1 x b (mn2 x d b) 4)), (0, .ref (ad (0, 0, 0))), (5, .int (nI b))]) S.1 S.2.1 dX6_mixNotices_39 hl (k := 1) rfl (by decide) (by decide) rfl (fun ls hl => ?_)
      refine lv_goto (tgt := 20) S.1 S.2.1 dX6_mixNotices_42 (by decide) ?_
      refine lv_iload S.1 S.2.1 dX6_mixNotices_20 (lv_at hl 0 rfl) ?_
      refine lv_iconst (v := 4) S.1 S.2.1 dX6_mixNotices_22 (by decide) ?_
      refine lv_icmp_ge (tgt := 45) S.1 S.2.1 dX6_mixNotices_23 (by decide) (fun _ => ?_) (fun h9 => absurd (by decide) h9)
      refine lv_iinc (v := nI (b + 1)) (lv' := [(5, .int (nI (b + 1))), (6, .int 4), (3, .long (mn1 x b (mn2 x d b) 4)), (0, .ref (ad (0, 0, 0)))]) S.1 S.2.1 dX6_mixNotices_45 hl (k := 3) rfl (nI_1 b) (by decide) rfl (fun ls hl => ?_)
      refine lv_goto (tgt := 5) S.1 S.2.1 dX6_mixNotices_48 (by decide) ?_
      exact ih5 (b + 1) (by omega) _ _ _ hG (lv_sub hl [3, 2, 0] rfl)
  exact L5_0 (lHe (xL x)) 0 (by omega) _ _ _ hG (lv_sub hl [2, 1, 0] rfl)

abbrev rm_X6_digest : Room := { frames := 8, cells := 0, slots := 0, locals := 193 }
set_option maxHeartbeats 4000000 in
set_option maxRecDepth 100000 in
theorem c_X6_digest (l : Launch) (g : GV) (ad : AD) (M : CT) (x : XD) (hx : hasX g ad M x) (w0 : stOK x) (w1 : liOK x) : hm_Met l yX6_digest cX6_digest 5 (some .long) rm_X6_digest g ad M [.ref (ad (0, 0, 0))] (hm_pU ad M (some (.long (dgX x)))) := by
  refine hm_start (own := RX6) (by decide) rfl (Nat.le_of_ble_eq_true rfl) ?_
  intro p e s m args below meth c S hr hlk hnm hE hG ls hl
  have hl : lv_has ls 5 [(0, .ref (ad (0, 0, 0)))] := hl
  obtain ⟨hX, hLs, hLr, hLh, h7, hLg, h70, hSe, hRu, hHu, hGr, hS6, hR6, hH5⟩ := id hx
  obtain ⟨fs1, hb1⟩ := hLs.ob
  obtain ⟨fs2, hb2⟩ := hLr.ob
  obtain ⟨fs3, hb3⟩ := hLh.ob
  have hcn : caX x 1 ≤ 12 * xR x := caN_le x 1 _
  refine lv_ldc2 S.1 S.2.1 S.2.2.2.1 (S.2.2.2.2 _ hb_489) dX6_digest_0 ?_
  refine lv_aload_n S.1 S.2.1 dX6_digest_3 rfl (lv_at hl 0 rfl) ?_
  refine hm_uV (As := []) (rest := [.long 58073]) (st1 := [.int (nI (xC x)), .long 58073]) S hE hG (c_X6_clock l g ad M x hx) (hm_gV hb_490 hb_491 hb_492 hb_2 hb_493) hd_X6_clock rfl hX rfl rfl ⟨Nat.le_of_ble_eq_true rfl, Nat.le_of_ble_eq_true rfl⟩ rfl hl.1 rfl (Nat.le_of_ble_eq_true rfl) dX6_digest_4 ⟨Nat.le_of_ble_eq_true rfl, Nat.le_of_ble_eq_true rfl⟩ rfl (fun H locs hG => ?_)
  refine hm_uS (As := [.long 58073, .int (nI (xC x))]) (rest := []) (st1 := [.long (dg1 x 0)]) S hE hG (c_X6_mix l g ad M 58073 (nI (xC x))) (hm_gS hb_494 hb_495 hb_2 hb_496) hd_X6_mix ⟨Nat.le_of_ble_eq_true rfl, Nat.le_of_ble_eq_true rfl⟩ rfl hl.1 rfl (Nat.le_of_ble_eq_true rfl) dX6_digest_7 ⟨Nat.le_of_ble_eq_true rfl, Nat.le_of_ble_eq_true rfl⟩ rfl (fun H locs hG => ?_)
  refine lv_lstore_n (lv' := [(1, .long (dg1 x 0)), (0, .ref (ad (0, 0, 0)))]) S.1 S.2.1 dX6_digest_10 rfl hl (by decide) rfl (fun ls hl => ?_)
  refine lv_iconst (v := 0) S.1 S.2.1 dX6_digest_11 (by decide) ?_
  refine lv_istore_n (lv' := [(3, .int 0), (1, .long (dg1 x 0)), (0, .ref (ad (0, 0, 0)))]) S.1 S.2.1 dX6_digest_12 rfl hl (by decide) rfl (fun ls hl => ?_)
  refine lv_iload_n S.1 S.2.1 dX6_digest_13 rfl (lv_at hl 0 rfl) ?_
  refine lv_bipush (v := 6) S.1 S.2.1 dX6_digest_14 (by decide) ?_
  refine lv_icmp_gt (tgt := 35) S.1 S.2.1 dX6_digest_16 (by decide) (fun h9 => absurd h9 (by decide)) (fun _ => ?_)
  refine lv_lload_n S.1 S.2.1 dX6_digest_19 rfl (lv_at hl 1 rfl) ?_
  refine lv_aload_n S.1 S.2.1 dX6_digest_20 rfl (lv_at hl 2 rfl) ?_
  refine lv_iload_n S.1 S.2.1 dX6_digest_21 rfl (lv_at hl 0 rfl) ?_
  refine hm_uV (As := [.int 0]) (rest := [.long (dg1 x 0)]) (st1 := [.int (myF x 0), .long (dg1 x 0)]) S hE hG (c_X6_many l g ad M x hx 0 (by omega)) (hm_gV hb_498 hb_263 hb_264 hb_2 hb_265) hd_X6_many rfl hX rfl rfl ⟨Nat.le_of_ble_eq_true rfl, Nat.le_of_ble_eq_true rfl⟩ rfl hl.1 rfl (Nat.le_of_ble_eq_true rfl) dX6_digest_22 ⟨Nat.le_of_ble_eq_true rfl, Nat.le_of_ble_eq_true rfl⟩ rfl (fun H locs hG => ?_)
  refine hm_uS (As := [.long (dg1 x 0), .int (myF x 0)]) (rest := []) (st1 := [.long (dg1 x 1)]) S hE hG (c_X6_mix l g ad M (dg1 x 0) (myF x 0)) (hm_gS hb_494 hb_495 hb_2 hb_496) hd_X6_mix ⟨Nat.le_of_ble_eq_true rfl, Nat.le_of_ble_eq_true rfl⟩ rfl hl.1 rfl (Nat.le_of_ble_eq_true rfl) dX6_digest_25 ⟨Nat.le_of_ble_eq_true rfl, Nat.le_of_ble_eq_true rfl⟩ rfl (fun H locs hG => ?_)
  refine lv_lstore_n (lv' := [(1, .long (dg1 x 1)), (3, .int 0), (0, .ref (ad (0, 0, 0)))]) S.1 S.2.1 dX6_digest_28 rfl hl (by decide) rfl (fun ls hl => ?_)
  refine lv_iinc (v := 1) (lv' := [(3, .int 1), (1, .long (dg1 x 1)), (0, .ref (ad (0, 0, 0)))]) S.1 S.2.1 dX6_digest_29 hl (k := 1) rfl (by decide) (by decide) rfl (fun ls hl => ?_)
  refine lv_goto (tgt := 13) S.1 S.2.1 dX6_digest_32 (by decide) ?_
  refine lv_iload_n S.1 S.2.1 dX6_digest_13 rfl (lv_at hl 0 rfl) ?_
  refine lv_bipush (v := 6) S.1 S.2.1 dX6_digest_14 (by decide) ?_
  refine lv_icmp_gt (tgt := 35) S.1 S.2.1 dX6_digest_16 (by decide) (fun h9 => absurd h9 (by decide)) (fun _ => ?_)
  refine lv_lload_n S.1 S.2.1 dX6_digest_19 rfl (lv_at hl 1 rfl) ?_
  refine lv_aload_n S.1 S.2.1 dX6_digest_20 rfl (lv_at hl 2 rfl) ?_
  refine lv_iload_n S.1 S.2.1 dX6_digest_21 rfl (lv_at hl 0 rfl) ?_
  refine hm_uV (As := [.int 1]) (rest := [.long (dg1 x 1)]) (st1 := [.int (myF x 1), .long (dg1 x 1)]) S hE hG (c_X6_many l g ad M x hx 1 (by omega)) (hm_gV hb_498 hb_263 hb_264 hb_2 hb_265) hd_X6_many rfl hX rfl rfl ⟨Nat.le_of_ble_eq_true rfl, Nat.le_of_ble_eq_true rfl⟩ rfl hl.1 rfl (Nat.le_of_ble_eq_true rfl) dX6_digest_22 ⟨Nat.le_of_ble_eq_true rfl, Nat.le_of_ble_eq_true rfl⟩ rfl (fun H locs hG => ?_)
  refine hm_uS (As := [.long (dg1 x 1), .int (myF x 1)]) (rest := []) (st1 := [.long (dg1 x 2)]) S hE hG (c_X6_mix l g ad M (dg1 x 1) (myF x 1)) (hm_gS hb_494 hb_495 hb_2 hb_496) hd_X6_mix ⟨Nat.le_of_ble_eq_true rfl, Nat.le_of_ble_eq_true rfl⟩ rfl hl.1 rfl (Nat.le_of_ble_eq_true rfl) dX6_digest_25 ⟨Nat.le_of_ble_eq_true rfl, Nat.le_of_ble_eq_true rfl⟩ rfl (fun H locs hG => ?_)
  refine lv_lstore_n (lv' := [(1, .long (dg1 x 2)), (3, .int 1), (0, .ref (ad (0, 0, 0)))]) S.1 S.2.1 dX6_digest_28 rfl hl (by decide) rfl (fun ls hl => ?_)
  refine lv_iinc (v := 2) (lv' := [(3, .int 2), (1, .long (dg1 x 2)), (0, .ref (ad (0, 0, 0)))]) S.1 S.2.1 dX6_digest_29 hl (k := 1) rfl (by decide) (by decide) rfl (fun ls hl => ?_)
  refine lv_goto (tgt := 13) S.1 S.2.1 dX6_digest_32 (by decide) ?_
  refine lv_iload_n S.1 S.2.1 dX6_digest_13 rfl (lv_at hl 0 rfl) ?_
  refine lv_bipush (v := 6) S.1 S.2.1 dX6_digest_14 (by decide) ?_
  refine lv_icmp_gt (tgt := 35) S.1 S.2.1 dX6_digest_16 (by decide) (fun h9 => absurd h9 (by decide)) (fun _ => ?_)
  refine lv_lload_n S.1 S.2.1 dX6_digest_19 rfl (lv_at hl 1 rfl) ?_
  refine lv_aload_n S.1 S.2.1 dX6_digest_20 rfl (lv_at hl 2 rfl) ?_
  refine lv_iload_n S.1 S.2.1 dX6_digest_21 rfl (lv_at hl 0 rfl) ?_
  refine hm_uV (As := [.int 2]) (rest := [.long (dg1 x 2)]) (st1 := [.int (myF x 2), .long (dg1 x 2)]) S hE hG (c_X6_many l g ad M x hx 2 (by omega)) (hm_gV hb_498 hb_263 hb_264 hb_2 hb_265) hd_X6_many rfl hX rfl rfl ⟨Nat.le_of_ble_eq_true rfl, Nat.le_of_ble_eq_true rfl⟩ rfl hl.1 rfl (Nat.le_of_ble_eq_true rfl) dX6_digest_22 ⟨Nat.le_of_ble_eq_true rfl, Nat.le_of_ble_eq_true rfl⟩ rfl (fun H locs hG => ?_)
  refine hm_uS (As := [.long (dg1 x 2), .int (myF x 2)]) (rest := []) (st1 := [.long (dg1 x 3)]) S hE hG (c_X6_mix l g ad M (dg1 x 2) (myF x 2)) (hm_gS hb_494 hb_495 hb_2 hb_496) hd_X6_mix ⟨Nat.le_of_ble_eq_true rfl, Nat.le_of_ble_eq_true rfl⟩ rfl hl.1 rfl (Nat.le_of_ble_eq_true rfl) dX6_digest_25 ⟨Nat.le_of_ble_eq_true rfl, Nat.le_of_ble_eq_true rfl⟩ rfl (fun H locs hG => ?_)
  refine lv_lstore_n (lv' := [(1, .long (dg1 x 3)), (3, .int 2), (0, .ref (ad (0, 0, 0)))]) S.1 S.2.1 dX6_digest_28 rfl hl (by decide) rfl (fun ls hl => ?_)
  refine lv_iinc (v := 3) (lv' := [(3, .int 3), (1, .long (dg1 x 3)), (0, .ref (ad (0, 0, 0)))]) S.1 S.2.1 dX6_digest_29 hl (k := 1) rfl (by decide) (by decide) rfl (fun ls hl => ?_)
  refine lv_goto (tgt := 13) S.1 S.2.1 dX6_digest_32 (by decide) ?_
  refine lv_iload_n S.1 S.2.1 dX6_digest_13 rfl (lv_at hl 0 rfl) ?_
  refine lv_bipush (v := 6) S.1 S.2.1 dX6_digest_14 (by decide) ?_
  refine lv_icmp_gt (tgt := 35) S.1 S.2.1 dX6_digest_16 (by decide) (fun h9 => absurd h9 (by decide)) (fun _ => ?_)
  refine lv_lload_n S.1 S.2.1 dX6_digest_19 rfl (lv_at hl 1 rfl) ?_
  refine lv_aload_n S.1 S.2.1 dX6_digest_20 rfl (lv_at hl 2 rfl) ?_
  refine lv_iload_n S.1 S.2.1 dX6_digest_21 rfl (lv_at hl 0 rfl) ?_
  refine hm_uV (As := [.int 3]) (rest := [.long (dg1 x 3)]) (st1 := [.int (myF x 3), .long (dg1 x 3)]) S hE hG (c_X6_many l g ad M x hx 3 (by omega)) (hm_gV hb_498 hb_263 hb_264 hb_2 hb_265) hd_X6_many rfl hX rfl rfl ⟨Nat.le_of_ble_eq_true rfl, Nat.le_of_ble_eq_true rfl⟩ rfl hl.1 rfl (Nat.le_of_ble_eq_true rfl) dX6_digest_22 ⟨Nat.le_of_ble_eq_true rfl, Nat.le_of_ble_eq_true rfl⟩ rfl (fun H locs hG => ?_)
  refine hm_uS (As := [.long (dg1 x 3), .int (myF x 3)]) (rest := []) (st1 := [.long (dg1 x 4)]) S hE hG (c_X6_mix l g ad M (dg1 x 3) (myF x 3)) (hm_gS hb_494 hb_495 hb_2 hb_496) hd_X6_mix ⟨Nat.le_of_ble_eq_true rfl, Nat.le_of_ble_eq_true rfl⟩ rfl hl.1 rfl (Nat.le_of_ble_eq_true rfl) dX6_digest_25 ⟨Nat.le_of_ble_eq_true rfl, Nat.le_of_ble_eq_true rfl⟩ rfl (fun H locs hG => ?_)
  refine lv_lstore_n (lv' := [(1, .long (dg1 x 4)), (3, .int 3), (0, .ref (ad (0, 0, 0)))]) S.1 S.2.1 dX6_digest_28 rfl hl (by decide) rfl (fun ls hl => ?_)
  refine lv_iinc (v := 4) (lv' := [(3, .int 4), (1, .long (dg1 x 4)), (0, .ref (ad (0, 0, 0)))]) S.1 S.2.1 dX6_digest_29 hl (k := 1) rfl (by decide) (by decide) rfl (fun ls hl => ?_)
  refine lv_goto (tgt := 13) S.1 S.2.1 dX6_digest_32 (by decide) ?_
  refine lv_iload_n S.1 S.2.1 dX6_digest_13 rfl (lv_at hl 0 rfl) ?_
  refine lv_bipush (v := 6) S.1 S.2.1 dX6_digest_14 (by decide) ?_
  refine lv_icmp_gt (tgt := 35) S.1 S.2.1 dX6_digest_16 (by decide) (fun h9 => absurd h9 (by decide)) (fun _ => ?_)
  refine lv_lload_n S.1 S.2.1 dX6_digest_19 rfl (lv_at hl 1 rfl) ?_
  refine lv_aload_n S.1 S.2.1 dX6_digest_20 rfl (lv_at hl 2 rfl) ?_
  refine lv_iload_n S.1 S.2.1 dX6_digest_21 rfl (lv_at hl 0 rfl) ?_
  refine hm_uV (As := [.int 4]) (rest := [.long (dg1 x 4)]) (st1 := [.int (myF x 4), .long (dg1 x 4)]) S hE hG (c_X6_many l g ad M x hx 4 (by omega)) (hm_gV hb_498 hb_263 hb_264 hb_2 hb_265) hd_X6_many rfl hX rfl rfl ⟨Nat.le_of_ble_eq_true rfl, Nat.le_of_ble_eq_true rfl⟩ rfl hl.1 rfl (Nat.le_of_ble_eq_true rfl) dX6_digest_22 ⟨Nat.le_of_ble_eq_true rfl, Nat.le_of_ble_eq_true rfl⟩ rfl (fun H locs hG => ?_)
  refine hm_uS (As := [.long (dg1 x 4), .int (myF x 4)]) (rest := []) (st1 := [.long (dg1 x 5)]) S hE hG (c_X6_mix l g ad M (dg1 x 4) (myF x 4)) (hm_gS hb_494 hb_495 hb_2 hb_496) hd_X6_mix ⟨Nat.le_of_ble_eq_true rfl, Nat.le_of_ble_eq_true rfl⟩ rfl hl.1 rfl (Nat.le_of_ble_eq_true rfl) dX6_digest_25 ⟨Nat.le_of_ble_eq_true rfl, Nat.le_of_ble_eq_true rfl⟩ rfl (fun H locs hG => ?_)
  refine lv_lstore_n (lv' := [(1, .long (dg1 x 5)), (3, .int 4), (0, .ref (ad (0, 0, 0)))]) S.1 S.2.1 dX6_digest_28 rfl hl (by decide) rfl (fun ls hl => ?_)
  refine lv_iinc (v := 5) (lv' := [(3, .int 5), (1, .long (dg1 x 5)), (0, .ref (ad (0, 0, 0)))]) S.1 S.2.1 dX6_digest_29 hl (k := 1) rfl (by decide) (by decide) rfl (fun ls hl => ?_)
  refine lv_goto (tgt := 13) S.1 S.2.1 dX6_digest_32 (by decide) ?_
  refine lv_iload_n S.1 S.2.1 dX6_digest_13 rfl (lv_at hl 0 rfl) ?_
  refine lv_bipush (v := 6) S.1 S.2.1 dX6_digest_14 (by decide) ?_
  refine lv_icmp_gt (tgt := 35) S.1 S.2.1 dX6_digest_16 (by decide) (fun h9 => absurd h9 (by decide)) (fun _ => ?_)
  refine lv_lload_n S.1 S.2.1 dX6_digest_19 rfl (lv_at hl 1 rfl) ?_
  refine lv_aload_n S.1 S.2.1 dX6_digest_20 rfl (lv_at hl 2 rfl) ?_
  refine lv_iload_n S.1 S.2.1 dX6_digest_21 rfl (lv_at hl 0 rfl) ?_
  refine hm_uV (As := [.int 5]) (rest := [.long (dg1 x 5)]) (st1 := [.int (myF x 5), .long (dg1 x 5)]) S hE hG (c_X6_many l g ad M x hx 5 (by omega)) (hm_gV hb_498 hb_263 hb_264 hb_2 hb_265) hd_X6_many rfl hX rfl rfl ⟨Nat.le_of_ble_eq_true rfl, Nat.le_of_ble_eq_true rfl⟩ rfl hl.1 rfl (Nat.le_of_ble_eq_true rfl) dX6_digest_22 ⟨Nat.le_of_ble_eq_true rfl, Nat.le_of_ble_eq_true rfl⟩ rfl (fun H locs hG => ?_)
  refine hm_uS (As := [.long (dg1 x 5), .int (myF x 5)]) (rest := []) (st1 := [.long (dg1 x 6)]) S hE hG (c_X6_mix l g ad M (dg1 x 5) (myF x 5)) (hm_gS hb_494 hb_495 hb_2 hb_496) hd_X6_mix ⟨Nat.le_of_ble_eq_true rfl, Nat.le_of_ble_eq_true rfl⟩ rfl hl.1 rfl (Nat.le_of_ble_eq_true rfl) dX6_digest_25 ⟨Nat.le_of_ble_eq_true rfl, Nat.le_of_ble_eq_true rfl⟩ rfl (fun H locs hG => ?_)
  refine lv_lstore_n (lv' := [(1, .long (dg1 x 6)), (3, .int 5), (0, .ref (ad (0, 0, 0)))]) S.1 S.2.1 dX6_digest_28 rfl hl (by decide) rfl (fun ls hl => ?_)
  refine lv_iinc (v := 6) (lv' := [(3, .int 6), (1, .long (dg1 x 6)), (0, .ref (ad (0, 0, 0)))]) S.1 S.2.1 dX6_digest_29 hl (k := 1) rfl (by decide) (by decide) rfl (fun ls hl => ?_)
  refine lv_goto (tgt := 13) S.1 S.2.1 dX6_digest_32 (by decide) ?_
  refine lv_iload_n S.1 S.2.1 dX6_digest_13 rfl (lv_at hl 0 rfl) ?_
  refine lv_bipush (v := 6) S.1 S.2.1 dX6_digest_14 (by decide) ?_
  refine lv_icmp_gt (tgt := 35) S.1 S.2.1 dX6_digest_16 (by decide) (fun h9 => absurd h9 (by decide)) (fun _ => ?_)
  refine lv_lload_n S.1 S.2.1 dX6_digest_19 rfl (lv_at hl 1 rfl) ?_
  refine lv_aload_n S.1 S.2.1 dX6_digest_20 rfl (lv_at hl 2 rfl) ?_
  refine lv_iload_n S.1 S.2.1 dX6_digest_21 rfl (lv_at hl 0 rfl) ?_
  refine hm_uV (As := [.int 6]) (rest := [.long (dg1 x 6)]) (st1 := [.int (myF x 6), .long (dg1 x 6)]) S hE hG (c_X6_many l g ad M x hx 6 (by omega)) (hm_gV hb_498 hb_263 hb_264 hb_2 hb_265) hd_X6_many rfl hX rfl rfl ⟨Nat.le_of_ble_eq_true rfl, Nat.le_of_ble_eq_true rfl⟩ rfl hl.1 rfl (Nat.le_of_ble_eq_true rfl) dX6_digest_22 ⟨Nat.le_of_ble_eq_true rfl, Nat.le_of_ble_eq_true rfl⟩ rfl (fun H locs hG => ?_)
  refine hm_uS (As := [.long (dg1 x 6), .int (myF x 6)]) (rest := []) (st1 := [.long (dg1 x 7)]) S hE hG (c_X6_mix l g ad M (dg1 x 6) (myF x 6)) (hm_gS hb_494 hb_495 hb_2 hb_496) hd_X6_mix ⟨Nat.le_of_ble_eq_true rfl, Nat.le_of_ble_eq_true rfl⟩ rfl hl.1 rfl (Nat.le_of_ble_eq_true rfl) dX6_digest_25 ⟨Nat.le_of_ble_eq_true rfl, Nat.le_of_ble_eq_true rfl⟩ rfl (fun H locs hG => ?_)
  refine lv_lstore_n (lv' := [(1, .long (dg1 x 7)), (3, .int 6), (0, .ref (ad (0, 0, 0)))]) S.1 S.2.1 dX6_digest_28 rfl hl (by decide) rfl (fun ls hl => ?_)
  refine lv_iinc (v := 7) (lv' := [(3, .int 7), (1, .long (dg1 x 7)), (0, .ref (ad (0, 0, 0)))]) S.1 S.2.1 dX6_digest_29 hl (k := 1) rfl (by decide) (by decide) rfl (fun ls hl => ?_)
  refine lv_goto (tgt := 13) S.1 S.2.1 dX6_digest_32 (by decide) ?_
  refine lv_iload_n S.1 S.2.1 dX6_digest_13 rfl (lv_at hl 0 rfl) ?_
  refine lv_bipush (v := 6) S.1 S.2.1 dX6_digest_14 (by decide) ?_
  refine lv_icmp_gt (tgt := 35) S.1 S.2.1 dX6_digest_16 (by decide) (fun _ => ?_) (fun h9 => absurd (by decide) h9)
  refine lv_iconst (v := 0) S.1 S.2.1 dX6_digest_35 (by decide) ?_
  refine lv_istore_n (lv' := [(3, .int 0), (1, .long (dg1 x 7)), (0, .ref (ad (0, 0, 0)))]) S.1 S.2.1 dX6_digest_36 rfl hl (by decide) rfl (fun ls hl => ?_)
  have L37_0 : ∀ (n : Nat) (i : Nat), n + i = (xS x) → ∀ (H : Heap) (locs : List Loc) (ls : Array Slot), hm_G g ad M s.heap H locs → lv_has ls 5 [(0, .ref (ad (0, 0, 0))), (1, .long (dg2 x i)), (3, .int (nI i))] → W p l e rm_X6_digest s m args below meth c H locs 0 0 (MQ below (hm_Q g (hm_pU ad M (some (.long (dgX x))))) args s rm_X6_digest.cells rm_X6_digest.slots (hm_A g)) (F0 m 37 ls []) := by
    intro n
    induction n with
    | zero =>
      intro i h037 H locs ls hG hl
      have e7 : i = (xS x) := by omega
      subst e7
      refine lv_iload_n S.1 S.2.1 dX6_digest_37 rfl (lv_at hl 2 rfl) ?_
      refine lv_aload_n S.1 S.2.1 dX6_digest_38 rfl (lv_at hl 0 rfl) ?_
      refine hm_get (k := 0) S hE hG hX rfl rfl hi_X60 (by decide) hb_16 rfl rfl dX6_digest_39 ?_
      refine hm_uV (As := []) (rest := [.int (nI (xS x))]) (st1 := [.int (nI (xS x)), .int (nI (xS x))]) S hE hG (c_size l hLs) (hm_gV hb_97 hb_98 hb_99 hb_15 hb_100) hd_Jx4a65c_size_8abf5 rfl hb1 rfl rfl ⟨Nat.le_of_ble_eq_true rfl, Nat.le_of_ble_eq_true rfl⟩ rfl hl.1 rfl (Nat.le_of_ble_eq_true rfl) dX6_digest_42 ⟨Nat.le_of_ble_eq_true rfl, Nat.le_of_ble_eq_true rfl⟩ rfl (fun H locs hG => ?_)
      refine lv_icmp_ge (tgt := 61) S.1 S.2.1 dX6_digest_45 (by decide) (fun _ => ?_) (fun h9 => absurd (nI_le (Nat.le_refl _) (by omega)) h9)
      refine lv_iconst (v := 0) S.1 S.2.1 dX6_digest_61 (by decide) ?_
      refine lv_istore_n (lv' := [(3, .int 0), (0, .ref (ad (0, 0, 0))), (1, .long (dg2 x (xS x)))]) S.1 S.2.1 dX6_digest_62 rfl hl (by decide) rfl (fun ls hl => ?_)
      have L63_1 : ∀ (n : Nat) (r : Nat), n + r = (xR x) → ∀ (H : Heap) (locs : List Loc) (ls : Array Slot), hm_G g ad M s.heap H locs → lv_has ls 5 [(0, .ref (ad (0, 0, 0))), (1, .long (dg3 x r)), (3, .int (nI r))] → W p l e rm_X6_digest s m args below meth c H locs 0 0 (MQ below (hm_Q g (hm_pU ad M (some (.long (dgX x))))) args s rm_X6_digest.cells rm_X6_digest.slots (hm_A g)) (F0 m 63 ls []) := by
        intro n
        induction n with
        | zero =>
          intro r h063 H locs ls hG hl
          have e7 : r = (xR x) := by omega
          subst e7
          refine lv_iload_n S.1 S.2.1 dX6_digest_63 rfl (lv_at hl 2 rfl) ?_
          refine lv_aload_n S.1 S.2.1 dX6_digest_64 rfl (lv_at hl 0 rfl) ?_
          refine hm_get (k := 1) S hE hG hX rfl rfl hi_X60 (by decide) hb_17 rfl rfl dX6_digest_65 ?_
          refine hm_uV (As := []) (rest := [.int (nI (xR x))]) (st1 := [.int (nI (xR x)), .int (nI (xR x))]) S hE hG (c_size l hLr) (hm_gV hb_97 hb_98 hb_99 hb_15 hb_100) hd_Jx4a65c_size_8abf5 rfl hb2 rfl rfl ⟨Nat.le_of_ble_eq_true rfl, Nat.le_of_ble_eq_true rfl⟩ rfl hl.1 rfl (Nat.le_of_ble_eq_true rfl) dX6_digest_68 ⟨Nat.le_of_ble_eq_true rfl, Nat.le_of_ble_eq_true rfl⟩ rfl (fun H locs hG => ?_)
          refine lv_icmp_ge (tgt := 114) S.1 S.2.1 dX6_digest_71 (by decide) (fun _ => ?_) (fun h9 => absurd (nI_le (Nat.le_refl _) (by omega)) h9)
          refine lv_aload_n S.1 S.2.1 dX6_digest_114 rfl (lv_at hl 0 rfl) ?_
          refine lv_iconst (v := 3) S.1 S.2.1 dX6_digest_115 (by decide) ?_
          refine hm_uV (As := [.int 3]) (rest := []) (st1 := [.int (nI (caX x 1))]) S hE hG (c_X6_many l g ad M x hx 3 (by omega)) (hm_gV hb_498 hb_263 hb_264 hb_2 hb_265) hd_X6_many rfl hX rfl rfl ⟨Nat.le_of_ble_eq_true rfl, Nat.le_of_ble_eq_true rfl⟩ rfl hl.1 rfl (Nat.le_of_ble_eq_true rfl) dX6_digest_116 ⟨Nat.le_of_ble_eq_true rfl, Nat.le_of_ble_eq_true rfl⟩ rfl (fun H locs hG => ?_)
          refine lv_istore_n (lv' := [(3, .int (nI (caX x 1))), (0, .ref (ad (0, 0, 0))), (1, .long (dg3 x (xR x)))]) S.1 S.2.1 dX6_digest_119 rfl hl (by decide) rfl (fun ls hl => ?_)
          refine lv_iconst (v := 0) S.1 S.2.1 dX6_digest_120 (by decide) ?_
          refine lv_istore (lv' := [(4, .int 0), (3, .int (nI (caX x 1))), (0, .ref (ad (0, 0, 0))), (1, .long (dg3 x (xR x)))]) S.1 S.2.1 dX6_digest_121 hl (by decide) rfl (fun ls hl => ?_)
          have L123_2 : ∀ (n : Nat) (q : Nat), n + q = (caX x 1) → ∀ (H : Heap) (locs : List Loc) (ls : Array Slot), hm_G g ad M s.heap H locs → lv_has ls 5 [(0, .ref (ad (0, 0, 0))), (1, .long (dg4 x q)), (4, .int (nI q)), (3, .int (nI (caX x 1)))] → W p l e rm_X6_digest s m args below meth c H locs 0 0 (MQ below (hm_Q g (hm_pU ad M (some (.long (dgX x))))) args s rm_X6_digest.cells rm_X6_digest.slots (hm_A g)) (F0 m 123 ls []) := by
            intro n
            induction n with
            | zero =>
              intro q h0123 H locs ls hG hl
              have e7 : q = (caX x 1) := by omega
              subst e7
              refine lv_iload S.1 S.2.1 dX6_digest_123 (lv_at hl 2 rfl) ?_
              refine lv_iload_n S.1 S.2.1 dX6_digest_125 rfl (lv_at hl 3 rfl) ?_
              refine lv_icmp_ge (tgt := 143) S.1 S.2.1 dX6_digest_126 (by decide) (fun _ => ?_) (fun h9 => absurd (nI_le (Nat.le_refl _) (by omega)) h9)
              refine lv_iconst (v := 0) S.1 S.2.1 dX6_digest_143 (by decide) ?_
              refine lv_istore (lv' := [(4, .int 0), (0, .ref (ad (0, 0, 0))), (1, .long (dg4 x (caX x 1))), (3, .int (nI (caX x 1)))]) S.1 S.2.1 dX6_digest_144 hl (by decide) rfl (fun ls hl => ?_)
              have L146_3 : ∀ (n : Nat) (h : Nat), n + h = (xH x) → ∀ (H : Heap) (locs : List Loc) (ls : Array Slot), hm_G g ad M s.heap H locs → lv_has ls 5 [(0, .ref (ad (0, 0, 0))), (1, .long (dg5 x h)), (4, .int (nI h))] → W p l e rm_X6_digest s m args below meth c H locs 0 0 (MQ below (hm_Q g (hm_pU ad M (some (.long (dgX x))))) args s rm_X6_digest.cells rm_X6_digest.slots (hm_A g)) (F0 m 146 ls []) := by
                intro n
                induction n with
                | zero =>
                  intro h h0146 H locs ls hG hl
                  have e7 : h = (xH x) := by omega
                  subst e7
                  refine lv_iload S.1 S.2.1 dX6_digest_146 (lv_at hl 2 rfl) ?_
                  refine lv_aload_n S.1 S.2.1 dX6_digest_148 rfl (lv_at hl 0 rfl) ?_
                  refine hm_get (k := 2) S hE hG hX rfl rfl hi_X60 (by decide) hb_18 rfl rfl dX6_digest_149 ?_
                  refine hm_uV (As := []) (rest := [.int (nI (xH x))]) (st1 := [.int (nI (xH x)), .int (nI (xH x))]) S hE hG (c_size l hLh) (hm_gV hb_97 hb_98 hb_99 hb_15 hb_100) hd_Jx4a65c_size_8abf5 rfl hb3 rfl rfl ⟨Nat.le_of_ble_eq_true rfl, Nat.le_of_ble_eq_true rfl⟩ rfl hl.1 rfl (Nat.le_of_ble_eq_true rfl) dX6_digest_152 ⟨Nat.le_of_ble_eq_true rfl, Nat.le_of_ble_eq_true rfl⟩ rfl (fun H locs hG => ?_)
                  refine lv_icmp_ge (tgt := 172) S.1 S.2.1 dX6_digest_155 (by decide) (fun _ => ?_) (fun h9 => absurd (nI_le (Nat.le_refl _) (by omega)) h9)
                  refine lv_aload_n S.1 S.2.1 dX6_digest_172 rfl (lv_at hl 0 rfl) ?_
                  refine lv_lload_n S.1 S.2.1 dX6_digest_173 rfl (lv_at hl 1 rfl) ?_
                  refine hm_uV (As := [.long (dg5 x (xH x))]) (rest := []) (st1 := [.long (dgX x)]) S hE hG (c_X6_mixNotices l g ad M x hx (dg5 x (xH x))) (hm_gV hb_565 hb_566 hb_567 hb_2 hb_568) hd_X6_mixNotices rfl hX rfl rfl ⟨Nat.le_of_ble_eq_true rfl, Nat.le_of_ble_eq_true rfl⟩ rfl hl.1 rfl (Nat.le_of_ble_eq_true rfl) dX6_digest_174 ⟨Nat.le_of_ble_eq_true rfl, Nat.le_of_ble_eq_true rfl⟩ rfl (fun H locs hG => ?_)
                  exact hm_lret S hG hr hlk (⟨rfl, rfl, rfl⟩) (Nat.le_of_ble_eq_true rfl) (Nat.le_of_ble_eq_true rfl) dX6_digest_177
                | succ n ih146 =>
                  intro h h0146 H locs ls hG hl
                  have hh9 : h < (xH x) := by omega
                  refine lv_iload S.1 S.2.1 dX6_digest_146 (lv_at hl 2 rfl) ?_
                  refine lv_aload_n S.1 S.2.1 dX6_digest_148 rfl (lv_at hl 0 rfl) ?_
                  refine hm_get (k := 2) S hE hG hX rfl rfl hi_X60 (by decide) hb_18 rfl rfl dX6_digest_149 ?_
                  refine hm_uV (As := []) (rest := [.int (nI h)]) (st1 := [.int (nI (xH x)), .int (nI h)]) S hE hG (c_size l hLh) (hm_gV hb_97 hb_98 hb_99 hb_15 hb_100) hd_Jx4a65c_size_8abf5 rfl hb3 rfl rfl ⟨Nat.le_of_ble_eq_true rfl, Nat.le_of_ble_eq_true rfl⟩ rfl hl.1 rfl (Nat.le_of_ble_eq_true rfl) dX6_digest_152 ⟨Nat.le_of_ble_eq_true rfl, Nat.le_of_ble_eq_true rfl⟩ rfl (fun H locs hG => ?_)
                  refine lv_icmp_ge (tgt := 172) S.1 S.2.1 dX6_digest_155 (by decide) (fun h9 => absurd h9 (nI_ge hh9 (by omega))) (fun _ => ?_)
                  refine lv_aload_n S.1 S.2.1 dX6_digest_158 rfl (lv_at hl 0 rfl) ?_
                  refine lv_lload_n S.1 S.2.1 dX6_digest_159 rfl (lv_at hl 1 rfl) ?_
                  refine lv_iload S.1 S.2.1 dX6_digest_160 (lv_at hl 2 rfl) ?_
                  refine hm_uV (As := [.long (dg5 x h), .int (nI h)]) (rest := []) (st1 := [.long (dg5 x (h + 1))]) S hE hG (c_X6_mixHush l g ad M x hx (dg5 x h) h hh9) (hm_gV hb_542 hb_543 hb_544 hb_2 hb_545) hd_X6_mixHush rfl hX rfl rfl ⟨Nat.le_of_ble_eq_true rfl, Nat.le_of_ble_eq_true rfl⟩ rfl hl.1 rfl (Nat.le_of_ble_eq_true rfl) dX6_digest_162 ⟨Nat.le_of_ble_eq_true rfl, Nat.le_of_ble_eq_true rfl⟩ rfl (fun H locs hG => ?_)
                  refine lv_lstore_n (lv' := [(1, .long (dg5 x (h + 1))), (0, .ref (ad (0, 0, 0))), (4, .int (nI h))]) S.1 S.2.1 dX6_digest_165 rfl hl (by decide) rfl (fun ls hl => ?_)
                  refine lv_iinc (v := nI (h + 1)) (lv' := [(4, .int (nI (h + 1))), (1, .long (dg5 x (h + 1))), (0, .ref (ad (0, 0, 0)))]) S.1 S.2.1 dX6_digest_166 hl (k := 2) rfl (nI_1 h) (by decide) rfl (fun ls hl => ?_)
                  refine lv_goto (tgt := 146) S.1 S.2.1 dX6_digest_169 (by decide) ?_
                  exact ih146 (h + 1) (by omega) _ _ _ hG (lv_sub hl [2, 1, 0] rfl)
              exact L146_3 (xH x) 0 (by omega) _ _ _ hG (lv_sub hl [1, 2, 0] rfl)
            | succ n ih123 =>
              intro q h0123 H locs ls hG hl
              have hq9 : q < (caX x 1) := by omega
              refine lv_iload S.1 S.2.1 dX6_digest_123 (lv_at hl 2 rfl) ?_
              refine lv_iload_n S.1 S.2.1 dX6_digest_125 rfl (lv_at hl 3 rfl) ?_
              refine lv_icmp_ge (tgt := 143) S.1 S.2.1 dX6_digest_126 (by decide) (fun h9 => absurd h9 (nI_ge hq9 (by omega))) (fun _ => ?_)
              refine lv_aload_n S.1 S.2.1 dX6_digest_129 rfl (lv_at hl 0 rfl) ?_
              refine lv_lload_n S.1 S.2.1 dX6_digest_130 rfl (lv_at hl 1 rfl) ?_
              refine lv_iload S.1 S.2.1 dX6_digest_131 (lv_at hl 2 rfl) ?_
              refine hm_uV (As := [.long (dg4 x q), .int (nI q)]) (rest := []) (st1 := [.long (dg4 x (q + 1))]) S hE hG (c_X6_mixAlert l g ad M x hx w0 (dg4 x q) q (atRX x q) (atKX x q) (at_spec w0 hq9)) (hm_gV hb_525 hb_526 hb_527 hb_2 hb_528) hd_X6_mixAlert rfl hX rfl rfl ⟨Nat.le_of_ble_eq_true rfl, Nat.le_of_ble_eq_true rfl⟩ rfl hl.1 rfl (Nat.le_of_ble_eq_true rfl) dX6_digest_133 ⟨Nat.le_of_ble_eq_true rfl, Nat.le_of_ble_eq_true rfl⟩ rfl (fun H locs hG => ?_)
              refine lv_lstore_n (lv' := [(1, .long (dg4 x (q + 1))), (0, .ref (ad (0, 0, 0))), (4, .int (nI q)), (3, .int (nI (caX x 1)))]) S.1 S.2.1 dX6_digest_136 rfl hl (by decide) rfl (fun ls hl => ?_)
              refine lv_iinc (v := nI (q + 1)) (lv' := [(4, .int (nI (q + 1))), (1, .long (dg4 x (q + 1))), (0, .ref (ad (0, 0, 0))), (3, .int (nI (caX x 1)))]) S.1 S.2.1 dX6_digest_137 hl (k := 2) rfl (nI_1 q) (by decide) rfl (fun ls hl => ?_)
              refine lv_goto (tgt := 123) S.1 S.2.1 dX6_digest_140 (by decide) ?_
              exact ih123 (q + 1) (by omega) _ _ _ hG (lv_sub hl [2, 1, 0, 3] rfl)
          exact L123_2 (caX x 1) 0 (by omega) _ _ _ hG (lv_sub hl [2, 3, 0, 1] rfl)
        | succ n ih63 =>
          intro r h063 H locs ls hG hl
          have hr9 : r < (xR x) := by omega
          refine lv_iload_n S.1 S.2.1 dX6_digest_63 rfl (lv_at hl 2 rfl) ?_
          refine lv_aload_n S.1 S.2.1 dX6_digest_64 rfl (lv_at hl 0 rfl) ?_
          refine hm_get (k := 1) S hE hG hX rfl rfl hi_X60 (by decide) hb_17 rfl rfl dX6_digest_65 ?_
          refine hm_uV (As := []) (rest := [.int (nI r)]) (st1 := [.int (nI (xR x)), .int (nI r)]) S hE hG (c_size l hLr) (hm_gV hb_97 hb_98 hb_99 hb_15 hb_100) hd_Jx4a65c_size_8abf5 rfl hb2 rfl rfl ⟨Nat.le_of_ble_eq_true rfl, Nat.le_of_ble_eq_true rfl⟩ rfl hl.1 rfl (Nat.le_of_ble_eq_true rfl) dX6_digest_68 ⟨Nat.le_of_ble_eq_true rfl, Nat.le_of_ble_eq_true rfl⟩ rfl (fun H locs hG => ?_)
          refine lv_icmp_ge (tgt := 114) S.1 S.2.1 dX6_digest_71 (by decide) (fun h9 => absurd h9 (nI_ge hr9 (by omega))) (fun _ => ?_)
          refine lv_lload_n S.1 S.2.1 dX6_digest_74 rfl (lv_at hl 1 rfl) ?_
          refine lv_aload_n S.1 S.2.1 dX6_digest_75 rfl (lv_at hl 0 rfl) ?_
          refine lv_iload_n S.1 S.2.1 dX6_digest_76 rfl (lv_at hl 2 rfl) ?_
          refine hm_uV (As := [.int (nI r)]) (rest := [.long (dg3 x r)]) (st1 := [.int (cmX x r), .long (dg3 x r)]) S hE hG (c_X6_calm l g ad M x hx r hr9) (hm_gV hb_517 hb_518 hb_519 hb_2 hb_520) hd_X6_calm rfl hX rfl rfl ⟨Nat.le_of_ble_eq_true rfl, Nat.le_of_ble_eq_true rfl⟩ rfl hl.1 rfl (Nat.le_of_ble_eq_true rfl) dX6_digest_77 ⟨Nat.le_of_ble_eq_true rfl, Nat.le_of_ble_eq_true rfl⟩ rfl (fun H locs hG => ?_)
          refine hm_uS (As := [.long (dg3 x r), .int (cmX x r)]) (rest := []) (st1 := [.long (mxL (dg3 x r) (cmX x r))]) S hE hG (c_X6_mix l g ad M (dg3 x r) (cmX x r)) (hm_gS hb_494 hb_495 hb_2 hb_496) hd_X6_mix ⟨Nat.le_of_ble_eq_true rfl, Nat.le_of_ble_eq_true rfl⟩ rfl hl.1 rfl (Nat.le_of_ble_eq_true rfl) dX6_digest_80 ⟨Nat.le_of_ble_eq_true rfl, Nat.le_of_ble_eq_true rfl⟩ rfl (fun H locs hG => ?_)
          refine lv_lstore_n (lv' := [(1, .long (mxL (dg3 x r) (cmX x r))), (0, .ref (ad (0, 0, 0))), (3, .int (nI r))]) S.1 S.2.1 dX6_digest_83 rfl hl (by decide) rfl (fun ls hl => ?_)
          refine lv_lload_n S.1 S.2.1 dX6_digest_84 rfl (lv_at hl 0 rfl) ?_
          refine lv_aload_n S.1 S.2.1 dX6_digest_85 rfl (lv_at hl 1 rfl) ?_
          refine lv_iload_n S.1 S.2.1 dX6_digest_86 rfl (lv_at hl 2 rfl) ?_
          refine lv_aload_n S.1 S.2.1 dX6_digest_87 rfl (lv_at hl 1 rfl) ?_
          refine hm_get (k := 1) S hE hG hX rfl rfl hi_X60 (by decide) hb_17 rfl rfl dX6_digest_88 ?_
          refine lv_iload_n S.1 S.2.1 dX6_digest_91 rfl (lv_at hl 2 rfl) ?_
          refine hm_uV (As := [.int (nI r)]) (rest := [.int (nI r), .ref (ad (0, 0, 0)), .long (mxL (dg3 x r) (cmX x r))]) (st1 := [.ref (ad (20, r, 0)), .int (nI r), .ref (ad (0, 0, 0)), .long (mxL (dg3 x r) (cmX x r))]) S hE hG (c_get l hLr r hr9) (hm_gV hb_208 hb_209 hb_210 hb_15 hb_211) hd_Jx4a65c_get_915e3 rfl hb2 rfl rfl ⟨Nat.le_of_ble_eq_true rfl, Nat.le_of_ble_eq_true rfl⟩ rfl hl.1 rfl (Nat.le_of_ble_eq_true rfl) dX6_digest_92 ⟨Nat.le_of_ble_eq_true rfl, Nat.le_of_ble_eq_true rfl⟩ rfl (fun H locs hG => ?_)
          refine hm_cast S hE hG (hRu r hr9).1 rfl rfl hb_207 dX6_digest_95 ?_
          refine hm_get (k := 6) S hE hG (hRu r hr9).1 rfl rfl hi_X40 (by decide) hb_171 rfl rfl dX6_digest_98 ?_
          refine hm_uV (As := [.int (nI r), .int (rLi (xRu x r))]) (rest := [.long (mxL (dg3 x r) (cmX x r))]) (st1 := [.int (nI (byX x r (rLi (xRu x r)))), .long (mxL (dg3 x r) (cmX x r))]) S hE hG (c_X6_beyond l g ad M x hx r hr9 (rLi (xRu x r)) (w1 r hr9).1 (w1 r hr9).2) (hm_gV hb_521 hb_522 hb_523 hb_2 hb_524) hd_X6_beyond rfl hX rfl rfl ⟨Nat.le_of_ble_eq_true rfl, Nat.le_of_ble_eq_true rfl⟩ rfl hl.1 rfl (Nat.le_of_ble_eq_true rfl) dX6_digest_101 ⟨Nat.le_of_ble_eq_true rfl, Nat.le_of_ble_eq_true rfl⟩ rfl (fun H locs hG => ?_)
          refine hm_uS (As := [.long (mxL (dg3 x r) (cmX x r)), .int (nI (byX x r (rLi (xRu x r))))]) (rest := []) (st1 := [.long (dg3 x (r + 1))]) S hE hG (c_X6_mix l g ad M (mxL (dg3 x r) (cmX x r)) (nI (byX x r (rLi (xRu x r))))) (hm_gS hb_494 hb_495 hb_2 hb_496) hd_X6_mix ⟨Nat.le_of_ble_eq_true rfl, Nat.le_of_ble_eq_true rfl⟩ rfl hl.1 rfl (Nat.le_of_ble_eq_true rfl) dX6_digest_104 ⟨Nat.le_of_ble_eq_true rfl, Nat.le_of_ble_eq_true rfl⟩ rfl (fun H locs hG => ?_)
          refine lv_lstore_n (lv' := [(1, .long (dg3 x (r + 1))), (0, .ref (ad (0, 0, 0))), (3, .int (nI r))]) S.1 S.2.1 dX6_digest_107 rfl hl (by decide) rfl (fun ls hl => ?_)
          refine lv_iinc (v := nI (r + 1)) (lv' := [(3, .int (nI (r + 1))), (1, .long (dg3 x (r + 1))), (0, .ref (ad (0, 0, 0)))]) S.1 S.2.1 dX6_digest_108 hl (k := 2) rfl (nI_1 r) (by decide) rfl (fun ls hl => ?_)
          refine lv_goto (tgt := 63) S.1 S.2.1 dX6_digest_111 (by decide) ?_
          exact ih63 (r + 1) (by omega) _ _ _ hG (lv_sub hl [2, 1, 0] rfl)
      exact L63_1 (xR x) 0 (by omega) _ _ _ hG (lv_sub hl [1, 2, 0] rfl)
    | succ n ih37 =>
      intro i h037 H locs ls hG hl
      have hi9 : i < (xS x) := by omega
      refine lv_iload_n S.1 S.2.1 dX6_digest_37 rfl (lv_at hl 2 rfl) ?_
      refine lv_aload_n S.1 S.2.1 dX6_digest_38 rfl (lv_at hl 0 rfl) ?_
      refine hm_get (k := 0) S hE hG hX rfl rfl hi_X60 (by decide) hb_16 rfl rfl dX6_digest_39 ?_
      refine hm_uV (As := []) (rest := [.int (nI i)]) (st1 := [.int (nI (xS x)), .int (nI i)]) S hE hG (c_size l hLs) (hm_gV hb_97 hb_98 hb_99 hb_15 hb_100) hd_Jx4a65c_size_8abf5 rfl hb1 rfl rfl ⟨Nat.le_of_ble_eq_true rfl, Nat.le_of_ble_eq_true rfl⟩ rfl hl.1 rfl (Nat.le_of_ble_eq_true rfl) dX6_digest_42 ⟨Nat.le_of_ble_eq_true rfl, Nat.le_of_ble_eq_true rfl⟩ rfl (fun H locs hG => ?_)
      refine lv_icmp_ge (tgt := 61) S.1 S.2.1 dX6_digest_45 (by decide) (fun h9 => absurd h9 (nI_ge hi9 (by omega))) (fun _ => ?_)
      refine lv_aload_n S.1 S.2.1 dX6_digest_48 rfl (lv_at hl 0 rfl) ?_
      refine lv_lload_n S.1 S.2.1 dX6_digest_49 rfl (lv_at hl 1 rfl) ?_
      refine lv_iload_n S.1 S.2.1 dX6_digest_50 rfl (lv_at hl 2 rfl) ?_
      refine hm_uV (As := [.long (dg2 x i), .int (nI i)]) (rest := []) (st1 := [.long (dg2 x (i + 1))]) S hE hG (c_X6_mixSeries l g ad M x hx (dg2 x i) i hi9) (hm_gV hb_499 hb_500 hb_501 hb_2 hb_502) hd_X6_mixSeries rfl hX rfl rfl ⟨Nat.le_of_ble_eq_true rfl, Nat.le_of_ble_eq_true rfl⟩ rfl hl.1 rfl (Nat.le_of_ble_eq_true rfl) dX6_digest_51 ⟨Nat.le_of_ble_eq_true rfl, Nat.le_of_ble_eq_true rfl⟩ rfl (fun H locs hG => ?_)
      refine lv_lstore_n (lv' := [(1, .long (dg2 x (i + 1))), (0, .ref (ad (0, 0, 0))), (3, .int (nI i))]) S.1 S.2.1 dX6_digest_54 rfl hl (by decide) rfl (fun ls hl => ?_)
      refine lv_iinc (v := nI (i + 1)) (lv' := [(3, .int (nI (i + 1))), (1, .long (dg2 x (i + 1))), (0, .ref (ad (0, 0, 0)))]) S.1 S.2.1 dX6_digest_55 hl (k := 2) rfl (nI_1 i) (by decide) rfl (fun ls hl => ?_)
      refine lv_goto (tgt := 37) S.1 S.2.1 dX6_digest_58 (by decide) ?_
      exact ih37 (i + 1) (by omega) _ _ _ hG (lv_sub hl [2, 1, 0] rfl)
  exact L37_0 (xS x) 0 (by omega) _ _ _ hG (lv_sub hl [2, 1, 0] rfl)
