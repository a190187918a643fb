def hkF (x : XD) (u : RuD) (k : Nat) : Bool := anyB (fun i => tkF u i (xSe x i) k) (xS x)
def laL (x : XD) (u : RuD) (k a : Nat) : Nat → Int32
  | 0 => 0
  | i + 1 => if tkF u i (xSe x i) k then laL x u k a i + lookF (xSe x i) (rLo u) (rW u) a else laL x u k a i
def laF (x : XD) (u : RuD) (k a : Nat) : Int32 := laL x u k a (xS x)
def plF (x : XD) (u : RuD) (k : Nat) : Int32 := if rWa u = 0 then (if k < xS x then sPl (xSe x k) else -1) else if rWa u = 1 then nI k else -1
def ih1 (x : XD) (ru pl wo : Int32) (h : Nat) : Bool := !decide (nI h = wo) && covF (xHu x h) ru pl (nI (xC x))
def ihF (x : XD) (ru pl wo : Int32) : Bool := anyB (ih1 x ru pl wo) (xH x)
def iq1 (x : XD) (rk pl wo : Int32) (r k : Nat) : Bool := decide (rk < rRk (xRu x r)) && ((decide (plF x (xRu x r) k = pl) || decide (plF x (xRu x r) k = -1)) && (decide ((xAl x r k).1 = 2) && !ihF x (nI r) (plF x (xRu x r) k) wo))
def iq2 (x : XD) (rk pl wo : Int32) (r : Nat) : Bool := anyB (iq1 x rk pl wo r) 12
def iqF (x : XD) (rk pl wo : Int32) : Bool := anyB (iq2 x rk pl wo) (xR x)
def hrF (x : XD) (r k : Nat) (wo : Int32) : Int32 := if ¬ (xAl x r k).1 = 2 then 1 else if ihF x (nI r) (plF x (xRu x r) k) wo then 2 else if iqF x (rRk (xRu x r)) (plF x (xRu x r) k) wo then 3 else 0
def cl1 (x : XD) (wo : Int32) (r k : Nat) : Bool := decide (hrF x r k wo = 0)
def clN (x : XD) (wo : Int32) : Nat → Nat := sumN (fun r => cntB (cl1 x wo r) 12)
def clX (x : XD) (wo : Int32) : Nat := clN x wo (xR x)
def caN (x : XD) (le : Int32) : Nat → Nat := sumN (fun r => caF (xAl x r) le)
def caX (x : XD) (le : Int32) : Nat := caN x le (xR x)
def cc1 (x : XD) (h : HuD) (r k : Nat) : Bool := !decide ((xAl x r k).1 = 0) && covF h (nI r) (plF x (xRu x r) k) (nI (xC x))
def ccN (x : XD) (h : HuD) : Nat → Nat := sumN (fun r => cntB (cc1 x h r) 12)
def ccX (x : XD) (h : HuD) : Nat := ccN x h (xR x)
def goF (x : XD) (r k : Nat) : Int32 := if xG x = 1 then nI r else if xG x = 2 then (if plF x (xRu x r) k = -1 then 6 else plF x (xRu x r) k) else 0
def grL2 (x : XD) (d : GrD) : Nat → Int32
  | 0 => -1
  | r + 1 => if gLo d r = 0 then grL2 x d r else mxI (grL2 x d r) (rRk (xRu x r))
def grR (x : XD) (d : GrD) : Int32 := grL2 x d (xR x)
theorem hm_szO {n : Nat} (k : Nat) (h : k < n) (hn : n < 1000) : bI (decide (nI k < 0) || decide (nI (n - 1) < nI k)) = 0 := hm_in0 (by omega) (by omega)
theorem hm_szO' {n : Nat} (k : Nat) (h : n ≤ k) (hk : k < 1000) : ¬ bI (decide (nI k < 0) || decide (nI n - 1 < nI k)) = 0 := by
  rcases Nat.eq_zero_or_pos n with h0 | h0
  · subst h0
    rw [show nI 0 - 1 = -1 by decide, decide_eq_true (show (-1 : Int32) < nI k by
      rcases Nat.eq_zero_or_pos k with h1 | h1
      · subst h1; decide
      · exact Int32.lt_trans (by decide : (-1 : Int32) < 0) (nI_lt (a := 0) h1 (by omega)))]
    simp [bI]
  · rw [show nI n - 1 = nI (n - 1) from pk_sub (b := 1) h0, decide_eq_true (nI_lt (by omega) (by omega))]
    simp [bI]

abbrev rm_X6_requireSeries : Room := { frames := 3, cells := 0, slots := 0, locals := 64 }
set_option maxHeartbeats 4000000 in
set_option maxRecDepth 100000 in
theorem c_X6_requireSeries (l : Launch) (g : GV) (ad : AD) (M : CT) (x : XD) (hx : hasX g ad M x) (k : Nat) (hk9 : k < xS x) : hm_Met l yX6_requireSeries cX6_requireSeries 2 (some (.object "HarbourlightMonitor$Series")) rm_X6_requireSeries g ad M [.ref (ad (0, 0, 0)), .int (nI k)] (hm_pU ad M (some (.ref (ad (10, k, 0))))) := by
  refine hm_start (own := RX6) (by decide) rfl (Nat.le_of_ble_eq_true rfl) ?_
  intro p e s m args below meth c S hr hlk hnm hE hG ls hl
  have hl : lv_has ls 2 [(0, .ref (ad (0, 0, 0))), (1, .int (nI k))] := hl
  obtain ⟨hX, hLs, hLr, hLh, h7, hLg, h70, hSe, hRu, hHu, hGr, hS6, hR6, hH5⟩ := id hx
  obtain ⟨fs1, hb1⟩ := hLs.ob
  obtain ⟨fs2, hb2⟩ := hLr.ob
  obtain ⟨fs3, hb3⟩ := hLh.ob
  refine lv_iload_n S.1 S.2.1 dX6_requireSeries_0 rfl (lv_at hl 1 rfl) ?_
  refine lv_iconst (v := 0) S.1 S.2.1 dX6_requireSeries_1 (by decide) ?_
  refine lv_aload_n S.1 S.2.1 dX6_requireSeries_2 rfl (lv_at hl 0 rfl) ?_
  refine hm_get (k := 0) S hE hG hX rfl rfl hi_X60 (by decide) hb_16 rfl rfl dX6_requireSeries_3 ?_
  refine hm_uV (As := []) (rest := [.int 0, .int (nI k)]) (st1 := [.int (nI (xS x)), .int 0, .int (nI k)]) S hE hG (c_size l hLs) (hm_gV hb_97 hb_98 hb_99 hb_15 hb_100) hd_Jx4a65c_size_8abf5 rfl hb1 rfl rfl ⟨Nat.le_of_ble_eq_true rfl, Nat.le_of_ble_eq_true rfl⟩ rfl hl.1 rfl (Nat.le_of_ble_eq_true rfl) dX6_requireSeries_6 ⟨Nat.le_of_ble_eq_true rfl, Nat.le_of_ble_eq_true rfl⟩ rfl (fun H locs hG => ?_)
  refine lv_iconst (v := 1) S.1 S.2.1 dX6_requireSeries_9 (by decide) ?_
  refine lv_isub S.1 S.2.1 dX6_requireSeries_10 ?_
  refine hm_top (z := nI (xS x - 1)) (pk_sub (b := 1) (by omega)) ?_
  refine hm_uS (As := [.int (nI k), .int 0, .int (nI (xS x - 1))]) (rest := []) (st1 := [.int (bI (decide ((nI k) < 0) || decide ((nI (xS x - 1)) < (nI k))))]) S hE hG (c_X6_isOutside l g ad M (nI k) 0 (nI (xS x - 1))) (hm_gS hb_91 hb_92 hb_2 hb_93) hd_X6_isOutside ⟨Nat.le_of_ble_eq_true rfl, Nat.le_of_ble_eq_true rfl⟩ rfl hl.1 rfl (Nat.le_of_ble_eq_true rfl) dX6_requireSeries_11 ⟨Nat.le_of_ble_eq_true rfl, Nat.le_of_ble_eq_true rfl⟩ rfl (fun H locs hG => ?_)
  refine lv_if_eq (tgt := 28) S.1 S.2.1 dX6_requireSeries_14 (by decide) (fun _ => ?_) (fun h9 => absurd (hm_szO k hk9 (by omega)) h9)
  refine lv_aload_n S.1 S.2.1 dX6_requireSeries_28 rfl (lv_at hl 0 rfl) ?_
  refine hm_get (k := 0) S hE hG hX rfl rfl hi_X60 (by decide) hb_16 rfl rfl dX6_requireSeries_29 ?_
  refine lv_iload_n S.1 S.2.1 dX6_requireSeries_32 rfl (lv_at hl 1 rfl) ?_
  refine hm_uV (As := [.int (nI k)]) (rest := []) (st1 := [.ref (ad (10, k, 0))]) S hE hG (c_get l hLs k hk9) (hm_gV hb_208 hb_209 hb_210 hb_15 hb_211) hd_Jx4a65c_get_915e3 rfl hb1 rfl rfl ⟨Nat.le_of_ble_eq_true rfl, Nat.le_of_ble_eq_true rfl⟩ rfl hl.1 rfl (Nat.le_of_ble_eq_true rfl) dX6_requireSeries_33 ⟨Nat.le_of_ble_eq_true rfl, Nat.le_of_ble_eq_true rfl⟩ rfl (fun H locs hG => ?_)
  refine hm_cast S hE hG (hSe k hk9).1 rfl rfl hb_246 dX6_requireSeries_36 ?_
  exact hm_aret S hG hr (Or.inl ⟨_, rfl⟩) hlk (⟨rfl, rfl, rfl⟩) (Nat.le_of_ble_eq_true rfl) (Nat.le_of_ble_eq_true rfl) dX6_requireSeries_39

abbrev rm_X6_requireRule : Room := { frames := 3, cells := 0, slots := 0, locals := 64 }
set_option maxHeartbeats 4000000 in
set_option maxRecDepth 100000 in
theorem c_X6_requireRule (l : Launch) (g : GV) (ad : AD) (M : CT) (x : XD) (hx : hasX g ad M x) (k : Nat) (hk9 : k < xR x) : hm_Met l yX6_requireRule cX6_requireRule 2 (some (.object "HarbourlightMonitor$Rule")) rm_X6_requireRule g ad M [.ref (ad (0, 0, 0)), .int (nI k)] (hm_pU ad M (some (.ref (ad (20, k, 0))))) := by
  refine hm_start (own := RX6) (by decide) rfl (Nat.le_of_ble_eq_true rfl) ?_
  intro p e s m args below meth c S hr hlk hnm hE hG ls hl
  have hl : lv_has ls 2 [(0, .ref (ad (0, 0, 0))), (1, .int (nI k))] := hl
  obtain ⟨hX, hLs, hLr, hLh, h7, hLg, h70, hSe, hRu, hHu, hGr, hS6, hR6, hH5⟩ := id hx
  obtain ⟨fs1, hb1⟩ := hLs.ob
  obtain ⟨fs2, hb2⟩ := hLr.ob
  obtain ⟨fs3, hb3⟩ := hLh.ob
  refine lv_iload_n S.1 S.2.1 dX6_requireRule_0 rfl (lv_at hl 1 rfl) ?_
  refine lv_iconst (v := 0) S.1 S.2.1 dX6_requireRule_1 (by decide) ?_
  refine lv_aload_n S.1 S.2.1 dX6_requireRule_2 rfl (lv_at hl 0 rfl) ?_
  refine hm_get (k := 1) S hE hG hX rfl rfl hi_X60 (by decide) hb_17 rfl rfl dX6_requireRule_3 ?_
  refine hm_uV (As := []) (rest := [.int 0, .int (nI k)]) (st1 := [.int (nI (xR x)), .int 0, .int (nI k)]) S hE hG (c_size l hLr) (hm_gV hb_97 hb_98 hb_99 hb_15 hb_100) hd_Jx4a65c_size_8abf5 rfl hb2 rfl rfl ⟨Nat.le_of_ble_eq_true rfl, Nat.le_of_ble_eq_true rfl⟩ rfl hl.1 rfl (Nat.le_of_ble_eq_true rfl) dX6_requireRule_6 ⟨Nat.le_of_ble_eq_true rfl, Nat.le_of_ble_eq_true rfl⟩ rfl (fun H locs hG => ?_)
  refine lv_iconst (v := 1) S.1 S.2.1 dX6_requireRule_9 (by decide) ?_
  refine lv_isub S.1 S.2.1 dX6_requireRule_10 ?_
  refine hm_top (z := nI (xR x - 1)) (pk_sub (b := 1) (by omega)) ?_
  refine hm_uS (As := [.int (nI k), .int 0, .int (nI (xR x - 1))]) (rest := []) (st1 := [.int (bI (decide ((nI k) < 0) || decide ((nI (xR x - 1)) < (nI k))))]) S hE hG (c_X6_isOutside l g ad M (nI k) 0 (nI (xR x - 1))) (hm_gS hb_91 hb_92 hb_2 hb_93) hd_X6_isOutside ⟨Nat.le_of_ble_eq_true rfl, Nat.le_of_ble_eq_true rfl⟩ rfl hl.1 rfl (Nat.le_of_ble_eq_true rfl) dX6_requireRule_11 ⟨Nat.le_of_ble_eq_true rfl, Nat.le_of_ble_eq_true rfl⟩ rfl (fun H locs hG => ?_)
  refine lv_if_eq (tgt := 28) S.1 S.2.1 dX6_requireRule_14 (by decide) (fun _ => ?_) (fun h9 => absurd (hm_szO k hk9 (by omega)) h9)
  refine lv_aload_n S.1 S.2.1 dX6_requireRule_28 rfl (lv_at hl 0 rfl) ?_
  refine hm_get (k := 1) S hE hG hX rfl rfl hi_X60 (by decide) hb_17 rfl rfl dX6_requireRule_29 ?_
  refine lv_iload_n S.1 S.2.1 dX6_requireRule_32 rfl (lv_at hl 1 rfl) ?_
  refine hm_uV (As := [.int (nI k)]) (rest := []) (st1 := [.ref (ad (20, k, 0))]) S hE hG (c_get l hLr k hk9) (hm_gV hb_208 hb_209 hb_210 hb_15 hb_211) hd_Jx4a65c_get_915e3 rfl hb2 rfl rfl ⟨Nat.le_of_ble_eq_true rfl, Nat.le_of_ble_eq_true rfl⟩ rfl hl.1 rfl (Nat.le_of_ble_eq_true rfl) dX6_requireRule_33 ⟨Nat.le_of_ble_eq_true rfl, Nat.le_of_ble_eq_true rfl⟩ rfl (fun H locs hG => ?_)
  refine hm_cast S hE hG (hRu k hk9).1 rfl rfl hb_207 dX6_requireRule_36 ?_
  exact hm_aret S hG hr (Or.inl ⟨_, rfl⟩) hlk (⟨rfl, rfl, rfl⟩) (Nat.le_of_ble_eq_true rfl) (Nat.le_of_ble_eq_true rfl) dX6_requireRule_39

abbrev rm_X6_requireHush : Room := { frames := 3, cells := 0, slots := 0, locals := 64 }
set_option maxHeartbeats 4000000 in
set_option maxRecDepth 100000 in
theorem c_X6_requireHush (l : Launch) (g : GV) (ad : AD) (M : CT) (x : XD) (hx : hasX g ad M x) (k : Nat) (hk9 : k < xH x) : hm_Met l yX6_requireHush cX6_requireHush 2 (some (.object "HarbourlightMonitor$Hush")) rm_X6_requireHush g ad M [.ref (ad (0, 0, 0)), .int (nI k)] (hm_pU ad M (some (.ref (ad (30, k, 0))))) := by
  refine hm_start (own := RX6) (by decide) rfl (Nat.le_of_ble_eq_true rfl) ?_
  intro p e s m args below meth c S hr hlk hnm hE hG ls hl
  have hl : lv_has ls 2 [(0, .ref (ad (0, 0, 0))), (1, .int (nI k))] := hl
  obtain ⟨hX, hLs, hLr, hLh, h7, hLg, h70, hSe, hRu, hHu, hGr, hS6, hR6, hH5⟩ := id hx
  obtain ⟨fs1, hb1⟩ := hLs.ob
  obtain ⟨fs2, hb2⟩ := hLr.ob
  obtain ⟨fs3, hb3⟩ := hLh.ob
  refine lv_iload_n S.1 S.2.1 dX6_requireHush_0 rfl (lv_at hl 1 rfl) ?_
  refine lv_iconst (v := 0) S.1 S.2.1 dX6_requireHush_1 (by decide) ?_
  refine lv_aload_n S.1 S.2.1 dX6_requireHush_2 rfl (lv_at hl 0 rfl) ?_
  refine hm_get (k := 2) S hE hG hX rfl rfl hi_X60 (by decide) hb_18 rfl rfl dX6_requireHush_3 ?_
  refine hm_uV (As := []) (rest := [.int 0, .int (nI k)]) (st1 := [.int (nI (xH x)), .int 0, .int (nI k)]) S hE hG (c_size l hLh) (hm_gV hb_97 hb_98 hb_99 hb_15 hb_100) hd_Jx4a65c_size_8abf5 rfl hb3 rfl rfl ⟨Nat.le_of_ble_eq_true rfl, Nat.le_of_ble_eq_true rfl⟩ rfl hl.1 rfl (Nat.le_of_ble_eq_true rfl) dX6_requireHush_6 ⟨Nat.le_of_ble_eq_true rfl, Nat.le_of_ble_eq_true rfl⟩ rfl (fun H locs hG => ?_)
  refine lv_iconst (v := 1) S.1 S.2.1 dX6_requireHush_9 (by decide) ?_
  refine lv_isub S.1 S.2.1 dX6_requireHush_10 ?_
  refine hm_top (z := nI (xH x - 1)) (pk_sub (b := 1) (by omega)) ?_
  refine hm_uS (As := [.int (nI k), .int 0, .int (nI (xH x - 1))]) (rest := []) (st1 := [.int (bI (decide ((nI k) < 0) || decide ((nI (xH x - 1)) < (nI k))))]) S hE hG (c_X6_isOutside l g ad M (nI k) 0 (nI (xH x - 1))) (hm_gS hb_91 hb_92 hb_2 hb_93) hd_X6_isOutside ⟨Nat.le_of_ble_eq_true rfl, Nat.le_of_ble_eq_true rfl⟩ rfl hl.1 rfl (Nat.le_of_ble_eq_true rfl) dX6_requireHush_11 ⟨Nat.le_of_ble_eq_true rfl, Nat.le_of_ble_eq_true rfl⟩ rfl (fun H locs hG => ?_)
  refine lv_if_eq (tgt := 28) S.1 S.2.1 dX6_requireHush_14 (by decide) (fun _ => ?_) (fun h9 => absurd (hm_szO k hk9 (by omega)) h9)
  refine lv_aload_n S.1 S.2.1 dX6_requireHush_28 rfl (lv_at hl 0 rfl) ?_
  refine hm_get (k := 2) S hE hG hX rfl rfl hi_X60 (by decide) hb_18 rfl rfl dX6_requireHush_29 ?_
  refine lv_iload_n S.1 S.2.1 dX6_requireHush_32 rfl (lv_at hl 1 rfl) ?_
  refine hm_uV (As := [.int (nI k)]) (rest := []) (st1 := [.ref (ad (30, k, 0))]) S hE hG (c_get l hLh k hk9) (hm_gV hb_208 hb_209 hb_210 hb_15 hb_211) hd_Jx4a65c_get_915e3 rfl hb3 rfl rfl ⟨Nat.le_of_ble_eq_true rfl, Nat.le_of_ble_eq_true rfl⟩ rfl hl.1 rfl (Nat.le_of_ble_eq_true rfl) dX6_requireHush_33 ⟨Nat.le_of_ble_eq_true rfl, Nat.le_of_ble_eq_true rfl⟩ rfl (fun H locs hG => ?_)
  refine hm_cast S hE hG (hHu k hk9) rfl rfl hb_320 dX6_requireHush_36 ?_
  exact hm_aret S hG hr (Or.inl ⟨_, rfl⟩) hlk (⟨rfl, rfl, rfl⟩) (Nat.le_of_ble_eq_true rfl) (Nat.le_of_ble_eq_true rfl) dX6_requireHush_39

abbrev rm_X6_hasKey : Room := { frames := 3, cells := 0, slots := 0, locals := 64 }
set_option maxHeartbeats 4000000 in
set_option maxRecDepth 100000 in
theorem c_X6_hasKey (l : Launch) (g : GV) (ad : AD) (M : CT) (x : XD) (hx : hasX g ad M x) (r : Nat) (hr9 : r < xR x) (k : Nat) (hk : k < 12) : hm_Met l yX6_hasKey cX6_hasKey 4 (some .boolean) rm_X6_hasKey g ad M [.ref (ad (0, 0, 0)), .ref (ad (20, r, 0)), .int (nI k)] (hm_pU ad M (some (.int (bI (hkF x (xRu x r) k))))) := by
  refine hm_start (own := RX6) (by decide) rfl (Nat.le_of_ble_eq_true rfl) ?_
  intro p e s m args below meth c S hr hlk hnm hE hG ls hl
  have hl : lv_has ls 4 [(0, .ref (ad (0, 0, 0))), (1, .ref (ad (20, r, 0))), (2, .int (nI k))] := hl
  obtain ⟨hX, hLs, hLr, hLh, h7, hLg, h70, hSe, hRu, hHu, hGr, hS6, hR6, hH5⟩ := id hx
  obtain ⟨fs1, hb1⟩ := hLs.ob
  obtain ⟨fs2, hb2⟩ := hLr.ob
  obtain ⟨fs3, hb3⟩ := hLh.ob
  refine lv_iconst (v := 0) S.1 S.2.1 dX6_hasKey_0 (by decide) ?_
  refine lv_istore_n (lv' := [(3, .int 0), (0, .ref (ad (0, 0, 0))), (1, .ref (ad (20, r, 0))), (2, .int (nI k))]) S.1 S.2.1 dX6_hasKey_1 rfl hl (by decide) rfl (fun ls hl => ?_)
  have L2_0 : ∀ (n : Nat) (i : Nat), anyB (fun i => tkF (xRu x r) i (xSe x i) k) i = false → n + i = xS x → ∀ (H : Heap) (locs : List Loc) (ls : Array Slot), hm_G g ad M s.heap H locs → lv_has ls 4 [(0, .ref (ad (0, 0, 0))), (1, .ref (ad (20, r, 0))), (2, .int (nI k)), (3, .int (nI i))] → W p l e rm_X6_hasKey s m args below meth c H locs 0 0 (MQ below (hm_Q g (hm_pU ad M (some (.int (bI (hkF x (xRu x r) k)))))) args s rm_X6_hasKey.cells rm_X6_hasKey.slots (hm_A g)) (F0 m 2 ls []) := by
    intro n
    induction n with
    | zero =>
      intro i hF hk0 H locs ls hG hl
      obtain rfl : i = xS x := by omega
      refine lv_iload_n S.1 S.2.1 dX6_hasKey_2 rfl (lv_at hl 3 rfl) ?_
      refine lv_aload_n S.1 S.2.1 dX6_hasKey_3 rfl (lv_at hl 0 rfl) ?_
      refine hm_get (k := 0) S hE hG hX rfl rfl hi_X60 (by decide) hb_16 rfl rfl dX6_hasKey_4 ?_
      refine hm_uV (As := []) (rest := [.int (nI (xS x))]) (st1 := [.int (nI (xS x)), .int (nI (xS x))]) S hE hG (c_size l hLs) (hm_gV hb_97 hb_98 hb_99 hb_15 hb_100) hd_Jx4a65c_size_8abf5 rfl hb1 rfl rfl ⟨Nat.le_of_ble_eq_true rfl, Nat.le_of_ble_eq_true rfl⟩ rfl hl.1 rfl (Nat.le_of_ble_eq_true rfl) dX6_hasKey_7 ⟨Nat.le_of_ble_eq_true rfl, Nat.le_of_ble_eq_true rfl⟩ rfl (fun H locs hG => ?_)
      refine lv_icmp_ge (tgt := 40) S.1 S.2.1 dX6_hasKey_10 (by decide) (fun _ => ?_) (fun h9 => absurd (nI_le (Nat.le_refl _) (by omega)) h9)
      refine lv_iconst (v := 0) S.1 S.2.1 dX6_hasKey_40 (by decide) ?_
      exact hm_zret S hG hr hlk (by decide) (⟨by rw [show hkF x (xRu x r) k = false from hF]; rfl, rfl, rfl⟩) (Nat.le_of_ble_eq_true rfl) (Nat.le_of_ble_eq_true rfl) dX6_hasKey_41
    | succ n ih2 =>
      intro i hF hk0 H locs ls hG hl
      have hi9 : i < xS x := by omega
      refine lv_iload_n S.1 S.2.1 dX6_hasKey_2 rfl (lv_at hl 3 rfl) ?_
      refine lv_aload_n S.1 S.2.1 dX6_hasKey_3 rfl (lv_at hl 0 rfl) ?_
      refine hm_get (k := 0) S hE hG hX rfl rfl hi_X60 (by decide) hb_16 rfl rfl dX6_hasKey_4 ?_
      refine hm_uV (As := []) (rest := [.int (nI i)]) (st1 := [.int (nI (xS x)), .int (nI i)]) S hE hG (c_size l hLs) (hm_gV hb_97 hb_98 hb_99 hb_15 hb_100) hd_Jx4a65c_size_8abf5 rfl hb1 rfl rfl ⟨Nat.le_of_ble_eq_true rfl, Nat.le_of_ble_eq_true rfl⟩ rfl hl.1 rfl (Nat.le_of_ble_eq_true rfl) dX6_hasKey_7 ⟨Nat.le_of_ble_eq_true rfl, Nat.le_of_ble_eq_true rfl⟩ rfl (fun H locs hG => ?_)
      refine lv_icmp_ge (tgt := 40) S.1 S.2.1 dX6_hasKey_10 (by decide) (fun h9 => absurd h9 (nI_ge hi9 (by omega))) (fun _ => ?_)
      refine lv_aload_n S.1 S.2.1 dX6_hasKey_13 rfl (lv_at hl 1 rfl) ?_
      refine lv_aload_n S.1 S.2.1 dX6_hasKey_14 rfl (lv_at hl 0 rfl) ?_
      refine hm_get (k := 0) S hE hG hX rfl rfl hi_X60 (by decide) hb_16 rfl rfl dX6_hasKey_15 ?_
      refine lv_iload_n S.1 S.2.1 dX6_hasKey_18 rfl (lv_at hl 3 rfl) ?_
      refine hm_uV (As := [.int (nI i)]) (rest := [.ref (ad (20, r, 0))]) (st1 := [.ref (ad (10, i, 0)), .ref (ad (20, r, 0))]) S hE hG (c_get l hLs i hi9) (hm_gV hb_208 hb_209 hb_210 hb_15 hb_211) hd_Jx4a65c_get_915e3 rfl hb1 rfl rfl ⟨Nat.le_of_ble_eq_true rfl, Nat.le_of_ble_eq_true rfl⟩ rfl hl.1 rfl (Nat.le_of_ble_eq_true rfl) dX6_hasKey_19 ⟨Nat.le_of_ble_eq_true rfl, Nat.le_of_ble_eq_true rfl⟩ rfl (fun H locs hG => ?_)
      refine hm_cast S hE hG (hSe i hi9).1 rfl rfl hb_246 dX6_hasKey_22 ?_
      refine lv_iload_n S.1 S.2.1 dX6_hasKey_25 rfl (lv_at hl 2 rfl) ?_
      refine hm_uV (As := [.ref (ad (10, i, 0)), .int (nI k)]) (rest := []) (st1 := [.int (bI (tkF (xRu x r) i (xSe x i) k))]) S hE hG (c_X4_takes l g ad M i (xSe x i) (hSe i hi9) r (xRu x r) (xAl x r) (hRu r hr9) k hk) (hm_gV hb_343 hb_344 hb_345 hb_170 hb_346) hd_X4_takes rfl (hRu r hr9).1 rfl rfl ⟨Nat.le_of_ble_eq_true rfl, Nat.le_of_ble_eq_true rfl⟩ rfl hl.1 rfl (Nat.le_of_ble_eq_true rfl) dX6_hasKey_26 ⟨Nat.le_of_ble_eq_true rfl, Nat.le_of_ble_eq_true rfl⟩ rfl (fun H locs hG => ?_)
      refine lv_if_eq (tgt := 34) S.1 S.2.1 dX6_hasKey_29 (by decide) (fun c29 => ?_) (fun c29 => ?_)
      · skip
        refine lv_iinc (v := nI (i + 1)) (lv' := [(3, .int (nI (i + 1))), (0, .ref (ad (0, 0, 0))), (1, .ref (ad (20, r, 0))), (2, .int (nI k))]) S.1 S.2.1 dX6_hasKey_34 hl (k := 3) rfl (nI_1 i) (by decide) rfl (fun ls hl => ?_)
        refine lv_goto (tgt := 2) S.1 S.2.1 dX6_hasKey_37 (by decide) ?_
        exact ih2 (i + 1) (anyB_step hF (bI_0.mp c29)) (by omega) _ _ _ hG (lv_sub hl [1, 2, 3, 0] rfl)
      · skip
        refine lv_iconst (v := 1) S.1 S.2.1 dX6_hasKey_32 (by decide) ?_
        exact hm_zret S hG hr hlk (by decide) (⟨by rw [show hkF x (xRu x r) k = true from anyB_true hi9 (bI_ne.mp c29)]; rfl, rfl, rfl⟩) (Nat.le_of_ble_eq_true rfl) (Nat.le_of_ble_eq_true rfl) dX6_hasKey_33
  exact L2_0 (xS x) 0 rfl rfl _ _ _ hG (lv_sub hl [1, 2, 3, 0] rfl)

abbrev rm_X6_lookedAt : Room := { frames := 4, cells := 0, slots := 0, locals := 103 }
set_option maxHeartbeats 4000000 in
set_option maxRecDepth 100000 in
theorem c_X6_lookedAt (l : Launch) (g : GV) (ad : AD) (M : CT) (x : XD) (hx : hasX g ad M x) (r : Nat) (hr9 : r < xR x) (k : Nat) (hk : k < 12) (a : Nat) (ha9 : a < 100) : hm_Met l yX6_lookedAt cX6_lookedAt 7 (some .int) rm_X6_lookedAt g ad M [.ref (ad (0, 0, 0)), .ref (ad (20, r, 0)), .int (nI k), .int (nI a)] (hm_pU ad M (some (.int (laF x (xRu x r) k a)))) := by
  refine hm_start (own := RX6) (by decide) rfl (Nat.le_of_ble_eq_true rfl) ?_
  intro p e s m args below meth c S hr hlk hnm hE hG ls hl
  have hl : lv_has ls 7 [(0, .ref (ad (0, 0, 0))), (1, .ref (ad (20, r, 0))), (2, .int (nI k)), (3, .int (nI a))] := hl
  obtain ⟨hX, hLs, hLr, hLh, h7, hLg, h70, hSe, hRu, hHu, hGr, hS6, hR6, hH5⟩ := id hx
  obtain ⟨fs1, hb1⟩ := hLs.ob
  obtain ⟨fs2, hb2⟩ := hLr.ob
  obtain ⟨fs3, hb3⟩ := hLh.ob
  obtain ⟨-, -, -, -, hlo, hw, hwa⟩ := id (hRu r hr9)
  refine lv_iconst (v := 0) S.1 S.2.1 dX6_lookedAt_0 (by decide) ?_
  refine lv_istore (lv' := [(4, .int 0), (0, .ref (ad (0, 0, 0))), (1, .ref (ad (20, r, 0))), (2, .int (nI k)), (3, .int (nI a))]) S.1 S.2.1 dX6_lookedAt_1 hl (by decide) rfl (fun ls hl => ?_)
  refine lv_iconst (v := 0) S.1 S.2.1 dX6_lookedAt_3 (by decide) ?_
  refine lv_istore (lv' := [(5, .int 0), (4, .int 0), (0, .ref (ad (0, 0, 0))), (1, .ref (ad (20, r, 0))), (2, .int (nI k)), (3, .int (nI a))]) S.1 S.2.1 dX6_lookedAt_4 hl (by decide) rfl (fun ls hl => ?_)
  have L6_0 : ∀ (n : Nat) (i : Nat), n + i = xS x → ∀ (H : Heap) (locs : List Loc) (ls : Array Slot), hm_G g ad M s.heap H locs → lv_has ls 7 [(0, .ref (ad (0, 0, 0))), (1, .ref (ad (20, r, 0))), (2, .int (nI k)), (3, .int (nI a)), (4, .int (laL x (xRu x r) k a i)), (5, .int (nI i))] → W p l e rm_X6_lookedAt s m args below meth c H locs 0 0 (MQ below (hm_Q g (hm_pU ad M (some (.int (laF x (xRu x r) k a))))) args s rm_X6_lookedAt.cells rm_X6_lookedAt.slots (hm_A g)) (F0 m 6 ls []) := by
    intro n
    induction n with
    | zero =>
      intro i hk0 H locs ls hG hl
      obtain rfl : i = xS x := by omega
      refine lv_iload S.1 S.2.1 dX6_lookedAt_6 (lv_at hl 5 rfl) ?_
      refine lv_aload_n S.1 S.2.1 dX6_lookedAt_8 rfl (lv_at hl 0 rfl) ?_
      refine hm_get (k := 0) S hE hG hX rfl rfl hi_X60 (by decide) hb_16 rfl rfl dX6_lookedAt_9 ?_
      refine hm_uV (As := []) (rest := [.int (nI (xS x))]) (st1 := [.int (nI (xS x)), .int (nI (xS x))]) S hE hG (c_size l hLs) (hm_gV hb_97 hb_98 hb_99 hb_15 hb_100) hd_Jx4a65c_size_8abf5 rfl hb1 rfl rfl ⟨Nat.le_of_ble_eq_true rfl, Nat.le_of_ble_eq_true rfl⟩ rfl hl.1 rfl (Nat.le_of_ble_eq_true rfl) dX6_lookedAt_12 ⟨Nat.le_of_ble_eq_true rfl, Nat.le_of_ble_eq_true rfl⟩ rfl (fun H locs hG => ?_)
      refine lv_icmp_ge (tgt := 67) S.1 S.2.1 dX6_lookedAt_15 (by decide) (fun _ => ?_) (fun h9 => absurd (nI_le (Nat.le_refl _) (by omega)) h9)
      refine lv_iload S.1 S.2.1 dX6_lookedAt_67 (lv_at hl 4 rfl) ?_
      exact hm_iret S hG hr hlk (⟨rfl, rfl, rfl⟩) (Nat.le_of_ble_eq_true rfl) (Nat.le_of_ble_eq_true rfl) dX6_lookedAt_69
    | succ n ih6 =>
      intro i hk0 H locs ls hG hl
      have hi9 : i < xS x := by omega
      refine lv_iload S.1 S.2.1 dX6_lookedAt_6 (lv_at hl 5 rfl) ?_
      refine lv_aload_n S.1 S.2.1 dX6_lookedAt_8 rfl (lv_at hl 0 rfl) ?_
      refine hm_get (k := 0) S hE hG hX rfl rfl hi_X60 (by decide) hb_16 rfl rfl dX6_lookedAt_9 ?_
      refine hm_uV (As := []) (rest := [.int (nI i)]) (st1 := [.int (nI (xS x)), .int (nI i)]) S hE hG (c_size l hLs) (hm_gV hb_97 hb_98 hb_99 hb_15 hb_100) hd_Jx4a65c_size_8abf5 rfl hb1 rfl rfl ⟨Nat.le_of_ble_eq_true rfl, Nat.le_of_ble_eq_true rfl⟩ rfl hl.1 rfl (Nat.le_of_ble_eq_true rfl) dX6_lookedAt_12 ⟨Nat.le_of_ble_eq_true rfl, Nat.le_of_ble_eq_true rfl⟩ rfl (fun H locs hG => ?_)
      refine lv_icmp_ge (tgt := 67) S.1 S.2.1 dX6_lookedAt_15 (by decide) (fun h9 => absurd h9 (nI_ge hi9 (by omega))) (fun _ => ?_)
      refine lv_aload_n S.1 S.2.1 dX6_lookedAt_18 rfl (lv_at hl 0 rfl) ?_
      refine hm_get (k := 0) S hE hG hX rfl rfl hi_X60 (by decide) hb_16 rfl rfl dX6_lookedAt_19 ?_
      refine lv_iload S.1 S.2.1 dX6_lookedAt_22 (lv_at hl 5 rfl) ?_
      refine hm_uV (As := [.int (nI i)]) (rest := []) (st1 := [.ref (ad (10, i, 0))]) S hE hG (c_get l hLs i hi9) (hm_gV hb_208 hb_209 hb_210 hb_15 hb_211) hd_Jx4a65c_get_915e3 rfl hb1 rfl rfl ⟨Nat.le_of_ble_eq_true rfl, Nat.le_of_ble_eq_true rfl⟩ rfl hl.1 rfl (Nat.le_of_ble_eq_true rfl) dX6_lookedAt_24 ⟨Nat.le_of_ble_eq_true rfl, Nat.le_of_ble_eq_true rfl⟩ rfl (fun H locs hG => ?_)
      refine hm_cast S hE hG (hSe i hi9).1 rfl rfl hb_246 dX6_lookedAt_27 ?_
      refine lv_astore (lv' := [(6, .ref (ad (10, i, 0))), (0, .ref (ad (0, 0, 0))), (1, .ref (ad (20, r, 0))), (2, .int (nI k)), (3, .int (nI a)), (4, .int (laL x (xRu x r) k a i)), (5, .int (nI i))]) S.1 S.2.1 dX6_lookedAt_30 hl (by decide) rfl (fun ls hl => ?_)
      refine lv_aload_n S.1 S.2.1 dX6_lookedAt_32 rfl (lv_at hl 2 rfl) ?_
      refine lv_aload S.1 S.2.1 dX6_lookedAt_33 (lv_at hl 0 rfl) ?_
      refine lv_iload_n S.1 S.2.1 dX6_lookedAt_35 rfl (lv_at hl 3 rfl) ?_
      refine hm_uV (As := [.ref (ad (10, i, 0)), .int (nI k)]) (rest := []) (st1 := [.int (bI (tkF (xRu x r) i (xSe x i) k))]) S hE hG (c_X4_takes l g ad M i (xSe x i) (hSe i hi9) r (xRu x r) (xAl x r) (hRu r hr9) k hk) (hm_gV hb_343 hb_344 hb_345 hb_170 hb_346) hd_X4_takes rfl (hRu r hr9).1 rfl rfl ⟨Nat.le_of_ble_eq_true rfl, Nat.le_of_ble_eq_true rfl⟩ rfl hl.1 rfl (Nat.le_of_ble_eq_true rfl) dX6_lookedAt_36 ⟨Nat.le_of_ble_eq_true rfl, Nat.le_of_ble_eq_true rfl⟩ rfl (fun H locs hG => ?_)
      refine lv_if_eq (tgt := 61) S.1 S.2.1 dX6_lookedAt_39 (by decide) (fun c39 => ?_) (fun c39 => ?_)
      · skip
        have e39 : laL x (xRu x r) k a (i + 1) = laL x (xRu x r) k a i := by rw [laL, if_neg (by rw [bI_0.mp c39]; decide)]
        rw [← e39] at hl
        refine lv_iinc (v := nI (i + 1)) (lv' := [(5, .int (nI (i + 1))), (6, .ref (ad (10, i, 0))), (0, .ref (ad (0, 0, 0))), (1, .ref (ad (20, r, 0))), (2, .int (nI k)), (3, .int (nI a)), (4, .int (laL x (xRu x r) k a (i + 1)))]) S.1 S.2.1 dX6_lookedAt_61 hl (k := 6) rfl (nI_1 i) (by decide) rfl (fun ls hl => ?_)
        refine lv_goto (tgt := 6) S.1 S.2.1 dX6_lookedAt_64 (by decide) ?_
        exact ih6 (i + 1) (by omega) _ _ _ hG (lv_sub hl [2, 3, 4, 5, 6, 0] rfl)
      · skip
        refine lv_iload S.1 S.2.1 dX6_lookedAt_42 (lv_at hl 5 rfl) ?_
        refine lv_aload S.1 S.2.1 dX6_lookedAt_44 (lv_at hl 0 rfl) ?_
        refine lv_aload_n S.1 S.2.1 dX6_lookedAt_46 rfl (lv_at hl 2 rfl) ?_
        refine hm_get (k := 2) S hE hG (hRu r hr9).1 rfl rfl hi_X40 (by decide) hb_358 rfl rfl dX6_lookedAt_47 ?_
        refine lv_aload_n S.1 S.2.1 dX6_lookedAt_50 rfl (lv_at hl 2 rfl) ?_
        refine hm_get (k := 3) S hE hG (hRu r hr9).1 rfl rfl hi_X40 (by decide) hb_359 rfl rfl dX6_lookedAt_51 ?_
        refine lv_iload_n S.1 S.2.1 dX6_lookedAt_54 rfl (lv_at hl 4 rfl) ?_
        refine hm_uV (As := [.int (nI (rLo (xRu x r))), .int (nI (rW (xRu x r))), .int (nI a)]) (rest := [.int (laL x (xRu x r) k a i)]) (st1 := [.int (lookF (xSe x i) (rLo (xRu x r)) (rW (xRu x r)) a), .int (laL x (xRu x r) k a i)]) S hE hG (c_X5_lookOver l g ad M i (xSe x i) (hSe i hi9) (rLo (xRu x r)) (rW (xRu x r)) a hlo (by omega) ha9) (hm_gV hb_360 hb_361 hb_362 hb_90 hb_363) hd_X5_lookOver rfl (hSe i hi9).1 rfl rfl ⟨Nat.le_of_ble_eq_true rfl, Nat.le_of_ble_eq_true rfl⟩ rfl hl.1 rfl (Nat.le_of_ble_eq_true rfl) dX6_lookedAt_55 ⟨Nat.le_of_ble_eq_true rfl, Nat.le_of_ble_eq_true rfl⟩ rfl (fun H locs hG => ?_)
        refine lv_iadd S.1 S.2.1 dX6_lookedAt_58 ?_
        refine hm_top (z := laL x (xRu x r) k a (i + 1)) (by rw [laL, if_pos (bI_ne.mp c39)]) ?_
        refine lv_istore (lv' := [(4, .int (laL x (xRu x r) k a (i + 1))), (6, .ref (ad (10, i, 0))), (0, .ref (ad (0, 0, 0))), (1, .ref (ad (20, r, 0))), (2, .int (nI k)), (3, .int (nI a)), (5, .int (nI i))]) S.1 S.2.1 dX6_lookedAt_59 hl (by decide) rfl (fun ls hl => ?_)
        refine lv_iinc (v := nI (i + 1)) (lv' := [(5, .int (nI (i + 1))), (4, .int (laL x (xRu x r) k a (i + 1))), (6, .ref (ad (10, i, 0))), (0, .ref (ad (0, 0, 0))), (1, .ref (ad (20, r, 0))), (2, .int (nI k)), (3, .int (nI a))]) S.1 S.2.1 dX6_lookedAt_61 hl (k := 6) rfl (nI_1 i) (by decide) rfl (fun ls hl => ?_)
        refine lv_goto (tgt := 6) S.1 S.2.1 dX6_lookedAt_64 (by decide) ?_
        exact ih6 (i + 1) (by omega) _ _ _ hG (lv_sub hl [3, 4, 5, 6, 1, 0] rfl)
  exact L6_0 (xS x) 0 rfl _ _ _ hG (lv_sub hl [2, 3, 4, 5, 1, 0] rfl)

abbrev rm_X6_placeOf : Room := { frames := 3, cells := 0, slots := 0, locals := 64 }
set_option maxHeartbeats 4000000 in
set_option maxRecDepth 100000 in
theorem c_X6_placeOf (l : Launch) (g : GV) (ad : AD) (M : CT) (x : XD) (hx : hasX g ad M x) (r : Nat) (hr9 : r < xR x) (k : Nat) (hk : k < 12) : hm_Met l yX6_placeOf cX6_placeOf 3 (some .int) rm_X6_placeOf g ad M [.ref (ad (0, 0, 0)), .ref (ad (20, r, 0)), .int (nI k)] (hm_pU ad M (some (.int (plF x (xRu x r) k)))) := by
  refine hm_start (own := RX6) (by decide) rfl (Nat.le_of_ble_eq_true rfl) ?_
  intro p e s m args below meth c S hr hlk hnm hE hG ls hl
  have hl : lv_has ls 3 [(0, .ref (ad (0, 0, 0))), (1, .ref (ad (20, r, 0))), (2, .int (nI k))] := hl
  obtain ⟨hX, hLs, hLr, hLh, h7, hLg, h70, hSe, hRu, hHu, hGr, hS6, hR6, hH5⟩ := id hx
  obtain ⟨fs1, hb1⟩ := hLs.ob
  obtain ⟨fs2, hb2⟩ := hLr.ob
  obtain ⟨fs3, hb3⟩ := hLh.ob
  obtain ⟨-, -, -, -, hlo, hw, hwa⟩ := id (hRu r hr9)
  refine lv_aload_n S.1 S.2.1 dX6_placeOf_0 rfl (lv_at hl 1 rfl) ?_
  refine hm_get (k := 4) S hE hG (hRu r hr9).1 rfl rfl hi_X40 (by decide) hb_297 rfl rfl dX6_placeOf_1 ?_
  rcases (show rWa (xRu x r) = 0 ∨ rWa (xRu x r) = 1 ∨ rWa (xRu x r) = 2 by omega) with ew | ew | ew
  · skip
    refine hm_top (z := 0) (by rw [ew]; rfl) ?_
    by_cases hk9 : k < xS x
    · skip
      refine lv_lookup (off := 28) (tgt := 32) S.1 S.2.1 dX6_placeOf_4 (by decide) (by decide) (by decide) ?_
      refine lv_iload_n S.1 S.2.1 dX6_placeOf_32 rfl (lv_at hl 2 rfl) ?_
      refine lv_iconst (v := 0) S.1 S.2.1 dX6_placeOf_33 (by decide) ?_
      refine lv_aload_n S.1 S.2.1 dX6_placeOf_34 rfl (lv_at hl 0 rfl) ?_
      refine hm_get (k := 0) S hE hG hX rfl rfl hi_X60 (by decide) hb_16 rfl rfl dX6_placeOf_35 ?_
      refine hm_uV (As := []) (rest := [.int 0, .int (nI k)]) (st1 := [.int (nI (xS x)), .int 0, .int (nI k)]) S hE hG (c_size l hLs) (hm_gV hb_97 hb_98 hb_99 hb_15 hb_100) hd_Jx4a65c_size_8abf5 rfl hb1 rfl rfl ⟨Nat.le_of_ble_eq_true rfl, Nat.le_of_ble_eq_true rfl⟩ rfl hl.1 rfl (Nat.le_of_ble_eq_true rfl) dX6_placeOf_38 ⟨Nat.le_of_ble_eq_true rfl, Nat.le_of_ble_eq_true rfl⟩ rfl (fun H locs hG => ?_)
      refine lv_iconst (v := 1) S.1 S.2.1 dX6_placeOf_41 (by decide) ?_
      refine lv_isub S.1 S.2.1 dX6_placeOf_42 ?_
      refine hm_uS (As := [.int (nI k), .int 0, .int ((nI (xS x)) - 1)]) (rest := []) (st1 := [.int (bI (decide ((nI k) < 0) || decide (((nI (xS x)) - 1) < (nI k))))]) S hE hG (c_X6_isOutside l g ad M (nI k) 0 ((nI (xS x)) - 1)) (hm_gS hb_91 hb_92 hb_2 hb_93) hd_X6_isOutside ⟨Nat.le_of_ble_eq_true rfl, Nat.le_of_ble_eq_true rfl⟩ rfl hl.1 rfl (Nat.le_of_ble_eq_true rfl) dX6_placeOf_43 ⟨Nat.le_of_ble_eq_true rfl, Nat.le_of_ble_eq_true rfl⟩ rfl (fun H locs hG => ?_)
      refine lv_if_eq (tgt := 53) S.1 S.2.1 dX6_placeOf_46 (by decide) (fun _ => ?_) (fun h9 => absurd (by rw [show nI (xS x) - 1 = nI (xS x - 1) from pk_sub (b := 1) (by omega)]; exact hm_szO k hk9 (by omega)) h9)
      refine lv_aload_n S.1 S.2.1 dX6_placeOf_53 rfl (lv_at hl 0 rfl) ?_
      refine hm_get (k := 0) S hE hG hX rfl rfl hi_X60 (by decide) hb_16 rfl rfl dX6_placeOf_54 ?_
      refine lv_iload_n S.1 S.2.1 dX6_placeOf_57 rfl (lv_at hl 2 rfl) ?_
      refine hm_uV (As := [.int (nI k)]) (rest := []) (st1 := [.ref (ad (10, k, 0))]) S hE hG (c_get l hLs k hk9) (hm_gV hb_208 hb_209 hb_210 hb_15 hb_211) hd_Jx4a65c_get_915e3 rfl hb1 rfl rfl ⟨Nat.le_of_ble_eq_true rfl, Nat.le_of_ble_eq_true rfl⟩ rfl hl.1 rfl (Nat.le_of_ble_eq_true rfl) dX6_placeOf_58 ⟨Nat.le_of_ble_eq_true rfl, Nat.le_of_ble_eq_true rfl⟩ rfl (fun H locs hG => ?_)
      refine hm_cast S hE hG (hSe k hk9).1 rfl rfl hb_246 dX6_placeOf_61 ?_
      refine hm_get (k := 3) S hE hG (hSe k hk9).1 rfl rfl hi_X50 (by decide) hb_298 rfl rfl dX6_placeOf_64 ?_
      exact hm_iret S hG hr hlk (⟨by simp [plF, ew, *], rfl, rfl⟩) (Nat.le_of_ble_eq_true rfl) (Nat.le_of_ble_eq_true rfl) dX6_placeOf_67
    · skip
      refine lv_lookup (off := 28) (tgt := 32) S.1 S.2.1 dX6_placeOf_4 (by decide) (by decide) (by decide) ?_
      refine lv_iload_n S.1 S.2.1 dX6_placeOf_32 rfl (lv_at hl 2 rfl) ?_
      refine lv_iconst (v := 0) S.1 S.2.1 dX6_placeOf_33 (by decide) ?_
      refine lv_aload_n S.1 S.2.1 dX6_placeOf_34 rfl (lv_at hl 0 rfl) ?_
      refine hm_get (k := 0) S hE hG hX rfl rfl hi_X60 (by decide) hb_16 rfl rfl dX6_placeOf_35 ?_
      refine hm_uV (As := []) (rest := [.int 0, .int (nI k)]) (st1 := [.int (nI (xS x)), .int 0, .int (nI k)]) S hE hG (c_size l hLs) (hm_gV hb_97 hb_98 hb_99 hb_15 hb_100) hd_Jx4a65c_size_8abf5 rfl hb1 rfl rfl ⟨Nat.le_of_ble_eq_true rfl, Nat.le_of_ble_eq_true rfl⟩ rfl hl.1 rfl (Nat.le_of_ble_eq_true rfl) dX6_placeOf_38 ⟨Nat.le_of_ble_eq_true rfl, Nat.le_of_ble_eq_true rfl⟩ rfl (fun H locs hG => ?_)
      refine lv_iconst (v := 1) S.1 S.2.1 dX6_placeOf_41 (by decide) ?_
      refine lv_isub S.1 S.2.1 dX6_placeOf_42 ?_
      refine hm_uS (As := [.int (nI k), .int 0, .int ((nI (xS x)) - 1)]) (rest := []) (st1 := [.int (bI (decide ((nI k) < 0) || decide (((nI (xS x)) - 1) < (nI k))))]) S hE hG (c_X6_isOutside l g ad M (nI k) 0 ((nI (xS x)) - 1)) (hm_gS hb_91 hb_92 hb_2 hb_93) hd_X6_isOutside ⟨Nat.le_of_ble_eq_true rfl, Nat.le_of_ble_eq_true rfl⟩ rfl hl.1 rfl (Nat.le_of_ble_eq_true rfl) dX6_placeOf_43 ⟨Nat.le_of_ble_eq_true rfl, Nat.le_of_ble_eq_true rfl⟩ rfl (fun H locs hG => ?_)
      refine lv_if_eq (tgt := 53) S.1 S.2.1 dX6_placeOf_46 (by decide) (fun h9 => absurd h9 (hm_szO' k (by omega) (by omega))) (fun _ => ?_)
      refine lv_iconst (v := (-1)) S.1 S.2.1 dX6_placeOf_49 (by decide) ?_
      refine lv_goto (tgt := 67) S.1 S.2.1 dX6_placeOf_50 (by decide) ?_
      exact hm_iret S hG hr hlk (⟨by simp [plF, ew, *], rfl, rfl⟩) (Nat.le_of_ble_eq_true rfl) (Nat.le_of_ble_eq_true rfl) dX6_placeOf_67
  · skip
    refine hm_top (z := 1) (by rw [ew]; rfl) ?_
    refine lv_lookup (off := 64) (tgt := 68) S.1 S.2.1 dX6_placeOf_4 (by decide) (by decide) (by decide) ?_
    refine lv_iload_n S.1 S.2.1 dX6_placeOf_68 rfl (lv_at hl 2 rfl) ?_
    exact hm_iret S hG hr hlk (⟨by simp [plF, ew, *], rfl, rfl⟩) (Nat.le_of_ble_eq_true rfl) (Nat.le_of_ble_eq_true rfl) dX6_placeOf_69
  · skip
    refine hm_top (z := 2) (by rw [ew]; rfl) ?_
    refine lv_lookup (off := 66) (tgt := 70) S.1 S.2.1 dX6_placeOf_4 (by decide) (by decide) (by decide) ?_
    refine lv_iconst (v := (-1)) S.1 S.2.1 dX6_placeOf_70 (by decide) ?_
    exact hm_iret S hG hr hlk (⟨by simp [plF, ew, *], rfl, rfl⟩) (Nat.le_of_ble_eq_true rfl) (Nat.le_of_ble_eq_true rfl) dX6_placeOf_71

abbrev rm_X6_isHushed : Room := { frames := 3, cells := 0, slots := 0, locals := 64 }
set_option maxHeartbeats 4000000 in
set_option maxRecDepth 100000 in
theorem c_X6_isHushed (l : Launch) (g : GV) (ad : AD) (M : CT) (x : XD) (hx : hasX g ad M x) (ru pl wo : Int32) : hm_Met l yX6_isHushed cX6_isHushed 5 (some .boolean) rm_X6_isHushed g ad M [.ref (ad (0, 0, 0)), .int ru, .int pl, .int wo] (hm_pU ad M (some (.int (bI (ihF x ru pl wo))))) := by
  refine hm_start (own := RX6) (by decide) rfl (Nat.le_of_ble_eq_true rfl) ?_
  intro p e s m args below meth c S hr hlk hnm hE hG ls hl
  have hl : lv_has ls 5 [(0, .ref (ad (0, 0, 0))), (1, .int ru), (2, .int pl), (3, .int wo)] := hl
  obtain ⟨hX, hLs, hLr, hLh, h7, hLg, h70, hSe, hRu, hHu, hGr, hS6, hR6, hH5⟩ := id hx
  obtain ⟨fs1, hb1⟩ := hLs.ob
  obtain ⟨fs2, hb2⟩ := hLr.ob
  obtain ⟨fs3, hb3⟩ := hLh.ob
  refine lv_iconst (v := 0) S.1 S.2.1 dX6_isHushed_0 (by decide) ?_
  refine lv_istore (lv' := [(4, .int 0), (0, .ref (ad (0, 0, 0))), (1, .int ru), (2, .int pl), (3, .int wo)]) S.1 S.2.1 dX6_isHushed_1 hl (by decide) rfl (fun ls hl => ?_)
  have L3_0 : ∀ (n : Nat) (i : Nat), anyB (ih1 x ru pl wo) i = false → n + i = xH x → ∀ (H : Heap) (locs : List Loc) (ls : Array Slot), hm_G g ad M s.heap H locs → lv_has ls 5 [(0, .ref (ad (0, 0, 0))), (1, .int ru), (2, .int pl), (3, .int wo), (4, .int (nI i))] → W p l e rm_X6_isHushed s m args below meth c H locs 0 0 (MQ below (hm_Q g (hm_pU ad M (some (.int (bI (ihF x ru pl wo)))))) args s rm_X6_isHushed.cells rm_X6_isHushed.slots (hm_A g)) (F0 m 3 ls []) := by
    intro n
    induction n with
    | zero =>
      intro i hF hk0 H locs ls hG hl
      obtain rfl : i = xH x := by omega
      refine lv_iload S.1 S.2.1 dX6_isHushed_3 (lv_at hl 4 rfl) ?_
      refine lv_aload_n S.1 S.2.1 dX6_isHushed_5 rfl (lv_at hl 0 rfl) ?_
      refine hm_get (k := 2) S hE hG hX rfl rfl hi_X60 (by decide) hb_18 rfl rfl dX6_isHushed_6 ?_
      refine hm_uV (As := []) (rest := [.int (nI (xH x))]) (st1 := [.int (nI (xH x)), .int (nI (xH x))]) S hE hG (c_size l hLh) (hm_gV hb_97 hb_98 hb_99 hb_15 hb_100) hd_Jx4a65c_size_8abf5 rfl hb3 rfl rfl ⟨Nat.le_of_ble_eq_true rfl, Nat.le_of_ble_eq_true rfl⟩ rfl hl.1 rfl (Nat.le_of_ble_eq_true rfl) dX6_isHushed_9 ⟨Nat.le_of_ble_eq_true rfl, Nat.le_of_ble_eq_true rfl⟩ rfl (fun H locs hG => ?_)
      refine lv_icmp_ge (tgt := 53) S.1 S.2.1 dX6_isHushed_12 (by decide) (fun _ => ?_) (fun h9 => absurd (nI_le (Nat.le_refl _) (by omega)) h9)
      refine lv_iconst (v := 0) S.1 S.2.1 dX6_isHushed_53 (by decide) ?_
      exact hm_zret S hG hr hlk (by decide) (⟨by rw [show ihF x ru pl wo = false from hF]; rfl, rfl, rfl⟩) (Nat.le_of_ble_eq_true rfl) (Nat.le_of_ble_eq_true rfl) dX6_isHushed_54
    | succ n ih3 =>
      intro i hF hk0 H locs ls hG hl
      have hi9 : i < xH x := by omega
      refine lv_iload S.1 S.2.1 dX6_isHushed_3 (lv_at hl 4 rfl) ?_
      refine lv_aload_n S.1 S.2.1 dX6_isHushed_5 rfl (lv_at hl 0 rfl) ?_
      refine hm_get (k := 2) S hE hG hX rfl rfl hi_X60 (by decide) hb_18 rfl rfl dX6_isHushed_6 ?_
      refine hm_uV (As := []) (rest := [.int (nI i)]) (st1 := [.int (nI (xH x)), .int (nI i)]) S hE hG (c_size l hLh) (hm_gV hb_97 hb_98 hb_99 hb_15 hb_100) hd_Jx4a65c_size_8abf5 rfl hb3 rfl rfl ⟨Nat.le_of_ble_eq_true rfl, Nat.le_of_ble_eq_true rfl⟩ rfl hl.1 rfl (Nat.le_of_ble_eq_true rfl) dX6_isHushed_9 ⟨Nat.le_of_ble_eq_true rfl, Nat.le_of_ble_eq_true rfl⟩ rfl (fun H locs hG => ?_)
      refine lv_icmp_ge (tgt := 53) S.1 S.2.1 dX6_isHushed_12 (by decide) (fun h9 => absurd h9 (nI_ge hi9 (by omega))) (fun _ => ?_)
      refine lv_iload S.1 S.2.1 dX6_isHushed_15 (lv_at hl 4 rfl) ?_
      refine lv_iload_n S.1 S.2.1 dX6_isHushed_17 rfl (lv_at hl 3 rfl) ?_
      refine lv_icmp_eq (tgt := 47) S.1 S.2.1 dX6_isHushed_18 (by decide) (fun c18 => ?_) (fun c18 => ?_)
      · skip
        refine lv_iinc (v := nI (i + 1)) (lv' := [(4, .int (nI (i + 1))), (0, .ref (ad (0, 0, 0))), (1, .int ru), (2, .int pl), (3, .int wo)]) S.1 S.2.1 dX6_isHushed_47 hl (k := 4) rfl (nI_1 i) (by decide) rfl (fun ls hl => ?_)
        refine lv_goto (tgt := 3) S.1 S.2.1 dX6_isHushed_50 (by decide) ?_
        exact ih3 (i + 1) (anyB_step hF (by simp [ih1, c18])) (by omega) _ _ _ hG (lv_sub hl [1, 2, 3, 4, 0] rfl)
      · skip
        refine lv_aload_n S.1 S.2.1 dX6_isHushed_21 rfl (lv_at hl 0 rfl) ?_
        refine hm_get (k := 2) S hE hG hX rfl rfl hi_X60 (by decide) hb_18 rfl rfl dX6_isHushed_22 ?_
        refine lv_iload S.1 S.2.1 dX6_isHushed_25 (lv_at hl 4 rfl) ?_
        refine hm_uV (As := [.int (nI i)]) (rest := []) (st1 := [.ref (ad (30, i, 0))]) S hE hG (c_get l hLh i hi9) (hm_gV hb_208 hb_209 hb_210 hb_15 hb_211) hd_Jx4a65c_get_915e3 rfl hb3 rfl rfl ⟨Nat.le_of_ble_eq_true rfl, Nat.le_of_ble_eq_true rfl⟩ rfl hl.1 rfl (Nat.le_of_ble_eq_true rfl) dX6_isHushed_27 ⟨Nat.le_of_ble_eq_true rfl, Nat.le_of_ble_eq_true rfl⟩ rfl (fun H locs hG => ?_)
        refine hm_cast S hE hG (hHu i hi9) rfl rfl hb_320 dX6_isHushed_30 ?_
        refine lv_iload_n S.1 S.2.1 dX6_isHushed_33 rfl (lv_at hl 1 rfl) ?_
        refine lv_iload_n S.1 S.2.1 dX6_isHushed_34 rfl (lv_at hl 2 rfl) ?_
        refine lv_aload_n S.1 S.2.1 dX6_isHushed_35 rfl (lv_at hl 0 rfl) ?_
        refine hm_get (k := 6) S hE hG hX rfl rfl hi_X60 (by decide) hb_31 rfl rfl dX6_isHushed_36 ?_
        refine hm_uV (As := [.int ru, .int pl, .int (nI (xC x))]) (rest := []) (st1 := [.int (bI (covF (xHu x i) ru pl (nI (xC x))))]) S hE hG (c_X2_covers l g ad M (30, i, 0) (xHu x i) ru pl (nI (xC x)) (hHu i hi9)) (hm_gV hb_304 hb_305 hb_306 hb_307 hb_308) hd_X2_covers rfl (hHu i hi9) rfl rfl ⟨Nat.le_of_ble_eq_true rfl, Nat.le_of_ble_eq_true rfl⟩ rfl hl.1 rfl (Nat.le_of_ble_eq_true rfl) dX6_isHushed_39 ⟨Nat.le_of_ble_eq_true rfl, Nat.le_of_ble_eq_true rfl⟩ rfl (fun H locs hG => ?_)
        refine lv_if_eq (tgt := 47) S.1 S.2.1 dX6_isHushed_42 (by decide) (fun c42 => ?_) (fun c42 => ?_)
        · skip
          refine lv_iinc (v := nI (i + 1)) (lv' := [(4, .int (nI (i + 1))), (0, .ref (ad (0, 0, 0))), (1, .int ru), (2, .int pl), (3, .int wo)]) S.1 S.2.1 dX6_isHushed_47 hl (k := 4) rfl (nI_1 i) (by decide) rfl (fun ls hl => ?_)
          refine lv_goto (tgt := 3) S.1 S.2.1 dX6_isHushed_50 (by decide) ?_
          exact ih3 (i + 1) (anyB_step hF (by simp [ih1, bI_0.mp c42])) (by omega) _ _ _ hG (lv_sub hl [1, 2, 3, 4, 0] rfl)
        · skip
          refine lv_iconst (v := 1) S.1 S.2.1 dX6_isHushed_45 (by decide) ?_
          exact hm_zret S hG hr hlk (by decide) (⟨by rw [show ihF x ru pl wo = true from anyB_true hi9 (by simp [ih1, c18, bI_ne.mp c42])]; rfl, rfl, rfl⟩) (Nat.le_of_ble_eq_true rfl) (Nat.le_of_ble_eq_true rfl) dX6_isHushed_46
  exact L3_0 (xH x) 0 rfl rfl _ _ _ hG (lv_sub hl [1, 2, 3, 4, 0] rfl)

abbrev rm_X6_isQuiet : Room := { frames := 4, cells := 0, slots := 0, locals := 88 }
set_option maxHeartbeats 4000000 in
set_option maxRecDepth 100000 in
theorem c_X6_isQuiet (l : Launch) (g : GV) (ad : AD) (M : CT) (x : XD) (hx : hasX g ad M x) (rk pl wo : Int32) : hm_Met l yX6_isQuiet cX6_isQuiet 9 (some .boolean) rm_X6_isQuiet g ad M [.ref (ad (0, 0, 0)), .int rk, .int pl, .int wo] (hm_pU ad M (some (.int (bI (iqF x rk pl wo))))) := by
  refine hm_start (own := RX6) (by decide) rfl (Nat.le_of_ble_eq_true rfl) ?_
  intro p e s m args below meth c S hr hlk hnm hE hG ls hl
  have hl : lv_has ls 9 [(0, .ref (ad (0, 0, 0))), (1, .int rk), (2, .int pl), (3, .int wo)] := hl
  obtain ⟨hX, hLs, hLr, hLh, h7, hLg, h70, hSe, hRu, hHu, hGr, hS6, hR6, hH5⟩ := id hx
  obtain ⟨fs1, hb1⟩ := hLs.ob
  obtain ⟨fs2, hb2⟩ := hLr.ob
  obtain ⟨fs3, hb3⟩ := hLh.ob
  refine lv_iconst (v := 0) S.1 S.2.1 dX6_isQuiet_0 (by decide) ?_
  refine lv_istore (lv' := [(4, .int 0), (0, .ref (ad (0, 0, 0))), (1, .int rk), (2, .int pl), (3, .int wo)]) S.1 S.2.1 dX6_isQuiet_1 hl (by decide) rfl (fun ls hl => ?_)
  have L3_0 : ∀ (n : Nat) (i : Nat), anyB (iq2 x rk pl wo) i = false → n + i = xR x → ∀ (H : Heap) (locs : List Loc) (ls : Array Slot), hm_G g ad M s.heap H locs → lv_has ls 9 [(0, .ref (ad (0, 0, 0))), (1, .int rk), (2, .int pl), (3, .int wo), (4, .int (nI i))] → W p l e rm_X6_isQuiet s m args below meth c H locs 0 0 (MQ below (hm_Q g (hm_pU ad M (some (.int (bI (iqF x rk pl wo)))))) args s rm_X6_isQuiet.cells rm_X6_isQuiet.slots (hm_A g)) (F0 m 3 ls []) := by
    intro n
    induction n with
    | zero =>
      intro i hF hi0 H locs ls hG hl
      obtain rfl : i = xR x := by omega
      refine lv_iload S.1 S.2.1 dX6_isQuiet_3 (lv_at hl 4 rfl) ?_
      refine lv_aload_n S.1 S.2.1 dX6_isQuiet_5 rfl (lv_at hl 0 rfl) ?_
      refine hm_get (k := 1) S hE hG hX rfl rfl hi_X60 (by decide) hb_17 rfl rfl dX6_isQuiet_6 ?_
      refine hm_uV (As := []) (rest := [.int (nI (xR x))]) (st1 := [.int (nI (xR x)), .int (nI (xR x))]) S hE hG (c_size l hLr) (hm_gV hb_97 hb_98 hb_99 hb_15 hb_100) hd_Jx4a65c_size_8abf5 rfl hb2 rfl rfl ⟨Nat.le_of_ble_eq_true rfl, Nat.le_of_ble_eq_true rfl⟩ rfl hl.1 rfl (Nat.le_of_ble_eq_true rfl) dX6_isQuiet_9 ⟨Nat.le_of_ble_eq_true rfl, Nat.le_of_ble_eq_true rfl⟩ rfl (fun H locs hG => ?_)
      refine lv_icmp_ge (tgt := 118) S.1 S.2.1 dX6_isQuiet_12 (by decide) (fun _ => ?_) (fun h9 => absurd (nI_le (Nat.le_refl _) (by omega)) h9)
      refine lv_iconst (v := 0) S.1 S.2.1 dX6_isQuiet_118 (by decide) ?_
      exact hm_zret S hG hr hlk (by decide) (⟨by rw [show iqF x rk pl wo = false from hF]; rfl, rfl, rfl⟩) (Nat.le_of_ble_eq_true rfl) (Nat.le_of_ble_eq_true rfl) dX6_isQuiet_119
    | succ n ih3 =>
      intro i hF hi0 H locs ls hG hl
      have hi9 : i < xR x := by omega
      refine lv_iload S.1 S.2.1 dX6_isQuiet_3 (lv_at hl 4 rfl) ?_
      refine lv_aload_n S.1 S.2.1 dX6_isQuiet_5 rfl (lv_at hl 0 rfl) ?_
      refine hm_get (k := 1) S hE hG hX rfl rfl hi_X60 (by decide) hb_17 rfl rfl dX6_isQuiet_6 ?_
      refine hm_uV (As := []) (rest := [.int (nI i)]) (st1 := [.int (nI (xR x)), .int (nI i)]) S hE hG (c_size l hLr) (hm_gV hb_97 hb_98 hb_99 hb_15 hb_100) hd_Jx4a65c_size_8abf5 rfl hb2 rfl rfl ⟨Nat.le_of_ble_eq_true rfl, Nat.le_of_ble_eq_true rfl⟩ rfl hl.1 rfl (Nat.le_of_ble_eq_true rfl) dX6_isQuiet_9 ⟨Nat.le_of_ble_eq_true rfl, Nat.le_of_ble_eq_true rfl⟩ rfl (fun H locs hG => ?_)
      refine lv_icmp_ge (tgt := 118) S.1 S.2.1 dX6_isQuiet_12 (by decide) (fun h9 => absurd h9 (nI_ge hi9 (by omega))) (fun _ => ?_)
      refine lv_aload_n S.1 S.2.1 dX6_isQuiet_15 rfl (lv_at hl 0 rfl) ?_
      refine hm_get (k := 1) S hE hG hX rfl rfl hi_X60 (by decide) hb_17 rfl rfl dX6_isQuiet_16 ?_
      refine lv_iload S.1 S.2.1 dX6_isQuiet_19 (lv_at hl 4 rfl) ?_
      refine hm_uV (As := [.int (nI i)]) (rest := []) (st1 := [.ref (ad (20, i, 0))]) S hE hG (c_get l hLr i hi9) (hm_gV hb_208 hb_209 hb_210 hb_15 hb_211) hd_Jx4a65c_get_915e3 rfl hb2 rfl rfl ⟨Nat.le_of_ble_eq_true rfl, Nat.le_of_ble_eq_true rfl⟩ rfl hl.1 rfl (Nat.le_of_ble_eq_true rfl) dX6_isQuiet_21 ⟨Nat.le_of_ble_eq_true rfl, Nat.le_of_ble_eq_true rfl⟩ rfl (fun H locs hG => ?_)
      refine hm_cast S hE hG (hRu i hi9).1 rfl rfl hb_207 dX6_isQuiet_24 ?_
      refine lv_astore (lv' := [(5, .ref (ad (20, i, 0))), (0, .ref (ad (0, 0, 0))), (1, .int rk), (2, .int pl), (3, .int wo), (4, .int (nI i))]) S.1 S.2.1 dX6_isQuiet_27 hl (by decide) rfl (fun ls hl => ?_)
      refine lv_iconst (v := 0) S.1 S.2.1 dX6_isQuiet_29 (by decide) ?_
      refine lv_istore (lv' := [(6, .int 0), (5, .ref (ad (20, i, 0))), (0, .ref (ad (0, 0, 0))), (1, .int rk), (2, .int pl), (3, .int wo), (4, .int (nI i))]) S.1 S.2.1 dX6_isQuiet_30 hl (by decide) rfl (fun ls hl => ?_)
      have L32_1 : ∀ (n : Nat) (k : Nat), anyB (iq1 x rk pl wo i) k = false → n + k = 12 → ∀ (H : Heap) (locs : List Loc) (ls : Array Slot), hm_G g ad M s.heap H locs → lv_has ls 9 [(0, .ref (ad (0, 0, 0))), (1, .int rk), (2, .int pl), (3, .int wo), (4, .int (nI i)), (5, .ref (ad (20, i, 0))), (6, .int (nI k))] → W p l e rm_X6_isQuiet s m args below meth c H locs 0 0 (MQ below (hm_Q g (hm_pU ad M (some (.int (bI (iqF x rk pl wo)))))) args s rm_X6_isQuiet.cells rm_X6_isQuiet.slots (hm_A g)) (F0 m 32 ls []) := by
        intro n
        induction n with
        | zero =>
          intro k hK hk0 H locs ls hG hl
          obtain rfl : k = 12 := by omega
          refine lv_iload S.1 S.2.1 dX6_isQuiet_32 (lv_at hl 6 rfl) ?_
          refine lv_bipush (v := 12) S.1 S.2.1 dX6_isQuiet_34 (by decide) ?_
          refine lv_icmp_ge (tgt := 112) S.1 S.2.1 dX6_isQuiet_36 (by decide) (fun _ => ?_) (fun h9 => absurd (by decide) h9)
          refine lv_iinc (v := nI (i + 1)) (lv' := [(4, .int (nI (i + 1))), (0, .ref (ad (0, 0, 0))), (1, .int rk), (2, .int pl), (3, .int wo), (5, .ref (ad (20, i, 0))), (6, .int (nI 12))]) S.1 S.2.1 dX6_isQuiet_112 hl (k := 4) rfl (nI_1 i) (by decide) rfl (fun ls hl => ?_)
          refine lv_goto (tgt := 3) S.1 S.2.1 dX6_isQuiet_115 (by decide) ?_
          exact ih3 (i + 1) (anyB_step hF (hK)) (by omega) _ _ _ hG (lv_sub hl [1, 2, 3, 4, 0] rfl)
        | succ n ih32 =>
          intro k hK hk0 H locs ls hG hl
          have hk : k < 12 := by omega
          refine lv_iload S.1 S.2.1 dX6_isQuiet_32 (lv_at hl 6 rfl) ?_
          refine lv_bipush (v := 12) S.1 S.2.1 dX6_isQuiet_34 (by decide) ?_
          refine lv_icmp_ge (tgt := 112) S.1 S.2.1 dX6_isQuiet_36 (by decide) (fun h9 => absurd h9 (nI_ge (b := 12) hk (by decide))) (fun _ => ?_)
          refine lv_aload S.1 S.2.1 dX6_isQuiet_39 (lv_at hl 5 rfl) ?_
          refine hm_get (k := 8) S hE hG (hRu i hi9).1 rfl rfl hi_X40 (by decide) hb_200 rfl rfl dX6_isQuiet_41 ?_
          refine lv_iload_n S.1 S.2.1 dX6_isQuiet_44 rfl (lv_at hl 1 rfl) ?_
          refine lv_icmp_le (tgt := 112) S.1 S.2.1 dX6_isQuiet_45 (by decide) (fun c45 => ?_) (fun c45 => ?_)
          · skip
            refine lv_iinc (v := nI (i + 1)) (lv' := [(4, .int (nI (i + 1))), (0, .ref (ad (0, 0, 0))), (1, .int rk), (2, .int pl), (3, .int wo), (5, .ref (ad (20, i, 0))), (6, .int (nI k))]) S.1 S.2.1 dX6_isQuiet_112 hl (k := 4) rfl (nI_1 i) (by decide) rfl (fun ls hl => ?_)
            refine lv_goto (tgt := 3) S.1 S.2.1 dX6_isQuiet_115 (by decide) ?_
            exact ih3 (i + 1) (anyB_step hF (anyB_false (fun k _ => by rw [iq1, decide_eq_false (Int32.not_lt.mpr c45)]; rfl))) (by omega) _ _ _ hG (lv_sub hl [1, 2, 3, 4, 0] rfl)
          · skip
            have e45 := Int32.not_le.mp c45
            refine lv_aload_n S.1 S.2.1 dX6_isQuiet_48 rfl (lv_at hl 0 rfl) ?_
            refine lv_aload S.1 S.2.1 dX6_isQuiet_49 (lv_at hl 5 rfl) ?_
            refine lv_iload S.1 S.2.1 dX6_isQuiet_51 (lv_at hl 6 rfl) ?_
            refine hm_uV (As := [.ref (ad (20, i, 0)), .int (nI k)]) (rest := []) (st1 := [.int (plF x (xRu x i) k)]) S hE hG (c_X6_placeOf l g ad M x hx i hi9 k hk) (hm_gV hb_293 hb_294 hb_295 hb_2 hb_296) hd_X6_placeOf rfl hX rfl rfl ⟨Nat.le_of_ble_eq_true rfl, Nat.le_of_ble_eq_true rfl⟩ rfl hl.1 rfl (Nat.le_of_ble_eq_true rfl) dX6_isQuiet_53 ⟨Nat.le_of_ble_eq_true rfl, Nat.le_of_ble_eq_true rfl⟩ rfl (fun H locs hG => ?_)
            refine lv_istore (lv' := [(7, .int (plF x (xRu x i) k)), (0, .ref (ad (0, 0, 0))), (1, .int rk), (2, .int pl), (3, .int wo), (4, .int (nI i)), (5, .ref (ad (20, i, 0))), (6, .int (nI k))]) S.1 S.2.1 dX6_isQuiet_56 hl (by decide) rfl (fun ls hl => ?_)
            refine lv_iload S.1 S.2.1 dX6_isQuiet_58 (lv_at hl 0 rfl) ?_
            refine lv_iload_n S.1 S.2.1 dX6_isQuiet_60 rfl (lv_at hl 3 rfl) ?_
            refine lv_icmp_eq (tgt := 70) S.1 S.2.1 dX6_isQuiet_61 (by decide) (fun c61 => ?_) (fun c61 => ?_)
            · skip
              refine lv_iconst (v := 1) S.1 S.2.1 dX6_isQuiet_70 (by decide) ?_
              refine lv_goto (tgt := 75) S.1 S.2.1 dX6_isQuiet_71 (by decide) ?_
              refine lv_istore (lv' := [(8, .int 1), (7, .int (plF x (xRu x i) k)), (0, .ref (ad (0, 0, 0))), (1, .int rk), (2, .int pl), (3, .int wo), (4, .int (nI i)), (5, .ref (ad (20, i, 0))), (6, .int (nI k))]) S.1 S.2.1 dX6_isQuiet_75 hl (by decide) rfl (fun ls hl => ?_)
              refine lv_iload S.1 S.2.1 dX6_isQuiet_77 (lv_at hl 0 rfl) ?_
              refine lv_if_eq (tgt := 106) S.1 S.2.1 dX6_isQuiet_79 (by decide) (fun h9 => absurd h9 (by decide)) (fun _ => ?_)
              refine lv_aload S.1 S.2.1 dX6_isQuiet_82 (lv_at hl 7 rfl) ?_
              refine lv_iload S.1 S.2.1 dX6_isQuiet_84 (lv_at hl 8 rfl) ?_
              refine hm_uV (As := [.int (nI k)]) (rest := []) (st1 := [.int (bI (decide ((xAl x i k).1 = 2)))]) S hE hG (c_X4_burns l g ad M i (xRu x i) (xAl x i) (hRu i hi9) k hk) (hm_gV hb_285 hb_286 hb_287 hb_170 hb_288) hd_X4_burns rfl (hRu i hi9).1 rfl rfl ⟨Nat.le_of_ble_eq_true rfl, Nat.le_of_ble_eq_true rfl⟩ rfl hl.1 rfl (Nat.le_of_ble_eq_true rfl) dX6_isQuiet_86 ⟨Nat.le_of_ble_eq_true rfl, Nat.le_of_ble_eq_true rfl⟩ rfl (fun H locs hG => ?_)
              refine lv_if_eq (tgt := 106) S.1 S.2.1 dX6_isQuiet_89 (by decide) (fun c89 => ?_) (fun c89 => ?_)
              · skip
                refine lv_iinc (v := nI (k + 1)) (lv' := [(6, .int (nI (k + 1))), (8, .int 1), (7, .int (plF x (xRu x i) k)), (0, .ref (ad (0, 0, 0))), (1, .int rk), (2, .int pl), (3, .int wo), (4, .int (nI i)), (5, .ref (ad (20, i, 0)))]) S.1 S.2.1 dX6_isQuiet_106 hl (k := 8) rfl (nI_1 k) (by decide) rfl (fun ls hl => ?_)
                refine lv_goto (tgt := 32) S.1 S.2.1 dX6_isQuiet_109 (by decide) ?_
                exact ih32 (k + 1) (anyB_step hK (by rw [iq1, bI_0.mp c89]; simp)) (by omega) _ _ _ hG (lv_sub hl [3, 4, 5, 6, 7, 8, 0] rfl)
              · skip
                refine lv_aload_n S.1 S.2.1 dX6_isQuiet_92 rfl (lv_at hl 2 rfl) ?_
                refine lv_iload S.1 S.2.1 dX6_isQuiet_93 (lv_at hl 6 rfl) ?_
                refine lv_iload S.1 S.2.1 dX6_isQuiet_95 (lv_at hl 1 rfl) ?_
                refine lv_iload_n S.1 S.2.1 dX6_isQuiet_97 rfl (lv_at hl 5 rfl) ?_
                refine hm_uV (As := [.int (nI i), .int (plF x (xRu x i) k), .int wo]) (rest := []) (st1 := [.int (bI (ihF x (nI i) (plF x (xRu x i) k) wo))]) S hE hG (c_X6_isHushed l g ad M x hx (nI i) (plF x (xRu x i) k) wo) (hm_gV hb_299 hb_300 hb_301 hb_2 hb_302) hd_X6_isHushed rfl hX rfl rfl ⟨Nat.le_of_ble_eq_true rfl, Nat.le_of_ble_eq_true rfl⟩ rfl hl.1 rfl (Nat.le_of_ble_eq_true rfl) dX6_isQuiet_98 ⟨Nat.le_of_ble_eq_true rfl, Nat.le_of_ble_eq_true rfl⟩ rfl (fun H locs hG => ?_)
                refine lv_if_ne (tgt := 106) S.1 S.2.1 dX6_isQuiet_101 (by decide) (fun c101 => ?_) (fun c101 => ?_)
                · skip
                  refine lv_iinc (v := nI (k + 1)) (lv' := [(6, .int (nI (k + 1))), (8, .int 1), (7, .int (plF x (xRu x i) k)), (0, .ref (ad (0, 0, 0))), (1, .int rk), (2, .int pl), (3, .int wo), (4, .int (nI i)), (5, .ref (ad (20, i, 0)))]) S.1 S.2.1 dX6_isQuiet_106 hl (k := 8) rfl (nI_1 k) (by decide) rfl (fun ls hl => ?_)
                  refine lv_goto (tgt := 32) S.1 S.2.1 dX6_isQuiet_109 (by decide) ?_
                  exact ih32 (k + 1) (anyB_step hK (by rw [iq1, bI_ne.mp c101]; simp)) (by omega) _ _ _ hG (lv_sub hl [3, 4, 5, 6, 7, 8, 0] rfl)
                · skip
                  refine lv_iconst (v := 1) S.1 S.2.1 dX6_isQuiet_104 (by decide) ?_
                  exact hm_zret S hG hr hlk (by decide) (⟨by rw [show iqF x rk pl wo = true from anyB_true hi9 (anyB_true hk (by rw [iq1, decide_eq_true e45, bI_ne.mp c89, bI_0.mp c101]; simp [c61]))]; rfl, rfl, rfl⟩) (Nat.le_of_ble_eq_true rfl) (Nat.le_of_ble_eq_true rfl) dX6_isQuiet_105
            · skip
              refine lv_iload S.1 S.2.1 dX6_isQuiet_64 (lv_at hl 0 rfl) ?_
              refine lv_iconst (v := (-1)) S.1 S.2.1 dX6_isQuiet_66 (by decide) ?_
              refine lv_icmp_ne (tgt := 74) S.1 S.2.1 dX6_isQuiet_67 (by decide) (fun c67 => ?_) (fun c67 => ?_)
              · skip
                have e67 : ¬ plF x (xRu x i) k = -1 := c67
                refine lv_iconst (v := 0) S.1 S.2.1 dX6_isQuiet_74 (by decide) ?_
                refine lv_istore (lv' := [(8, .int 0), (7, .int (plF x (xRu x i) k)), (0, .ref (ad (0, 0, 0))), (1, .int rk), (2, .int pl), (3, .int wo), (4, .int (nI i)), (5, .ref (ad (20, i, 0))), (6, .int (nI k))]) S.1 S.2.1 dX6_isQuiet_75 hl (by decide) rfl (fun ls hl => ?_)
                refine lv_iload S.1 S.2.1 dX6_isQuiet_77 (lv_at hl 0 rfl) ?_
                refine lv_if_eq (tgt := 106) S.1 S.2.1 dX6_isQuiet_79 (by decide) (fun _ => ?_) (fun h9 => absurd (by decide) h9)
                refine lv_iinc (v := nI (k + 1)) (lv' := [(6, .int (nI (k + 1))), (8, .int 0), (7, .int (plF x (xRu x i) k)), (0, .ref (ad (0, 0, 0))), (1, .int rk), (2, .int pl), (3, .int wo), (4, .int (nI i)), (5, .ref (ad (20, i, 0)))]) S.1 S.2.1 dX6_isQuiet_106 hl (k := 8) rfl (nI_1 k) (by decide) rfl (fun ls hl => ?_)
                refine lv_goto (tgt := 32) S.1 S.2.1 dX6_isQuiet_109 (by decide) ?_
                exact ih32 (k + 1) (anyB_step hK (by simp [iq1, c61, e67])) (by omega) _ _ _ hG (lv_sub hl [3, 4, 5, 6, 7, 8, 0] rfl)
              · skip
                have e67 : plF x (xRu x i) k = -1 := by simpa using c67
                refine lv_iconst (v := 1) S.1 S.2.1 dX6_isQuiet_70 (by decide) ?_
                refine lv_goto (tgt := 75) S.1 S.2.1 dX6_isQuiet_71 (by decide) ?_
                refine lv_istore (lv' := [(8, .int 1), (7, .int (plF x (xRu x i) k)), (0, .ref (ad (0, 0, 0))), (1, .int rk), (2, .int pl), (3, .int wo), (4, .int (nI i)), (5, .ref (ad (20, i, 0))), (6, .int (nI k))]) S.1 S.2.1 dX6_isQuiet_75 hl (by decide) rfl (fun ls hl => ?_)
                refine lv_iload S.1 S.2.1 dX6_isQuiet_77 (lv_at hl 0 rfl) ?_
                refine lv_if_eq (tgt := 106) S.1 S.2.1 dX6_isQuiet_79 (by decide) (fun h9 => absurd h9 (by decide)) (fun _ => ?_)
                refine lv_aload S.1 S.2.1 dX6_isQuiet_82 (lv_at hl 7 rfl) ?_
                refine lv_iload S.1 S.2.1 dX6_isQuiet_84 (lv_at hl 8 rfl) ?_
                refine hm_uV (As := [.int (nI k)]) (rest := []) (st1 := [.int (bI (decide ((xAl x i k).1 = 2)))]) S hE hG (c_X4_burns l g ad M i (xRu x i) (xAl x i) (hRu i hi9) k hk) (hm_gV hb_285 hb_286 hb_287 hb_170 hb_288) hd_X4_burns rfl (hRu i hi9).1 rfl rfl ⟨Nat.le_of_ble_eq_true rfl, Nat.le_of_ble_eq_true rfl⟩ rfl hl.1 rfl (Nat.le_of_ble_eq_true rfl) dX6_isQuiet_86 ⟨Nat.le_of_ble_eq_true rfl, Nat.le_of_ble_eq_true rfl⟩ rfl (fun H locs hG => ?_)
                refine lv_if_eq (tgt := 106) S.1 S.2.1 dX6_isQuiet_89 (by decide) (fun c89 => ?_) (fun c89 => ?_)
                · skip
                  refine lv_iinc (v := nI (k + 1)) (lv' := [(6, .int (nI (k + 1))), (8, .int 1), (7, .int (plF x (xRu x i) k)), (0, .ref (ad (0, 0, 0))), (1, .int rk), (2, .int pl), (3, .int wo), (4, .int (nI i)), (5, .ref (ad (20, i, 0)))]) S.1 S.2.1 dX6_isQuiet_106 hl (k := 8) rfl (nI_1 k) (by decide) rfl (fun ls hl => ?_)
                  refine lv_goto (tgt := 32) S.1 S.2.1 dX6_isQuiet_109 (by decide) ?_
                  exact ih32 (k + 1) (anyB_step hK (by rw [iq1, bI_0.mp c89]; simp)) (by omega) _ _ _ hG (lv_sub hl [3, 4, 5, 6, 7, 8, 0] rfl)
                · skip
                  refine lv_aload_n S.1 S.2.1 dX6_isQuiet_92 rfl (lv_at hl 2 rfl) ?_
                  refine lv_iload S.1 S.2.1 dX6_isQuiet_93 (lv_at hl 6 rfl) ?_
                  refine lv_iload S.1 S.2.1 dX6_isQuiet_95 (lv_at hl 1 rfl) ?_
                  refine lv_iload_n S.1 S.2.1 dX6_isQuiet_97 rfl (lv_at hl 5 rfl) ?_
                  refine hm_uV (As := [.int (nI i), .int (plF x (xRu x i) k), .int wo]) (rest := []) (st1 := [.int (bI (ihF x (nI i) (plF x (xRu x i) k) wo))]) S hE hG (c_X6_isHushed l g ad M x hx (nI i) (plF x (xRu x i) k) wo) (hm_gV hb_299 hb_300 hb_301 hb_2 hb_302) hd_X6_isHushed rfl hX rfl rfl ⟨Nat.le_of_ble_eq_true rfl, Nat.le_of_ble_eq_true rfl⟩ rfl hl.1 rfl (Nat.le_of_ble_eq_true rfl) dX6_isQuiet_98 ⟨Nat.le_of_ble_eq_true rfl, Nat.le_of_ble_eq_true rfl⟩ rfl (fun H locs hG => ?_)
                  refine lv_if_ne (tgt := 106) S.1 S.2.1 dX6_isQuiet_101 (by decide) (fun c101 => ?_) (fun c101 => ?_)
                  · skip
                    refine lv_iinc (v := nI (k + 1)) (lv' := [(6, .int (nI (k + 1))), (8, .int 1), (7, .int (plF x (xRu x i) k)), (0, .ref (ad (0, 0, 0))), (1, .int rk), (2, .int pl), (3, .int wo), (4, .int (nI i)), (5, .ref (ad (20, i, 0)))]) S.1 S.2.1 dX6_isQuiet_106 hl (k := 8) rfl (nI_1 k) (by decide) rfl (fun ls hl => ?_)
                    refine lv_goto (tgt := 32) S.1 S.2.1 dX6_isQuiet_109 (by decide) ?_
                    exact ih32 (k + 1) (anyB_step hK (by rw [iq1, bI_ne.mp c101]; simp)) (by omega) _ _ _ hG (lv_sub hl [3, 4, 5, 6, 7, 8, 0] rfl)
                  · skip
                    refine lv_iconst (v := 1) S.1 S.2.1 dX6_isQuiet_104 (by decide) ?_
                    exact hm_zret S hG hr hlk (by decide) (⟨by rw [show iqF x rk pl wo = true from anyB_true hi9 (anyB_true hk (by rw [iq1, decide_eq_true e45, bI_ne.mp c89, bI_0.mp c101]; simp [e67]))]; rfl, rfl, rfl⟩) (Nat.le_of_ble_eq_true rfl) (Nat.le_of_ble_eq_true rfl) dX6_isQuiet_105
      exact L32_1 12 0 rfl rfl _ _ _ hG (lv_sub hl [2, 3, 4, 5, 6, 1, 0] rfl)
  exact L3_0 (xR x) 0 rfl rfl _ _ _ hG (lv_sub hl [1, 2, 3, 4, 0] rfl)

abbrev rm_X6_hearing : Room := { frames := 5, cells := 0, slots := 0, locals := 116 }
set_option maxHeartbeats 4000000 in
set_option maxRecDepth 100000 in
theorem c_X6_hearing (l : Launch) (g : GV) (ad : AD) (M : CT) (x : XD) (hx : hasX g ad M x) (r : Nat) (hr9 : r < xR x) (k : Nat) (hk : k < 12) (wo : Int32) : hm_Met l yX6_hearing cX6_hearing 5 (some .int) rm_X6_hearing g ad M [.ref (ad (0, 0, 0)), .ref (ad (20, r, 0)), .int (nI k), .int wo] (hm_pU ad M (some (.int (hrF x r k wo)))) := by
  refine hm_start (own := RX6) (by decide) rfl (Nat.le_of_ble_eq_true rfl) ?_
  intro p e s m args below meth c S hr hlk hnm hE hG ls hl
  have hl : lv_has ls 5 [(0, .ref (ad (0, 0, 0))), (1, .ref (ad (20, r, 0))), (2, .int (nI k)), (3, .int wo)] := hl
  obtain ⟨hX, hLs, hLr, hLh, h7, hLg, h70, hSe, hRu, hHu, hGr, hS6, hR6, hH5⟩ := id hx
  obtain ⟨fs1, hb1⟩ := hLs.ob
  obtain ⟨fs2, hb2⟩ := hLr.ob
  obtain ⟨fs3, hb3⟩ := hLh.ob
  refine lv_aload_n S.1 S.2.1 dX6_hearing_0 rfl (lv_at hl 1 rfl) ?_
  refine lv_iload_n S.1 S.2.1 dX6_hearing_1 rfl (lv_at hl 2 rfl) ?_
  refine hm_uV (As := [.int (nI k)]) (rest := []) (st1 := [.int (bI (decide ((xAl x r k).1 = 2)))]) S hE hG (c_X4_burns l g ad M r (xRu x r) (xAl x r) (hRu r hr9) k hk) (hm_gV hb_285 hb_286 hb_287 hb_170 hb_288) hd_X4_burns rfl (hRu r hr9).1 rfl rfl ⟨Nat.le_of_ble_eq_true rfl, Nat.le_of_ble_eq_true rfl⟩ rfl hl.1 rfl (Nat.le_of_ble_eq_true rfl) dX6_hearing_2 ⟨Nat.le_of_ble_eq_true rfl, Nat.le_of_ble_eq_true rfl⟩ rfl (fun H locs hG => ?_)
  refine lv_if_ne (tgt := 10) S.1 S.2.1 dX6_hearing_5 (by decide) (fun c5 => ?_) (fun c5 => ?_)
  · skip
    have e5 : (xAl x r k).1 = 2 := of_decide_eq_true (bI_ne.mp c5)
    refine lv_aload_n S.1 S.2.1 dX6_hearing_10 rfl (lv_at hl 0 rfl) ?_
    refine lv_aload_n S.1 S.2.1 dX6_hearing_11 rfl (lv_at hl 1 rfl) ?_
    refine lv_iload_n S.1 S.2.1 dX6_hearing_12 rfl (lv_at hl 2 rfl) ?_
    refine hm_uV (As := [.ref (ad (20, r, 0)), .int (nI k)]) (rest := []) (st1 := [.int (plF x (xRu x r) k)]) S hE hG (c_X6_placeOf l g ad M x hx r hr9 k hk) (hm_gV hb_293 hb_294 hb_295 hb_2 hb_296) hd_X6_placeOf rfl hX rfl rfl ⟨Nat.le_of_ble_eq_true rfl, Nat.le_of_ble_eq_true rfl⟩ rfl hl.1 rfl (Nat.le_of_ble_eq_true rfl) dX6_hearing_13 ⟨Nat.le_of_ble_eq_true rfl, Nat.le_of_ble_eq_true rfl⟩ rfl (fun H locs hG => ?_)
    refine lv_istore (lv' := [(4, .int (plF x (xRu x r) k)), (0, .ref (ad (0, 0, 0))), (1, .ref (ad (20, r, 0))), (2, .int (nI k)), (3, .int wo)]) S.1 S.2.1 dX6_hearing_16 hl (by decide) rfl (fun ls hl => ?_)
    refine lv_aload_n S.1 S.2.1 dX6_hearing_18 rfl (lv_at hl 1 rfl) ?_
    refine lv_aload_n S.1 S.2.1 dX6_hearing_19 rfl (lv_at hl 2 rfl) ?_
    refine hm_get (k := 0) S hE hG (hRu r hr9).1 rfl rfl hi_X40 (by decide) hb_284 rfl rfl dX6_hearing_20 ?_
    refine lv_iload S.1 S.2.1 dX6_hearing_23 (lv_at hl 0 rfl) ?_
    refine lv_iload_n S.1 S.2.1 dX6_hearing_25 rfl (lv_at hl 4 rfl) ?_
    refine hm_uV (As := [.int (nI r), .int (plF x (xRu x r) k), .int wo]) (rest := []) (st1 := [.int (bI (ihF x (nI r) (plF x (xRu x r) k) wo))]) S hE hG (c_X6_isHushed l g ad M x hx (nI r) (plF x (xRu x r) k) wo) (hm_gV hb_299 hb_300 hb_301 hb_2 hb_302) hd_X6_isHushed rfl hX rfl rfl ⟨Nat.le_of_ble_eq_true rfl, Nat.le_of_ble_eq_true rfl⟩ rfl hl.1 rfl (Nat.le_of_ble_eq_true rfl) dX6_hearing_26 ⟨Nat.le_of_ble_eq_true rfl, Nat.le_of_ble_eq_true rfl⟩ rfl (fun H locs hG => ?_)
    refine lv_if_eq (tgt := 34) S.1 S.2.1 dX6_hearing_29 (by decide) (fun c29 => ?_) (fun c29 => ?_)
    · skip
      have e29 := bI_0.mp c29
      refine lv_aload_n S.1 S.2.1 dX6_hearing_34 rfl (lv_at hl 1 rfl) ?_
      refine lv_aload_n S.1 S.2.1 dX6_hearing_35 rfl (lv_at hl 2 rfl) ?_
      refine hm_get (k := 8) S hE hG (hRu r hr9).1 rfl rfl hi_X40 (by decide) hb_200 rfl rfl dX6_hearing_36 ?_
      refine lv_iload S.1 S.2.1 dX6_hearing_39 (lv_at hl 0 rfl) ?_
      refine lv_iload_n S.1 S.2.1 dX6_hearing_41 rfl (lv_at hl 4 rfl) ?_
      refine hm_uV (As := [.int (rRk (xRu x r)), .int (plF x (xRu x r) k), .int wo]) (rest := []) (st1 := [.int (bI (iqF x (rRk (xRu x r)) (plF x (xRu x r) k) wo))]) S hE hG (c_X6_isQuiet l g ad M x hx (rRk (xRu x r)) (plF x (xRu x r) k) wo) (hm_gV hb_312 hb_313 hb_314 hb_2 hb_315) hd_X6_isQuiet rfl hX rfl rfl ⟨Nat.le_of_ble_eq_true rfl, Nat.le_of_ble_eq_true rfl⟩ rfl hl.1 rfl (Nat.le_of_ble_eq_true rfl) dX6_hearing_42 ⟨Nat.le_of_ble_eq_true rfl, Nat.le_of_ble_eq_true rfl⟩ rfl (fun H locs hG => ?_)
      refine lv_if_eq (tgt := 52) S.1 S.2.1 dX6_hearing_45 (by decide) (fun c45 => ?_) (fun c45 => ?_)
      · skip
        have e45 := bI_0.mp c45
        refine lv_iconst (v := 0) S.1 S.2.1 dX6_hearing_52 (by decide) ?_
        exact hm_iret S hG hr hlk (⟨by simp [hrF, *], rfl, rfl⟩) (Nat.le_of_ble_eq_true rfl) (Nat.le_of_ble_eq_true rfl) dX6_hearing_53
      · skip
        have e45 := bI_ne.mp c45
        refine lv_iconst (v := 3) S.1 S.2.1 dX6_hearing_48 (by decide) ?_
        refine lv_goto (tgt := 53) S.1 S.2.1 dX6_hearing_49 (by decide) ?_
        exact hm_iret S hG hr hlk (⟨by simp [hrF, *], rfl, rfl⟩) (Nat.le_of_ble_eq_true rfl) (Nat.le_of_ble_eq_true rfl) dX6_hearing_53
    · skip
      have e29 := bI_ne.mp c29
      refine lv_iconst (v := 2) S.1 S.2.1 dX6_hearing_32 (by decide) ?_
      exact hm_iret S hG hr hlk (⟨by simp [hrF, *], rfl, rfl⟩) (Nat.le_of_ble_eq_true rfl) (Nat.le_of_ble_eq_true rfl) dX6_hearing_33
  · skip
    have e5 : ¬ (xAl x r k).1 = 2 := of_decide_eq_false (bI_0.mp (by simpa using c5))
    refine lv_iconst (v := 1) S.1 S.2.1 dX6_hearing_8 (by decide) ?_
    exact hm_iret S hG hr hlk (⟨by simp [hrF, *], rfl, rfl⟩) (Nat.le_of_ble_eq_true rfl) (Nat.le_of_ble_eq_true rfl) dX6_hearing_9

abbrev rm_X6_countLoud : Room := { frames := 6, cells := 0, slots := 0, locals := 140 }
set_option maxHeartbeats 4000000 in
set_option maxRecDepth 100000 in
theorem c_X6_countLoud (l : Launch) (g : GV) (ad : AD) (M : CT) (x : XD) (hx : hasX g ad M x) (wo : Int32) : hm_Met l yX6_countLoud cX6_countLoud 6 (some .int) rm_X6_countLoud g ad M [.ref (ad (0, 0, 0)), .int wo] (hm_pU ad M (some (.int (nI (clX x wo))))) := by
  refine hm_start (own := RX6) (by decide) rfl (Nat.le_of_ble_eq_true rfl) ?_
  intro p e s m args below meth c S hr hlk hnm hE hG ls hl
  have hl : lv_has ls 6 [(0, .ref (ad (0, 0, 0))), (1, .int wo)] := hl
  obtain ⟨hX, hLs, hLr, hLh, h7, hLg, h70, hSe, hRu, hHu, hGr, hS6, hR6, hH5⟩ := id hx
  obtain ⟨fs1, hb1⟩ := hLs.ob
  obtain ⟨fs2, hb2⟩ := hLr.ob
  obtain ⟨fs3, hb3⟩ := hLh.ob
  refine lv_iconst (v := 0) S.1 S.2.1 dX6_countLoud_0 (by decide) ?_
  refine lv_istore_n (lv' := [(2, .int 0), (0, .ref (ad (0, 0, 0))), (1, .int wo)]) S.1 S.2.1 dX6_countLoud_1 rfl hl (by decide) rfl (fun ls hl => ?_)
  refine lv_iconst (v := 0) S.1 S.2.1 dX6_countLoud_2 (by decide) ?_
  refine lv_istore_n (lv' := [(3, .int 0), (2, .int 0), (0, .ref (ad (0, 0, 0))), (1, .int wo)]) S.1 S.2.1 dX6_countLoud_3 rfl hl (by decide) rfl (fun ls hl => ?_)
  have L4_0 : ∀ (n : Nat) (i : Nat), n + i = xR x → ∀ (H : Heap) (locs : List Loc) (ls : Array Slot), hm_G g ad M s.heap H locs → lv_has ls 6 [(0, .ref (ad (0, 0, 0))), (1, .int wo), (2, .int (nI (clN x wo i))), (3, .int (nI i))] → W p l e rm_X6_countLoud s m args below meth c H locs 0 0 (MQ below (hm_Q g (hm_pU ad M (some (.int (nI (clX x wo)))))) args s rm_X6_countLoud.cells rm_X6_countLoud.slots (hm_A g)) (F0 m 4 ls []) := by
    intro n
    induction n with
    | zero =>
      intro i hi0 H locs ls hG hl
      obtain rfl : i = xR x := by omega
      refine lv_iload_n S.1 S.2.1 dX6_countLoud_4 rfl (lv_at hl 3 rfl) ?_
      refine lv_aload_n S.1 S.2.1 dX6_countLoud_5 rfl (lv_at hl 0 rfl) ?_
      refine hm_get (k := 1) S hE hG hX rfl rfl hi_X60 (by decide) hb_17 rfl rfl dX6_countLoud_6 ?_
      refine hm_uV (As := []) (rest := [.int (nI (xR x))]) (st1 := [.int (nI (xR x)), .int (nI (xR x))]) S hE hG (c_size l hLr) (hm_gV hb_97 hb_98 hb_99 hb_15 hb_100) hd_Jx4a65c_size_8abf5 rfl hb2 rfl rfl ⟨Nat.le_of_ble_eq_true rfl, Nat.le_of_ble_eq_true rfl⟩ rfl hl.1 rfl (Nat.le_of_ble_eq_true rfl) dX6_countLoud_9 ⟨Nat.le_of_ble_eq_true rfl, Nat.le_of_ble_eq_true rfl⟩ rfl (fun H locs hG => ?_)
      refine lv_icmp_ge (tgt := 65) S.1 S.2.1 dX6_countLoud_12 (by decide) (fun _ => ?_) (fun h9 => absurd (nI_le (Nat.le_refl _) (by omega)) h9)
      refine lv_iload_n S.1 S.2.1 dX6_countLoud_65 rfl (lv_at hl 2 rfl) ?_
      exact hm_iret S hG hr hlk (⟨rfl, rfl, rfl⟩) (Nat.le_of_ble_eq_true rfl) (Nat.le_of_ble_eq_true rfl) dX6_countLoud_66
    | succ n ih4 =>
      intro i hi0 H locs ls hG hl
      have hi9 : i < xR x := by omega
      refine lv_iload_n S.1 S.2.1 dX6_countLoud_4 rfl (lv_at hl 3 rfl) ?_
      refine lv_aload_n S.1 S.2.1 dX6_countLoud_5 rfl (lv_at hl 0 rfl) ?_
      refine hm_get (k := 1) S hE hG hX rfl rfl hi_X60 (by decide) hb_17 rfl rfl dX6_countLoud_6 ?_
      refine hm_uV (As := []) (rest := [.int (nI i)]) (st1 := [.int (nI (xR x)), .int (nI i)]) S hE hG (c_size l hLr) (hm_gV hb_97 hb_98 hb_99 hb_15 hb_100) hd_Jx4a65c_size_8abf5 rfl hb2 rfl rfl ⟨Nat.le_of_ble_eq_true rfl, Nat.le_of_ble_eq_true rfl⟩ rfl hl.1 rfl (Nat.le_of_ble_eq_true rfl) dX6_countLoud_9 ⟨Nat.le_of_ble_eq_true rfl, Nat.le_of_ble_eq_true rfl⟩ rfl (fun H locs hG => ?_)
      refine lv_icmp_ge (tgt := 65) S.1 S.2.1 dX6_countLoud_12 (by decide) (fun h9 => absurd h9 (nI_ge hi9 (by omega))) (fun _ => ?_)
      refine lv_aload_n S.1 S.2.1 dX6_countLoud_15 rfl (lv_at hl 0 rfl) ?_
      refine hm_get (k := 1) S hE hG hX rfl rfl hi_X60 (by decide) hb_17 rfl rfl dX6_countLoud_16 ?_
      refine lv_iload_n S.1 S.2.1 dX6_countLoud_19 rfl (lv_at hl 3 rfl) ?_
      refine hm_uV (As := [.int (nI i)]) (rest := []) (st1 := [.ref (ad (20, i, 0))]) S hE hG (c_get l hLr i hi9) (hm_gV hb_208 hb_209 hb_210 hb_15 hb_211) hd_Jx4a65c_get_915e3 rfl hb2 rfl rfl ⟨Nat.le_of_ble_eq_true rfl, Nat.le_of_ble_eq_true rfl⟩ rfl hl.1 rfl (Nat.le_of_ble_eq_true rfl) dX6_countLoud_20 ⟨Nat.le_of_ble_eq_true rfl, Nat.le_of_ble_eq_true rfl⟩ rfl (fun H locs hG => ?_)
      refine hm_cast S hE hG (hRu i hi9).1 rfl rfl hb_207 dX6_countLoud_23 ?_
      refine lv_astore (lv' := [(4, .ref (ad (20, i, 0))), (0, .ref (ad (0, 0, 0))), (1, .int wo), (2, .int (nI (clN x wo i))), (3, .int (nI i))]) S.1 S.2.1 dX6_countLoud_26 hl (by decide) rfl (fun ls hl => ?_)
      refine lv_iconst (v := 0) S.1 S.2.1 dX6_countLoud_28 (by decide) ?_
      refine lv_istore (lv' := [(5, .int 0), (4, .ref (ad (20, i, 0))), (0, .ref (ad (0, 0, 0))), (1, .int wo), (2, .int (nI (clN x wo i))), (3, .int (nI i))]) S.1 S.2.1 dX6_countLoud_29 hl (by decide) rfl (fun ls hl => ?_)
      have L31_1 : ∀ (n : Nat) (k : Nat), n + k = 12 → ∀ (H : Heap) (locs : List Loc) (ls : Array Slot), hm_G g ad M s.heap H locs → lv_has ls 6 [(0, .ref (ad (0, 0, 0))), (1, .int wo), (2, .int (nI (clN x wo i + cntB (cl1 x wo i) k))), (3, .int (nI i)), (4, .ref (ad (20, i, 0))), (5, .int (nI k))] → W p l e rm_X6_countLoud s m args below meth c H locs 0 0 (MQ below (hm_Q g (hm_pU ad M (some (.int (nI (clX x wo)))))) args s rm_X6_countLoud.cells rm_X6_countLoud.slots (hm_A g)) (F0 m 31 ls []) := by
        intro n
        induction n with
        | zero =>
          intro k hk0 H locs ls hG hl
          obtain rfl : k = 12 := by omega
          refine lv_iload S.1 S.2.1 dX6_countLoud_31 (lv_at hl 5 rfl) ?_
          refine lv_bipush (v := 12) S.1 S.2.1 dX6_countLoud_33 (by decide) ?_
          refine lv_icmp_ge (tgt := 59) S.1 S.2.1 dX6_countLoud_35 (by decide) (fun _ => ?_) (fun h9 => absurd (by decide) h9)
          refine lv_iinc (v := nI (i + 1)) (lv' := [(3, .int (nI (i + 1))), (0, .ref (ad (0, 0, 0))), (1, .int wo), (2, .int (nI (clN x wo (i + 1)))), (4, .ref (ad (20, i, 0))), (5, .int (nI 12))]) S.1 S.2.1 dX6_countLoud_59 hl (k := 3) rfl (nI_1 i) (by decide) rfl (fun ls hl => ?_)
          refine lv_goto (tgt := 4) S.1 S.2.1 dX6_countLoud_62 (by decide) ?_
          exact ih4 (i + 1) (by omega) _ _ _ hG (lv_sub hl [1, 2, 3, 0] rfl)
        | succ n ih31 =>
          intro k hk0 H locs ls hG hl
          have hk : k < 12 := by omega
          refine lv_iload S.1 S.2.1 dX6_countLoud_31 (lv_at hl 5 rfl) ?_
          refine lv_bipush (v := 12) S.1 S.2.1 dX6_countLoud_33 (by decide) ?_
          refine lv_icmp_ge (tgt := 59) S.1 S.2.1 dX6_countLoud_35 (by decide) (fun h9 => absurd h9 (nI_ge (b := 12) hk (by decide))) (fun _ => ?_)
          refine lv_aload_n S.1 S.2.1 dX6_countLoud_38 rfl (lv_at hl 0 rfl) ?_
          refine lv_aload S.1 S.2.1 dX6_countLoud_39 (lv_at hl 4 rfl) ?_
          refine lv_iload S.1 S.2.1 dX6_countLoud_41 (lv_at hl 5 rfl) ?_
          refine lv_iload_n S.1 S.2.1 dX6_countLoud_43 rfl (lv_at hl 1 rfl) ?_
          refine hm_uV (As := [.ref (ad (20, i, 0)), .int (nI k), .int wo]) (rest := []) (st1 := [.int (hrF x i k wo)]) S hE hG (c_X6_hearing l g ad M x hx i hi9 k hk wo) (hm_gV hb_280 hb_281 hb_282 hb_2 hb_283) hd_X6_hearing rfl hX rfl rfl ⟨Nat.le_of_ble_eq_true rfl, Nat.le_of_ble_eq_true rfl⟩ rfl hl.1 rfl (Nat.le_of_ble_eq_true rfl) dX6_countLoud_44 ⟨Nat.le_of_ble_eq_true rfl, Nat.le_of_ble_eq_true rfl⟩ rfl (fun H locs hG => ?_)
          refine lv_if_ne (tgt := 53) S.1 S.2.1 dX6_countLoud_47 (by decide) (fun c47 => ?_) (fun c47 => ?_)
          · skip
            have e9 : cntB (cl1 x wo i) (k + 1) = cntB (cl1 x wo i) k := cntB_f (decide_eq_false c47)
            rw [← e9] at hl
            refine lv_iinc (v := nI (k + 1)) (lv' := [(5, .int (nI (k + 1))), (0, .ref (ad (0, 0, 0))), (1, .int wo), (2, .int (nI (clN x wo i + cntB (cl1 x wo i) (k + 1)))), (3, .int (nI i)), (4, .ref (ad (20, i, 0)))]) S.1 S.2.1 dX6_countLoud_53 hl (k := 5) rfl (nI_1 k) (by decide) rfl (fun ls hl => ?_)
            refine lv_goto (tgt := 31) S.1 S.2.1 dX6_countLoud_56 (by decide) ?_
            exact ih31 (k + 1) (by omega) _ _ _ hG (lv_sub hl [1, 2, 3, 4, 5, 0] rfl)
          · skip
            refine lv_iinc (v := nI (clN x wo i + cntB (cl1 x wo i) (k + 1))) (lv' := [(2, .int (nI (clN x wo i + cntB (cl1 x wo i) (k + 1)))), (0, .ref (ad (0, 0, 0))), (1, .int wo), (3, .int (nI i)), (4, .ref (ad (20, i, 0))), (5, .int (nI k))]) S.1 S.2.1 dX6_countLoud_50 hl (k := 2) rfl (by rw [cntB_t (decide_eq_true (by simpa using c47))]; exact nI_1 _) (by decide) rfl (fun ls hl => ?_)
            refine lv_iinc (v := nI (k + 1)) (lv' := [(5, .int (nI (k + 1))), (2, .int (nI (clN x wo i + cntB (cl1 x wo i) (k + 1)))), (0, .ref (ad (0, 0, 0))), (1, .int wo), (3, .int (nI i)), (4, .ref (ad (20, i, 0)))]) S.1 S.2.1 dX6_countLoud_53 hl (k := 5) rfl (nI_1 k) (by decide) rfl (fun ls hl => ?_)
            refine lv_goto (tgt := 31) S.1 S.2.1 dX6_countLoud_56 (by decide) ?_
            exact ih31 (k + 1) (by omega) _ _ _ hG (lv_sub hl [2, 3, 1, 4, 5, 0] rfl)
      exact L31_1 12 0 rfl _ _ _ hG (lv_sub hl [2, 3, 4, 5, 1, 0] rfl)
  exact L4_0 (xR x) 0 rfl _ _ _ hG (lv_sub hl [2, 3, 1, 0] rfl)

abbrev rm_X6_countCovered : Room := { frames := 4, cells := 0, slots := 0, locals := 86 }
set_option maxHeartbeats 4000000 in
set_option maxRecDepth 100000 in
theorem c_X6_countCovered (l : Launch) (g : GV) (ad : AD) (M : CT) (x : XD) (hx : hasX g ad M x) (h : Nat) (hh9 : h < xH x) : hm_Met l yX6_countCovered cX6_countCovered 6 (some .int) rm_X6_countCovered g ad M [.ref (ad (0, 0, 0)), .ref (ad (30, h, 0))] (hm_pU ad M (some (.int (nI (ccX x (xHu x h)))))) := by
  refine hm_start (own := RX6) (by decide) rfl (Nat.le_of_ble_eq_true rfl) ?_
  intro p e s m args below meth c S hr hlk hnm hE hG ls hl
  have hl : lv_has ls 6 [(0, .ref (ad (0, 0, 0))), (1, .ref (ad (30, h, 0)))] := hl
  obtain ⟨hX, hLs, hLr, hLh, h7, hLg, h70, hSe, hRu, hHu, hGr, hS6, hR6, hH5⟩ := id hx
  obtain ⟨fs1, hb1⟩ := hLs.ob
  obtain ⟨fs2, hb2⟩ := hLr.ob
  obtain ⟨fs3, hb3⟩ := hLh.ob
  refine lv_iconst (v := 0) S.1 S.2.1 dX6_countCovered_0 (by decide) ?_
  refine lv_istore_n (lv' := [(2, .int 0), (0, .ref (ad (0, 0, 0))), (1, .ref (ad (30, h, 0)))]) S.1 S.2.1 dX6_countCovered_1 rfl hl (by decide) rfl (fun ls hl => ?_)
  refine lv_iconst (v := 0) S.1 S.2.1 dX6_countCovered_2 (by decide) ?_
  refine lv_istore_n (lv' := [(3, .int 0), (2, .int 0), (0, .ref (ad (0, 0, 0))), (1, .ref (ad (30, h, 0)))]) S.1 S.2.1 dX6_countCovered_3 rfl hl (by decide) rfl (fun ls hl => ?_)
  have L4_0 : ∀ (n : Nat) (i : Nat), n + i = xR x → ∀ (H : Heap) (locs : List Loc) (ls : Array Slot), hm_G g ad M s.heap H locs → lv_has ls 6 [(0, .ref (ad (0, 0, 0))), (1, .ref (ad (30, h, 0))), (2, .int (nI (ccN x (xHu x h) i))), (3, .int (nI i))] → W p l e rm_X6_countCovered s m args below meth c H locs 0 0 (MQ below (hm_Q g (hm_pU ad M (some (.int (nI (ccX x (xHu x h))))))) args s rm_X6_countCovered.cells rm_X6_countCovered.slots (hm_A g)) (F0 m 4 ls []) := by
    intro n
    induction n with
    | zero =>
      intro i hi0 H locs ls hG hl
      obtain rfl : i = xR x := by omega
      refine lv_iload_n S.1 S.2.1 dX6_countCovered_4 rfl (lv_at hl 3 rfl) ?_
      refine lv_aload_n S.1 S.2.1 dX6_countCovered_5 rfl (lv_at hl 0 rfl) ?_
      refine hm_get (k := 1) S hE hG hX rfl rfl hi_X60 (by decide) hb_17 rfl rfl dX6_countCovered_6 ?_
      refine hm_uV (As := []) (rest := [.int (nI (xR x))]) (st1 := [.int (nI (xR x)), .int (nI (xR x))]) S hE hG (c_size l hLr) (hm_gV hb_97 hb_98 hb_99 hb_15 hb_100) hd_Jx4a65c_size_8abf5 rfl hb2 rfl rfl ⟨Nat.le_of_ble_eq_true rfl, Nat.le_of_ble_eq_true rfl⟩ rfl hl.1 rfl (Nat.le_of_ble_eq_true rfl) dX6_countCovered_9 ⟨Nat.le_of_ble_eq_true rfl, Nat.le_of_ble_eq_true rfl⟩ rfl (fun H locs hG => ?_)
      refine lv_icmp_ge (tgt := 83) S.1 S.2.1 dX6_countCovered_12 (by decide) (fun _ => ?_) (fun h9 => absurd (nI_le (Nat.le_refl _) (by omega)) h9)
      refine lv_iload_n S.1 S.2.1 dX6_countCovered_83 rfl (lv_at hl 2 rfl) ?_
      exact hm_iret S hG hr hlk (⟨rfl, rfl, rfl⟩) (Nat.le_of_ble_eq_true rfl) (Nat.le_of_ble_eq_true rfl) dX6_countCovered_84
    | succ n ih4 =>
      intro i hi0 H locs ls hG hl
      have hi9 : i < xR x := by omega
      refine lv_iload_n S.1 S.2.1 dX6_countCovered_4 rfl (lv_at hl 3 rfl) ?_
      refine lv_aload_n S.1 S.2.1 dX6_countCovered_5 rfl (lv_at hl 0 rfl) ?_
      refine hm_get (k := 1) S hE hG hX rfl rfl hi_X60 (by decide) hb_17 rfl rfl dX6_countCovered_6 ?_
      refine hm_uV (As := []) (rest := [.int (nI i)]) (st1 := [.int (nI (xR x)), .int (nI i)]) S hE hG (c_size l hLr) (hm_gV hb_97 hb_98 hb_99 hb_15 hb_100) hd_Jx4a65c_size_8abf5 rfl hb2 rfl rfl ⟨Nat.le_of_ble_eq_true rfl, Nat.le_of_ble_eq_true rfl⟩ rfl hl.1 rfl (Nat.le_of_ble_eq_true rfl) dX6_countCovered_9 ⟨Nat.le_of_ble_eq_true rfl, Nat.le_of_ble_eq_true rfl⟩ rfl (fun H locs hG => ?_)
      refine lv_icmp_ge (tgt := 83) S.1 S.2.1 dX6_countCovered_12 (by decide) (fun h9 => absurd h9 (nI_ge hi9 (by omega))) (fun _ => ?_)
      refine lv_aload_n S.1 S.2.1 dX6_countCovered_15 rfl (lv_at hl 0 rfl) ?_
      refine hm_get (k := 1) S hE hG hX rfl rfl hi_X60 (by decide) hb_17 rfl rfl dX6_countCovered_16 ?_
      refine lv_iload_n S.1 S.2.1 dX6_countCovered_19 rfl (lv_at hl 3 rfl) ?_
      refine hm_uV (As := [.int (nI i)]) (rest := []) (st1 := [.ref (ad (20, i, 0))]) S hE hG (c_get l hLr i hi9) (hm_gV hb_208 hb_209 hb_210 hb_15 hb_211) hd_Jx4a65c_get_915e3 rfl hb2 rfl rfl ⟨Nat.le_of_ble_eq_true rfl, Nat.le_of_ble_eq_true rfl⟩ rfl hl.1 rfl (Nat.le_of_ble_eq_true rfl) dX6_countCovered_20 ⟨Nat.le_of_ble_eq_true rfl, Nat.le_of_ble_eq_true rfl⟩ rfl (fun H locs hG => ?_)
      refine hm_cast S hE hG (hRu i hi9).1 rfl rfl hb_207 dX6_countCovered_23 ?_
      refine lv_astore (lv' := [(4, .ref (ad (20, i, 0))), (0, .ref (ad (0, 0, 0))), (1, .ref (ad (30, h, 0))), (2, .int (nI (ccN x (xHu x h) i))), (3, .int (nI i))]) S.1 S.2.1 dX6_countCovered_26 hl (by decide) rfl (fun ls hl => ?_)
      refine lv_iconst (v := 0) S.1 S.2.1 dX6_countCovered_28 (by decide) ?_
      refine lv_istore (lv' := [(5, .int 0), (4, .ref (ad (20, i, 0))), (0, .ref (ad (0, 0, 0))), (1, .ref (ad (30, h, 0))), (2, .int (nI (ccN x (xHu x h) i))), (3, .int (nI i))]) S.1 S.2.1 dX6_countCovered_29 hl (by decide) rfl (fun ls hl => ?_)
      have L31_1 : ∀ (n : Nat) (k : Nat), n + k = 12 → ∀ (H : Heap) (locs : List Loc) (ls : Array Slot), hm_G g ad M s.heap H locs → lv_has ls 6 [(0, .ref (ad (0, 0, 0))), (1, .ref (ad (30, h, 0))), (2, .int (nI (ccN x (xHu x h) i + cntB (cc1 x (xHu x h) i) k))), (3, .int (nI i)), (4, .ref (ad (20, i, 0))), (5, .int (nI k))] → W p l e rm_X6_countCovered s m args below meth c H locs 0 0 (MQ below (hm_Q g (hm_pU ad M (some (.int (nI (ccX x (xHu x h))))))) args s rm_X6_countCovered.cells rm_X6_countCovered.slots (hm_A g)) (F0 m 31 ls []) := by
        intro n
        induction n with
        | zero =>
          intro k hk0 H locs ls hG hl
          obtain rfl : k = 12 := by omega
          refine lv_iload S.1 S.2.1 dX6_countCovered_31 (lv_at hl 5 rfl) ?_
          refine lv_bipush (v := 12) S.1 S.2.1 dX6_countCovered_33 (by decide) ?_
          refine lv_icmp_ge (tgt := 77) S.1 S.2.1 dX6_countCovered_35 (by decide) (fun _ => ?_) (fun h9 => absurd (by decide) h9)
          refine lv_iinc (v := nI (i + 1)) (lv' := [(3, .int (nI (i + 1))), (0, .ref (ad (0, 0, 0))), (1, .ref (ad (30, h, 0))), (2, .int (nI (ccN x (xHu x h) (i + 1)))), (4, .ref (ad (20, i, 0))), (5, .int (nI 12))]) S.1 S.2.1 dX6_countCovered_77 hl (k := 3) rfl (nI_1 i) (by decide) rfl (fun ls hl => ?_)
          refine lv_goto (tgt := 4) S.1 S.2.1 dX6_countCovered_80 (by decide) ?_
          exact ih4 (i + 1) (by omega) _ _ _ hG (lv_sub hl [1, 2, 3, 0] rfl)
        | succ n ih31 =>
          intro k hk0 H locs ls hG hl
          have hk : k < 12 := by omega
          refine lv_iload S.1 S.2.1 dX6_countCovered_31 (lv_at hl 5 rfl) ?_
          refine lv_bipush (v := 12) S.1 S.2.1 dX6_countCovered_33 (by decide) ?_
          refine lv_icmp_ge (tgt := 77) S.1 S.2.1 dX6_countCovered_35 (by decide) (fun h9 => absurd h9 (nI_ge (b := 12) hk (by decide))) (fun _ => ?_)
          refine lv_aload S.1 S.2.1 dX6_countCovered_38 (lv_at hl 4 rfl) ?_
          refine lv_iload S.1 S.2.1 dX6_countCovered_40 (lv_at hl 5 rfl) ?_
          refine hm_uV (As := [.int (nI k)]) (rest := []) (st1 := [.int (bI (!decide ((xAl x i k).1 = 0)))]) S hE hG (c_X4_hasAlert l g ad M i (xRu x i) (xAl x i) (hRu i hi9) k hk) (hm_gV hb_561 hb_562 hb_563 hb_170 hb_564) hd_X4_hasAlert rfl (hRu i hi9).1 rfl rfl ⟨Nat.le_of_ble_eq_true rfl, Nat.le_of_ble_eq_true rfl⟩ rfl hl.1 rfl (Nat.le_of_ble_eq_true rfl) dX6_countCovered_42 ⟨Nat.le_of_ble_eq_true rfl, Nat.le_of_ble_eq_true rfl⟩ rfl (fun H locs hG => ?_)
          refine lv_if_eq (tgt := 71) S.1 S.2.1 dX6_countCovered_45 (by decide) (fun c45 => ?_) (fun c45 => ?_)
          · skip
            have e9 : cntB (cc1 x (xHu x h) i) (k + 1) = cntB (cc1 x (xHu x h) i) k := cntB_f (by rw [cc1, bI_0.mp c45]; rfl)
            rw [← e9] at hl
            refine lv_iinc (v := nI (k + 1)) (lv' := [(5, .int (nI (k + 1))), (0, .ref (ad (0, 0, 0))), (1, .ref (ad (30, h, 0))), (2, .int (nI (ccN x (xHu x h) i + cntB (cc1 x (xHu x h) i) (k + 1)))), (3, .int (nI i)), (4, .ref (ad (20, i, 0)))]) S.1 S.2.1 dX6_countCovered_71 hl (k := 5) rfl (nI_1 k) (by decide) rfl (fun ls hl => ?_)
            refine lv_goto (tgt := 31) S.1 S.2.1 dX6_countCovered_74 (by decide) ?_
            exact ih31 (k + 1) (by omega) _ _ _ hG (lv_sub hl [1, 2, 3, 4, 5, 0] rfl)
          · skip
            refine lv_aload_n S.1 S.2.1 dX6_countCovered_48 rfl (lv_at hl 1 rfl) ?_
            refine lv_iload_n S.1 S.2.1 dX6_countCovered_49 rfl (lv_at hl 3 rfl) ?_
            refine lv_aload_n S.1 S.2.1 dX6_countCovered_50 rfl (lv_at hl 0 rfl) ?_
            refine lv_aload S.1 S.2.1 dX6_countCovered_51 (lv_at hl 4 rfl) ?_
            refine lv_iload S.1 S.2.1 dX6_countCovered_53 (lv_at hl 5 rfl) ?_
            refine hm_uV (As := [.ref (ad (20, i, 0)), .int (nI k)]) (rest := [.int (nI i), .ref (ad (30, h, 0))]) (st1 := [.int (plF x (xRu x i) k), .int (nI i), .ref (ad (30, h, 0))]) S hE hG (c_X6_placeOf l g ad M x hx i hi9 k hk) (hm_gV hb_293 hb_294 hb_295 hb_2 hb_296) hd_X6_placeOf rfl hX rfl rfl ⟨Nat.le_of_ble_eq_true rfl, Nat.le_of_ble_eq_true rfl⟩ rfl hl.1 rfl (Nat.le_of_ble_eq_true rfl) dX6_countCovered_55 ⟨Nat.le_of_ble_eq_true rfl, Nat.le_of_ble_eq_true rfl⟩ rfl (fun H locs hG => ?_)
            refine lv_aload_n S.1 S.2.1 dX6_countCovered_58 rfl (lv_at hl 0 rfl) ?_
            refine hm_get (k := 6) S hE hG hX rfl rfl hi_X60 (by decide) hb_31 rfl rfl dX6_countCovered_59 ?_
            refine hm_uV (As := [.int (nI i), .int (plF x (xRu x i) k), .int (nI (xC x))]) (rest := []) (st1 := [.int (bI (covF (xHu x h) (nI i) (plF x (xRu x i) k) (nI (xC x))))]) S hE hG (c_X2_covers l g ad M (30, h, 0) (xHu x h) (nI i) (plF x (xRu x i) k) (nI (xC x)) (hHu h hh9)) (hm_gV hb_304 hb_305 hb_306 hb_307 hb_308) hd_X2_covers rfl (hHu h hh9) rfl rfl ⟨Nat.le_of_ble_eq_true rfl, Nat.le_of_ble_eq_true rfl⟩ rfl hl.1 rfl (Nat.le_of_ble_eq_true rfl) dX6_countCovered_62 ⟨Nat.le_of_ble_eq_true rfl, Nat.le_of_ble_eq_true rfl⟩ rfl (fun H locs hG => ?_)
            refine lv_if_eq (tgt := 71) S.1 S.2.1 dX6_countCovered_65 (by decide) (fun c65 => ?_) (fun c65 => ?_)
            · skip
              have e9 : cntB (cc1 x (xHu x h) i) (k + 1) = cntB (cc1 x (xHu x h) i) k := cntB_f (by rw [cc1, bI_0.mp c65, Bool.and_false])
              rw [← e9] at hl
              refine lv_iinc (v := nI (k + 1)) (lv' := [(5, .int (nI (k + 1))), (0, .ref (ad (0, 0, 0))), (1, .ref (ad (30, h, 0))), (2, .int (nI (ccN x (xHu x h) i + cntB (cc1 x (xHu x h) i) (k + 1)))), (3, .int (nI i)), (4, .ref (ad (20, i, 0)))]) S.1 S.2.1 dX6_countCovered_71 hl (k := 5) rfl (nI_1 k) (by decide) rfl (fun ls hl => ?_)
              refine lv_goto (tgt := 31) S.1 S.2.1 dX6_countCovered_74 (by decide) ?_
              exact ih31 (k + 1) (by omega) _ _ _ hG (lv_sub hl [1, 2, 3, 4, 5, 0] rfl)
            · skip
              refine lv_iinc (v := nI (ccN x (xHu x h) i + cntB (cc1 x (xHu x h) i) (k + 1))) (lv' := [(2, .int (nI (ccN x (xHu x h) i + cntB (cc1 x (xHu x h) i) (k + 1)))), (0, .ref (ad (0, 0, 0))), (1, .ref (ad (30, h, 0))), (3, .int (nI i)), (4, .ref (ad (20, i, 0))), (5, .int (nI k))]) S.1 S.2.1 dX6_countCovered_68 hl (k := 2) rfl (by rw [cntB_t (by rw [cc1, bI_ne.mp c65, bI_ne.mp c45]; rfl)]; exact nI_1 _) (by decide) rfl (fun ls hl => ?_)
              refine lv_iinc (v := nI (k + 1)) (lv' := [(5, .int (nI (k + 1))), (2, .int (nI (ccN x (xHu x h) i + cntB (cc1 x (xHu x h) i) (k + 1)))), (0, .ref (ad (0, 0, 0))), (1, .ref (ad (30, h, 0))), (3, .int (nI i)), (4, .ref (ad (20, i, 0)))]) S.1 S.2.1 dX6_countCovered_71 hl (k := 5) rfl (nI_1 k) (by decide) rfl (fun ls hl => ?_)
              refine lv_goto (tgt := 31) S.1 S.2.1 dX6_countCovered_74 (by decide) ?_
              exact ih31 (k + 1) (by omega) _ _ _ hG (lv_sub hl [2, 3, 1, 4, 5, 0] rfl)
      exact L31_1 12 0 rfl _ _ _ hG (lv_sub hl [2, 3, 4, 5, 1, 0] rfl)
  exact L4_0 (xR x) 0 rfl _ _ _ hG (lv_sub hl [2, 3, 1, 0] rfl)

abbrev rm_X6_countAlerts : Room := { frames := 3, cells := 0, slots := 0, locals := 64 }
set_option maxHeartbeats 4000000 in
set_option maxRecDepth 100000 in
theorem c_X6_countAlerts (l : Launch) (g : GV) (ad : AD) (M : CT) (x : XD) (hx : hasX g ad M x) (le : Int32) : hm_Met l yX6_countAlerts cX6_countAlerts 4 (some .int) rm_X6_countAlerts g ad M [.ref (ad (0, 0, 0)), .int le] (hm_pU ad M (some (.int (nI (caX x le))))) := by
  refine hm_start (own := RX6) (by decide) rfl (Nat.le_of_ble_eq_true rfl) ?_
  intro p e s m args below meth c S hr hlk hnm hE hG ls hl
  have hl : lv_has ls 4 [(0, .ref (ad (0, 0, 0))), (1, .int le)] := hl
  obtain ⟨hX, hLs, hLr, hLh, h7, hLg, h70, hSe, hRu, hHu, hGr, hS6, hR6, hH5⟩ := id hx
  obtain ⟨fs1, hb1⟩ := hLs.ob
  obtain ⟨fs2, hb2⟩ := hLr.ob
  obtain ⟨fs3, hb3⟩ := hLh.ob
  refine lv_iconst (v := 0) S.1 S.2.1 dX6_countAlerts_0 (by decide) ?_
  refine lv_istore_n (lv' := [(2, .int 0), (0, .ref (ad (0, 0, 0))), (1, .int le)]) S.1 S.2.1 dX6_countAlerts_1 rfl hl (by decide) rfl (fun ls hl => ?_)
  refine lv_iconst (v := 0) S.1 S.2.1 dX6_countAlerts_2 (by decide) ?_
  refine lv_istore_n (lv' := [(3, .int 0), (2, .int 0), (0, .ref (ad (0, 0, 0))), (1, .int le)]) S.1 S.2.1 dX6_countAlerts_3 rfl hl (by decide) rfl (fun ls hl => ?_)
  have L4_0 : ∀ (n : Nat) (i : Nat), n + i = xR x → ∀ (H : Heap) (locs : List Loc) (ls : Array Slot), hm_G g ad M s.heap H locs → lv_has ls 4 [(0, .ref (ad (0, 0, 0))), (1, .int le), (2, .int (nI (caN x le i))), (3, .int (nI i))] → W p l e rm_X6_countAlerts s m args below meth c H locs 0 0 (MQ below (hm_Q g (hm_pU ad M (some (.int (nI (caX x le)))))) args s rm_X6_countAlerts.cells rm_X6_countAlerts.slots (hm_A g)) (F0 m 4 ls []) := by
    intro n
    induction n with
    | zero =>
      intro i hi0 H locs ls hG hl
      obtain rfl : i = xR x := by omega
      refine lv_iload_n S.1 S.2.1 dX6_countAlerts_4 rfl (lv_at hl 3 rfl) ?_
      refine lv_aload_n S.1 S.2.1 dX6_countAlerts_5 rfl (lv_at hl 0 rfl) ?_
      refine hm_get (k := 1) S hE hG hX rfl rfl hi_X60 (by decide) hb_17 rfl rfl dX6_countAlerts_6 ?_
      refine hm_uV (As := []) (rest := [.int (nI (xR x))]) (st1 := [.int (nI (xR x)), .int (nI (xR x))]) S hE hG (c_size l hLr) (hm_gV hb_97 hb_98 hb_99 hb_15 hb_100) hd_Jx4a65c_size_8abf5 rfl hb2 rfl rfl ⟨Nat.le_of_ble_eq_true rfl, Nat.le_of_ble_eq_true rfl⟩ rfl hl.1 rfl (Nat.le_of_ble_eq_true rfl) dX6_countAlerts_9 ⟨Nat.le_of_ble_eq_true rfl, Nat.le_of_ble_eq_true rfl⟩ rfl (fun H locs hG => ?_)
      refine lv_icmp_ge (tgt := 39) S.1 S.2.1 dX6_countAlerts_12 (by decide) (fun _ => ?_) (fun h9 => absurd (nI_le (Nat.le_refl _) (by omega)) h9)
      refine lv_iload_n S.1 S.2.1 dX6_countAlerts_39 rfl (lv_at hl 2 rfl) ?_
      exact hm_iret S hG hr hlk (⟨rfl, rfl, rfl⟩) (Nat.le_of_ble_eq_true rfl) (Nat.le_of_ble_eq_true rfl) dX6_countAlerts_40
    | succ n ih4 =>
      intro i hi0 H locs ls hG hl
      have hi9 : i < xR x := by omega
      refine lv_iload_n S.1 S.2.1 dX6_countAlerts_4 rfl (lv_at hl 3 rfl) ?_
      refine lv_aload_n S.1 S.2.1 dX6_countAlerts_5 rfl (lv_at hl 0 rfl) ?_
      refine hm_get (k := 1) S hE hG hX rfl rfl hi_X60 (by decide) hb_17 rfl rfl dX6_countAlerts_6 ?_
      refine hm_uV (As := []) (rest := [.int (nI i)]) (st1 := [.int (nI (xR x)), .int (nI i)]) S hE hG (c_size l hLr) (hm_gV hb_97 hb_98 hb_99 hb_15 hb_100) hd_Jx4a65c_size_8abf5 rfl hb2 rfl rfl ⟨Nat.le_of_ble_eq_true rfl, Nat.le_of_ble_eq_true rfl⟩ rfl hl.1 rfl (Nat.le_of_ble_eq_true rfl) dX6_countAlerts_9 ⟨Nat.le_of_ble_eq_true rfl, Nat.le_of_ble_eq_true rfl⟩ rfl (fun H locs hG => ?_)
      refine lv_icmp_ge (tgt := 39) S.1 S.2.1 dX6_countAlerts_12 (by decide) (fun h9 => absurd h9 (nI_ge hi9 (by omega))) (fun _ => ?_)
      refine lv_iload_n S.1 S.2.1 dX6_countAlerts_15 rfl (lv_at hl 2 rfl) ?_
      refine lv_aload_n S.1 S.2.1 dX6_countAlerts_16 rfl (lv_at hl 0 rfl) ?_
      refine hm_get (k := 1) S hE hG hX rfl rfl hi_X60 (by decide) hb_17 rfl rfl dX6_countAlerts_17 ?_
      refine lv_iload_n S.1 S.2.1 dX6_countAlerts_20 rfl (lv_at hl 3 rfl) ?_
      refine hm_uV (As := [.int (nI i)]) (rest := [.int (nI (caN x le i))]) (st1 := [.ref (ad (20, i, 0)), .int (nI (caN x le i))]) S hE hG (c_get l hLr i hi9) (hm_gV hb_208 hb_209 hb_210 hb_15 hb_211) hd_Jx4a65c_get_915e3 rfl hb2 rfl rfl ⟨Nat.le_of_ble_eq_true rfl, Nat.le_of_ble_eq_true rfl⟩ rfl hl.1 rfl (Nat.le_of_ble_eq_true rfl) dX6_countAlerts_21 ⟨Nat.le_of_ble_eq_true rfl, Nat.le_of_ble_eq_true rfl⟩ rfl (fun H locs hG => ?_)
      refine hm_cast S hE hG (hRu i hi9).1 rfl rfl hb_207 dX6_countAlerts_24 ?_
      refine lv_iload_n S.1 S.2.1 dX6_countAlerts_27 rfl (lv_at hl 1 rfl) ?_
      refine hm_uV (As := [.int le]) (rest := [.int (nI (caN x le i))]) (st1 := [.int (nI (caF (xAl x i) le)), .int (nI (caN x le i))]) S hE hG (c_X4_countAlertsFrom l g ad M i (xRu x i) (xAl x i) (hRu i hi9) le) (hm_gV hb_271 hb_272 hb_273 hb_170 hb_274) hd_X4_countAlertsFrom rfl (hRu i hi9).1 rfl rfl ⟨Nat.le_of_ble_eq_true rfl, Nat.le_of_ble_eq_true rfl⟩ rfl hl.1 rfl (Nat.le_of_ble_eq_true rfl) dX6_countAlerts_28 ⟨Nat.le_of_ble_eq_true rfl, Nat.le_of_ble_eq_true rfl⟩ rfl (fun H locs hG => ?_)
      refine lv_iadd S.1 S.2.1 dX6_countAlerts_31 ?_
      refine hm_top (z := nI (caN x le (i + 1))) (nI_add _ _) ?_
      refine lv_istore_n (lv' := [(2, .int (nI (caN x le (i + 1)))), (0, .ref (ad (0, 0, 0))), (1, .int le), (3, .int (nI i))]) S.1 S.2.1 dX6_countAlerts_32 rfl hl (by decide) rfl (fun ls hl => ?_)
      refine lv_iinc (v := nI (i + 1)) (lv' := [(3, .int (nI (i + 1))), (2, .int (nI (caN x le (i + 1)))), (0, .ref (ad (0, 0, 0))), (1, .int le)]) S.1 S.2.1 dX6_countAlerts_33 hl (k := 3) rfl (nI_1 i) (by decide) rfl (fun ls hl => ?_)
      refine lv_goto (tgt := 4) S.1 S.2.1 dX6_countAlerts_36 (by decide) ?_
      exact ih4 (i + 1) (by omega) _ _ _ hG (lv_sub hl [2, 3, 1, 0] rfl)
  exact L4_0 (xR x) 0 rfl _ _ _ hG (lv_sub hl [2, 3, 1, 0] rfl)

abbrev rm_X6_groupOf : Room := { frames := 4, cells := 0, slots := 0, locals := 86 }
set_option maxHeartbeats 4000000 in
set_option maxRecDepth 100000 in
theorem c_X6_groupOf (l : Launch) (g : GV) (ad : AD) (M : CT) (x : XD) (hx : hasX g ad M x) (r : Nat) (hr9 : r < xR x) (k : Nat) (hk : k < 12) (hg3 : xG x < 3) : hm_Met l yX6_groupOf cX6_groupOf 4 (some .int) rm_X6_groupOf g ad M [.ref (ad (0, 0, 0)), .ref (ad (20, r, 0)), .int (nI k)] (hm_pU ad M (some (.int (goF x r k)))) := by
  refine hm_start (own := RX6) (by decide) rfl (Nat.le_of_ble_eq_true rfl) ?_
  intro p e s m args below meth c S hr hlk hnm hE hG ls hl
  have hl : lv_has ls 4 [(0, .ref (ad (0, 0, 0))), (1, .ref (ad (20, r, 0))), (2, .int (nI k))] := hl
  obtain ⟨hX, hLs, hLr, hLh, h7, hLg, h70, hSe, hRu, hHu, hGr, hS6, hR6, hH5⟩ := id hx
  obtain ⟨fs1, hb1⟩ := hLs.ob
  obtain ⟨fs2, hb2⟩ := hLr.ob
  obtain ⟨fs3, hb3⟩ := hLh.ob
  refine lv_aload_n S.1 S.2.1 dX6_groupOf_0 rfl (lv_at hl 0 rfl) ?_
  refine hm_get (k := 7) S hE hG hX rfl rfl hi_X60 (by decide) hb_32 rfl rfl dX6_groupOf_1 ?_
  refine lv_iconst (v := 1) S.1 S.2.1 dX6_groupOf_4 (by decide) ?_
  refine lv_icmp_ne (tgt := 13) S.1 S.2.1 dX6_groupOf_5 (by decide) (fun c5 => ?_) (fun c5 => ?_)
  · skip
    have e5 : ¬ xG x = 1 := fun h => c5 (by rw [h]; rfl)
    refine lv_aload_n S.1 S.2.1 dX6_groupOf_13 rfl (lv_at hl 0 rfl) ?_
    refine hm_get (k := 7) S hE hG hX rfl rfl hi_X60 (by decide) hb_32 rfl rfl dX6_groupOf_14 ?_
    refine lv_iconst (v := 2) S.1 S.2.1 dX6_groupOf_17 (by decide) ?_
    refine lv_icmp_ne (tgt := 40) S.1 S.2.1 dX6_groupOf_18 (by decide) (fun c18 => ?_) (fun c18 => ?_)
    · skip
      have e18 : ¬ xG x = 2 := fun h => c18 (by rw [h]; rfl)
      refine lv_iconst (v := 0) S.1 S.2.1 dX6_groupOf_40 (by decide) ?_
      exact hm_iret S hG hr hlk (⟨by simp [goF, *], rfl, rfl⟩) (Nat.le_of_ble_eq_true rfl) (Nat.le_of_ble_eq_true rfl) dX6_groupOf_41
    · skip
      have e18 : xG x = 2 := hm_eqI (b := 2) (by omega) (by decide) (show nI (xG x) = nI 2 from c18)
      refine lv_aload_n S.1 S.2.1 dX6_groupOf_21 rfl (lv_at hl 0 rfl) ?_
      refine lv_aload_n S.1 S.2.1 dX6_groupOf_22 rfl (lv_at hl 1 rfl) ?_
      refine lv_iload_n S.1 S.2.1 dX6_groupOf_23 rfl (lv_at hl 2 rfl) ?_
      refine hm_uV (As := [.ref (ad (20, r, 0)), .int (nI k)]) (rest := []) (st1 := [.int (plF x (xRu x r) k)]) S hE hG (c_X6_placeOf l g ad M x hx r hr9 k hk) (hm_gV hb_293 hb_294 hb_295 hb_2 hb_296) hd_X6_placeOf rfl hX rfl rfl ⟨Nat.le_of_ble_eq_true rfl, Nat.le_of_ble_eq_true rfl⟩ rfl hl.1 rfl (Nat.le_of_ble_eq_true rfl) dX6_groupOf_24 ⟨Nat.le_of_ble_eq_true rfl, Nat.le_of_ble_eq_true rfl⟩ rfl (fun H locs hG => ?_)
      refine lv_istore_n (lv' := [(3, .int (plF x (xRu x r) k)), (0, .ref (ad (0, 0, 0))), (1, .ref (ad (20, r, 0))), (2, .int (nI k))]) S.1 S.2.1 dX6_groupOf_27 rfl hl (by decide) rfl (fun ls hl => ?_)
      refine lv_iload_n S.1 S.2.1 dX6_groupOf_28 rfl (lv_at hl 0 rfl) ?_
      refine lv_iconst (v := (-1)) S.1 S.2.1 dX6_groupOf_29 (by decide) ?_
      refine lv_icmp_ne (tgt := 38) S.1 S.2.1 dX6_groupOf_30 (by decide) (fun c30 => ?_) (fun c30 => ?_)
      · skip
        have e30 : ¬ plF x (xRu x r) k = -1 := c30
        refine lv_iload_n S.1 S.2.1 dX6_groupOf_38 rfl (lv_at hl 0 rfl) ?_
        exact hm_iret S hG hr hlk (⟨by simp [goF, *], rfl, rfl⟩) (Nat.le_of_ble_eq_true rfl) (Nat.le_of_ble_eq_true rfl) dX6_groupOf_39
      · skip
        have e30 : plF x (xRu x r) k = -1 := by simpa using c30
        refine lv_bipush (v := 6) S.1 S.2.1 dX6_groupOf_33 (by decide) ?_
        refine lv_goto (tgt := 39) S.1 S.2.1 dX6_groupOf_35 (by decide) ?_
        exact hm_iret S hG hr hlk (⟨by simp [goF, *], rfl, rfl⟩) (Nat.le_of_ble_eq_true rfl) (Nat.le_of_ble_eq_true rfl) dX6_groupOf_39
  · skip
    have e5 : xG x = 1 := hm_eqI (b := 1) (by omega) (by decide) (show nI (xG x) = nI 1 from c5)
    refine lv_aload_n S.1 S.2.1 dX6_groupOf_8 rfl (lv_at hl 1 rfl) ?_
    refine hm_get (k := 0) S hE hG (hRu r hr9).1 rfl rfl hi_X40 (by decide) hb_284 rfl rfl dX6_groupOf_9 ?_
    exact hm_iret S hG hr hlk (⟨by simp [goF, *], rfl, rfl⟩) (Nat.le_of_ble_eq_true rfl) (Nat.le_of_ble_eq_true rfl) dX6_groupOf_12

abbrev rm_X6_greatestRank : Room := { frames := 3, cells := 0, slots := 0, locals := 64 }
set_option maxHeartbeats 4000000 in
set_option maxRecDepth 100000 in
theorem c_X6_greatestRank (l : Launch) (g : GV) (ad : AD) (M : CT) (x : XD) (hx : hasX g ad M x) (j : Nat) (hj9 : j < 7) : hm_Met l yX6_greatestRank cX6_greatestRank 4 (some .int) rm_X6_greatestRank g ad M [.ref (ad (0, 0, 0)), .ref (ad (60, j, 0))] (hm_pU ad M (some (.int (grR x (xGr x j))))) := by
  refine hm_start (own := RX6) (by decide) rfl (Nat.le_of_ble_eq_true rfl) ?_
  intro p e s m args below meth c S hr hlk hnm hE hG ls hl
  have hl : lv_has ls 4 [(0, .ref (ad (0, 0, 0))), (1, .ref (ad (60, j, 0)))] := hl
  obtain ⟨hX, hLs, hLr, hLh, h7, hLg, h70, hSe, hRu, hHu, hGr, hS6, hR6, hH5⟩ := id hx
  obtain ⟨fs1, hb1⟩ := hLs.ob
  obtain ⟨fs2, hb2⟩ := hLr.ob
  obtain ⟨fs3, hb3⟩ := hLh.ob
  refine lv_iconst (v := (-1)) S.1 S.2.1 dX6_greatestRank_0 (by decide) ?_
  refine lv_istore_n (lv' := [(2, .int (-1)), (0, .ref (ad (0, 0, 0))), (1, .ref (ad (60, j, 0)))]) S.1 S.2.1 dX6_greatestRank_1 rfl hl (by decide) rfl (fun ls hl => ?_)
  refine lv_iconst (v := 0) S.1 S.2.1 dX6_greatestRank_2 (by decide) ?_
  refine lv_istore_n (lv' := [(3, .int 0), (2, .int (-1)), (0, .ref (ad (0, 0, 0))), (1, .ref (ad (60, j, 0)))]) S.1 S.2.1 dX6_greatestRank_3 rfl hl (by decide) rfl (fun ls hl => ?_)
  have L4_0 : ∀ (n : Nat) (i : Nat), n + i = xR x → ∀ (H : Heap) (locs : List Loc) (ls : Array Slot), hm_G g ad M s.heap H locs → lv_has ls 4 [(0, .ref (ad (0, 0, 0))), (1, .ref (ad (60, j, 0))), (2, .int (grL2 x (xGr x j) i)), (3, .int (nI i))] → W p l e rm_X6_greatestRank s m args below meth c H locs 0 0 (MQ below (hm_Q g (hm_pU ad M (some (.int (grR x (xGr x j)))))) args s rm_X6_greatestRank.cells rm_X6_greatestRank.slots (hm_A g)) (F0 m 4 ls []) := by
    intro n
    induction n with
    | zero =>
      intro i hi0 H locs ls hG hl
      obtain rfl : i = xR x := by omega
      refine lv_iload_n S.1 S.2.1 dX6_greatestRank_4 rfl (lv_at hl 3 rfl) ?_
      refine lv_aload_n S.1 S.2.1 dX6_greatestRank_5 rfl (lv_at hl 0 rfl) ?_
      refine hm_get (k := 1) S hE hG hX rfl rfl hi_X60 (by decide) hb_17 rfl rfl dX6_greatestRank_6 ?_
      refine hm_uV (As := []) (rest := [.int (nI (xR x))]) (st1 := [.int (nI (xR x)), .int (nI (xR x))]) S hE hG (c_size l hLr) (hm_gV hb_97 hb_98 hb_99 hb_15 hb_100) hd_Jx4a65c_size_8abf5 rfl hb2 rfl rfl ⟨Nat.le_of_ble_eq_true rfl, Nat.le_of_ble_eq_true rfl⟩ rfl hl.1 rfl (Nat.le_of_ble_eq_true rfl) dX6_greatestRank_9 ⟨Nat.le_of_ble_eq_true rfl, Nat.le_of_ble_eq_true rfl⟩ rfl (fun H locs hG => ?_)
      refine lv_icmp_ge (tgt := 48) S.1 S.2.1 dX6_greatestRank_12 (by decide) (fun _ => ?_) (fun h9 => absurd (nI_le (Nat.le_refl _) (by omega)) h9)
      refine lv_iload_n S.1 S.2.1 dX6_greatestRank_48 rfl (lv_at hl 2 rfl) ?_
      exact hm_iret S hG hr hlk (⟨rfl, rfl, rfl⟩) (Nat.le_of_ble_eq_true rfl) (Nat.le_of_ble_eq_true rfl) dX6_greatestRank_49
    | succ n ih4 =>
      intro i hi0 H locs ls hG hl
      have hi9 : i < xR x := by omega
      refine lv_iload_n S.1 S.2.1 dX6_greatestRank_4 rfl (lv_at hl 3 rfl) ?_
      refine lv_aload_n S.1 S.2.1 dX6_greatestRank_5 rfl (lv_at hl 0 rfl) ?_
      refine hm_get (k := 1) S hE hG hX rfl rfl hi_X60 (by decide) hb_17 rfl rfl dX6_greatestRank_6 ?_
      refine hm_uV (As := []) (rest := [.int (nI i)]) (st1 := [.int (nI (xR x)), .int (nI i)]) S hE hG (c_size l hLr) (hm_gV hb_97 hb_98 hb_99 hb_15 hb_100) hd_Jx4a65c_size_8abf5 rfl hb2 rfl rfl ⟨Nat.le_of_ble_eq_true rfl, Nat.le_of_ble_eq_true rfl⟩ rfl hl.1 rfl (Nat.le_of_ble_eq_true rfl) dX6_greatestRank_9 ⟨Nat.le_of_ble_eq_true rfl, Nat.le_of_ble_eq_true rfl⟩ rfl (fun H locs hG => ?_)
      refine lv_icmp_ge (tgt := 48) S.1 S.2.1 dX6_greatestRank_12 (by decide) (fun h9 => absurd h9 (nI_ge hi9 (by omega))) (fun _ => ?_)
      refine lv_aload_n S.1 S.2.1 dX6_greatestRank_15 rfl (lv_at hl 1 rfl) ?_
      refine lv_iload_n S.1 S.2.1 dX6_greatestRank_16 rfl (lv_at hl 3 rfl) ?_
      refine hm_uV (As := [.int (nI i)]) (rest := []) (st1 := [.int (bI (!decide (gLo (xGr x j) i = 0)))]) S hE hG (c_X1_hasLoudOf l g ad M j (xGr x j) (hGr j hj9) i (by omega)) (hm_gV hb_470 hb_471 hb_472 hb_22 hb_473) hd_X1_hasLoudOf rfl (hGr j hj9).1 rfl rfl ⟨Nat.le_of_ble_eq_true rfl, Nat.le_of_ble_eq_true rfl⟩ rfl hl.1 rfl (Nat.le_of_ble_eq_true rfl) dX6_greatestRank_17 ⟨Nat.le_of_ble_eq_true rfl, Nat.le_of_ble_eq_true rfl⟩ rfl (fun H locs hG => ?_)
      refine lv_if_eq (tgt := 42) S.1 S.2.1 dX6_greatestRank_20 (by decide) (fun c20 => ?_) (fun c20 => ?_)
      · skip
        have e9 : grL2 x (xGr x j) (i + 1) = grL2 x (xGr x j) i := by rw [grL2, if_pos (by simpa using bI_0.mp c20)]
        rw [← e9] at hl
        refine lv_iinc (v := nI (i + 1)) (lv' := [(3, .int (nI (i + 1))), (0, .ref (ad (0, 0, 0))), (1, .ref (ad (60, j, 0))), (2, .int (grL2 x (xGr x j) (i + 1)))]) S.1 S.2.1 dX6_greatestRank_42 hl (k := 3) rfl (nI_1 i) (by decide) rfl (fun ls hl => ?_)
        refine lv_goto (tgt := 4) S.1 S.2.1 dX6_greatestRank_45 (by decide) ?_
        exact ih4 (i + 1) (by omega) _ _ _ hG (lv_sub hl [1, 2, 3, 0] rfl)
      · skip
        refine lv_iload_n S.1 S.2.1 dX6_greatestRank_23 rfl (lv_at hl 2 rfl) ?_
        refine lv_aload_n S.1 S.2.1 dX6_greatestRank_24 rfl (lv_at hl 0 rfl) ?_
        refine hm_get (k := 1) S hE hG hX rfl rfl hi_X60 (by decide) hb_17 rfl rfl dX6_greatestRank_25 ?_
        refine lv_iload_n S.1 S.2.1 dX6_greatestRank_28 rfl (lv_at hl 3 rfl) ?_
        refine hm_uV (As := [.int (nI i)]) (rest := [.int (grL2 x (xGr x j) i)]) (st1 := [.ref (ad (20, i, 0)), .int (grL2 x (xGr x j) i)]) S hE hG (c_get l hLr i hi9) (hm_gV hb_208 hb_209 hb_210 hb_15 hb_211) hd_Jx4a65c_get_915e3 rfl hb2 rfl rfl ⟨Nat.le_of_ble_eq_true rfl, Nat.le_of_ble_eq_true rfl⟩ rfl hl.1 rfl (Nat.le_of_ble_eq_true rfl) dX6_greatestRank_29 ⟨Nat.le_of_ble_eq_true rfl, Nat.le_of_ble_eq_true rfl⟩ rfl (fun H locs hG => ?_)
        refine hm_cast S hE hG (hRu i hi9).1 rfl rfl hb_207 dX6_greatestRank_32 ?_
        refine hm_get (k := 8) S hE hG (hRu i hi9).1 rfl rfl hi_X40 (by decide) hb_200 rfl rfl dX6_greatestRank_35 ?_
        refine hm_max (z := grL2 x (xGr x j) (i + 1)) S hb_469 hb_134 hb_5 hb_135 hl.1 (Nat.le_of_ble_eq_true rfl) (Nat.le_of_ble_eq_true rfl) (Nat.le_of_ble_eq_true rfl) (Nat.le_of_ble_eq_true rfl) (by show mxI (grL2 x (xGr x j) i) (rRk (xRu x i)) = _; rw [grL2, if_neg (by simpa using bI_ne.mp c20)]) dX6_greatestRank_38 ?_
        refine lv_istore_n (lv' := [(2, .int (grL2 x (xGr x j) (i + 1))), (0, .ref (ad (0, 0, 0))), (1, .ref (ad (60, j, 0))), (3, .int (nI i))]) S.1 S.2.1 dX6_greatestRank_41 rfl hl (by decide) rfl (fun ls hl => ?_)
        refine lv_iinc (v := nI (i + 1)) (lv' := [(3, .int (nI (i + 1))), (2, .int (grL2 x (xGr x j) (i + 1))), (0, .ref (ad (0, 0, 0))), (1, .ref (ad (60, j, 0)))]) S.1 S.2.1 dX6_greatestRank_42 hl (k := 3) rfl (nI_1 i) (by decide) rfl (fun ls hl => ?_)
        refine lv_goto (tgt := 4) S.1 S.2.1 dX6_greatestRank_45 (by decide) ?_
        exact ih4 (i + 1) (by omega) _ _ _ hG (lv_sub hl [2, 3, 1, 0] rfl)
  exact L4_0 (xR x) 0 rfl _ _ _ hG (lv_sub hl [2, 3, 1, 0] rfl)
