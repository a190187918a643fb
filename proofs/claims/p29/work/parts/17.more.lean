/-! Methods that change the object: the answer, the object after, and what lies outside stays. -/
def hm_pX (g : GV) (ad : AD) (M0 : CT) (x' : XD) (v0 : Option Value) : Option Value → AD → CT → Prop := fun v ad1 M1 => v = v0 ∧ ad1 = ad ∧ hasX g ad M1 x' ∧ ∀ t : TG, 80 ≤ t.1 → M1 t = M0 t
section HMU
variable {p : Program} {l : Launch} {e : Env} {R : Room} {s : State} {m : MethodId} {args : Array Value} {below : List Frame} {meth : Method} {c : Code} {H : Heap} {locs : List Loc} {cells slots : Nat} {Q : State → Prop}
variable {cc : ByteArray} {pc nL : Nat} {ls : Array Slot} {rest : List Value} {g : GV} {ad : AD} {M M0 : CT} {x' : XD} {own : String} {a : Nat} {t : TG} {v0 : Option Value} {st0 st1 As : List Value} {y : MethodName} {cc1 : ByteArray} {n1 n ci N index : Nat} {ret : Option FieldType} {rm : Room} {C host : String} {T : u_T} {fs : List Value}
theorem hm_xV (S : CallFix p m c cc nL s args hm_B own) (hE : hm_E g s s.heap) (hG : hm_G g ad M s.heap H locs) (hM : hm_Met l y cc1 n1 ret rm g ad M (.ref a :: As) (hm_pX g ad M0 x' v0)) (hgd : GoodIn hm_B (wsV own index C y (hm_ws y cc1 n1 ret))) (hd : y.cls ≠ "java/lang/invoke/MethodHandle" ∧ y.cls ≠ "java/lang/invoke/VarHandle" ∧ (parseMethodDescriptor y.desc).map (fun d => d.parameters.length) = some n) (hC : y.cls = C) (ht : M t = some (.inr (ci, fs))) (ha : ad t = a) (hc : vwCl[ci]? = some (C, T, N)) (hR : rm.frames + 1 ≤ R.frames ∧ 8 + (n1 + 11) + rm.locals ≤ R.locals) (hn : As.length = n) (hsize : ls.size = nL) (hst : st0 = As.reverse ++ .ref a :: rest) (hW : (rest.map fun v => v.category).sum ≤ 8) (hdg : decode cc pc = .ok (.invokevirtual index, 3)) (hf : cells + rm.cells ≤ R.cells ∧ slots + rm.slots ≤ R.slots) (hst1 : v0.toList ++ rest = st1) (kk : ∀ M1 H1 locs1, hasX g ad M1 x' → (∀ t : TG, 80 ≤ t.1 → M1 t = M0 t) → hm_G g ad M1 s.heap H1 locs1 → W p l e R s m args below meth c H1 locs1 (cells + rm.cells) (slots + rm.slots) Q (F0 m (pc + 3) ls st1)) : W p l e R s m args below meth c H locs cells slots Q (F0 m pc ls st0) :=
  hm_callV S hE hG hM hgd ⟨hC, hd⟩ ht ha hc hR hn hsize hst hW hdg hf (fun v ad1 M1 H1 locs1 h hG1 => by obtain ⟨rfl, rfl, h3, h4⟩ := h; rw [hst1] ; exact kk M1 H1 locs1 h3 h4 hG1)
end HMU
def wAl (x : XD) (f : Nat → Nat → AlD) : XD := (xS x, xSe x, xR x, xRu x, f, xH x, xHu x, xGr x, xL x, xQ x, xC x, xG x, xP x)
def wSe (x : XD) (f : Nat → SeD) : XD := (xS x, f, xR x, xRu x, xAl x, xH x, xHu x, xGr x, xL x, xQ x, xC x, xG x, xP x)
def wGr (x : XD) (f : Nat → GrD) : XD := (xS x, xSe x, xR x, xRu x, xAl x, xH x, xHu x, f, xL x, xQ x, xC x, xG x, xP x)
def wGL (x : XD) (f : Nat → GrD) (d : LgD) : XD := (xS x, xSe x, xR x, xRu x, xAl x, xH x, xHu x, f, d, xQ x, xC x, xG x, xP x)
/-- one step of the alert of rule r and key k -/
def stp (x : XD) (r k : Nat) : AlD := if hkF x (xRu x r) k then stepF (xAl x r k) (byF (xRu x r) (laF x (xRu x r) k 0) (rLi (xRu x r))) (rWt (xRu x r)) (nI (xC x)) else xAl x r k
def sa (x : XD) (r k : Nat) : Nat → Nat → AlD := fun r1 k1 => if r1 = r ∧ k1 < k then stp x r1 k1 else xAl x r1 k1
def sb (x : XD) (r : Nat) : Nat → Nat → AlD := fun r1 k1 => if r1 < r ∧ k1 < 12 then stp x r1 k1 else xAl x r1 k1
theorem sa_0 (x : XD) (r : Nat) : wAl x (sa x r 0) = x := by
  have : sa x r 0 = xAl x := by funext a b; simp [sa]
  rw [this]; rfl
theorem sb_0 (x : XD) : wAl x (sb x 0) = x := by
  have : sb x 0 = xAl x := by funext a b; simp [sb]
  rw [this]; rfl
theorem sa_old (x : XD) (r k : Nat) : xAl (wAl x (sa x r k)) r k = xAl x r k := by
  show sa x r k r k = _
  simp [sa]
theorem sa_yes (x : XD) (r k : Nat) (h : hkF x (xRu x r) k = true) : setAl (wAl x (sa x r k)) r k (stepF (xAl (wAl x (sa x r k)) r k) (byF (xRu x r) (laF x (xRu x r) k 0) (rLi (xRu x r))) (rWt (xRu x r)) (nI (xC x))) = wAl x (sa x r (k + 1)) := by
  rw [sa_old]
  have : (fun r1 k1 => if r1 = r ∧ k1 = k then stepF (xAl x r k) (byF (xRu x r) (laF x (xRu x r) k 0) (rLi (xRu x r))) (rWt (xRu x r)) (nI (xC x)) else sa x r k r1 k1) = sa x r (k + 1) := by
    funext a b
    by_cases h1 : a = r ∧ b = k
    · obtain ⟨rfl, rfl⟩ := h1
      rw [if_pos ⟨rfl, rfl⟩, sa, if_pos ⟨rfl, by omega⟩, stp, if_pos h]
    · rw [if_neg h1, sa, sa]
      by_cases h2 : a = r ∧ b < k
      · rw [if_pos h2, if_pos ⟨h2.1, by omega⟩]
      · rw [if_neg h2, if_neg (fun h3 => h1 ⟨h3.1, by have := h3.2; have : ¬ b < k := fun q => h2 ⟨h3.1, q⟩; omega⟩)]
  rw [← this]; rfl
theorem sa_no (x : XD) (r k : Nat) (h : hkF x (xRu x r) k = false) : wAl x (sa x r k) = wAl x (sa x r (k + 1)) := by
  have : sa x r k = sa x r (k + 1) := by
    funext a b
    rw [sa, sa]
    by_cases h2 : a = r ∧ b < k
    · rw [if_pos h2, if_pos ⟨h2.1, by omega⟩]
    · rw [if_neg h2]
      by_cases h3 : a = r ∧ b < k + 1
      · rw [if_pos h3]
        obtain ⟨h4, h5⟩ := h3
        have h6 : ¬ b < k := fun q => h2 ⟨h4, q⟩
        obtain rfl : b = k := by omega
        rw [h4, stp, h]; rfl
      · rw [if_neg h3]
  rw [this]
theorem laF_eq {x y : XD} (h1 : xS x = xS y) (h2 : xSe x = xSe y) (u : RuD) (k a : Nat) : laF x u k a = laF y u k a := by
  have key : ∀ n, laL x u k a n = laL y u k a n := by
    intro n
    induction n with
    | zero => rfl
    | succ n ih => rw [laL, laL, ih, h2]
  rw [laF, laF, key, h1]
theorem sb_1 (x : XD) (r : Nat) : wAl (wAl x (sb x r)) (sa (wAl x (sb x r)) r 12) = wAl x (sb x (r + 1)) := by
  have : sa (wAl x (sb x r)) r 12 = sb x (r + 1) := by
    funext a b
    have e0 : xAl (wAl x (sb x r)) = sb x r := rfl
    rw [sa]
    by_cases h1 : a = r ∧ b < 12
    · obtain ⟨rfl, h2⟩ := h1
      have e1 : xAl (wAl x (sb x a)) a b = xAl x a b := by rw [e0, sb, if_neg (by omega)]
      rw [if_pos ⟨rfl, h2⟩, sb, if_pos ⟨by omega, h2⟩, stp, e1, laF_eq (x := wAl x (sb x a)) (y := x) rfl rfl, stp]; rfl
    · rw [if_neg h1, e0, sb, sb]
      by_cases h2 : a < r ∧ b < 12
      · rw [if_pos h2, if_pos ⟨by omega, h2.2⟩]
      · rw [if_neg h2, if_neg (by omega)]
  rw [← this]; rfl
def sk (x : XD) (i : Nat) : Nat → SeD := fun j => if j < i then keepF (xSe x j) else xSe x j
theorem sk_0 (x : XD) : wSe x (sk x 0) = x := by
  have : sk x 0 = xSe x := by funext a; simp [sk]
  rw [this]; rfl
theorem sk_old (x : XD) (i : Nat) : xSe (wSe x (sk x i)) i = xSe x i := by
  show sk x i i = _
  simp [sk]
theorem sk_1 (x : XD) (i : Nat) : setSe (wSe x (sk x i)) i (keepF (xSe (wSe x (sk x i)) i)) = wSe x (sk x (i + 1)) := by
  rw [sk_old]
  have : (fun j => if j = i then keepF (xSe x i) else sk x i j) = sk x (i + 1) := by
    funext a
    rw [sk, sk]
    by_cases h : a = i
    · subst h; rw [if_pos rfl, if_pos (by omega)]
    · rw [if_neg h]
      by_cases h2 : a < i
      · rw [if_pos h2, if_pos (by omega)]
      · rw [if_neg h2, if_neg (by omega)]
  rw [← this]; rfl
def gc (x : XD) (F : GrD → GrD) (j : Nat) : Nat → GrD := fun i => if i < j then F (xGr x i) else xGr x i
theorem gc_0 (x : XD) (F : GrD → GrD) : wGr x (gc x F 0) = x := by
  have : gc x F 0 = xGr x := by funext a; simp [gc]
  rw [this]; rfl
theorem gc_old (x : XD) (F : GrD → GrD) (j : Nat) : xGr (wGr x (gc x F j)) j = xGr x j := by
  show gc x F j j = _
  simp [gc]
theorem gc_1 (x : XD) (F : GrD → GrD) (j : Nat) : setGr (wGr x (gc x F j)) j (F (xGr (wGr x (gc x F j)) j)) = wGr x (gc x F (j + 1)) := by
  rw [gc_old]
  have : (fun i => if i = j then F (xGr x j) else gc x F j i) = gc x F (j + 1) := by
    funext a
    rw [gc, gc]
    by_cases h : a = j
    · subst h; rw [if_pos rfl, if_pos (by omega)]
    · rw [if_neg h]
      by_cases h2 : a < j
      · rw [if_pos h2, if_pos (by omega)]
      · rw [if_neg h2, if_neg (by omega)]
  rw [← this]; rfl
/-- which alert goes into which group -/
def lo1 (x : XD) (r k : Nat) : Bool := !(decide (goF x r k < 0) || decide (6 < goF x r k)) && decide (hrF x r k (-1) = 0)
def ga1 (x : XD) (r : Nat) (f : Nat → GrD) : Nat → Nat → GrD
  | 0 => f
  | k + 1 => if lo1 x r k then (fun j => if j = (goF x r k).toNatClampNeg then alF (ga1 x r f k j) r k else ga1 x r f k j) else ga1 x r f k
def ga2 (x : XD) (f : Nat → GrD) : Nat → Nat → GrD
  | 0 => f
  | r + 1 => ga1 x r (ga2 x f r) 12
def gaX (x : XD) : XD := wGr x (ga2 x (gc x clF 7) (xR x))
def waF (d : GrD) (b : Bool) : GrD := (gLo d, gTo d, gAt d, b)
/-- the notices of a tick: groups, log, how many -/
def sn (x : XD) : Nat → (Nat → GrD) × LgD × Nat
  | 0 => (xGr x, xL x, 0)
  | j + 1 => if dueF ((sn x j).1 j) (nI (xC x)) (nI (xP x)) then
      (fun i => if i = j then waF (mkF ((sn x j).1 j) (nI (xC x))) (ilF ((sn x j).1 j)) else (sn x j).1 i, klF (sn x j).2.1 (nI (xC x)) (nI j) (cgF (gLo ((sn x j).1 j))) (grR x ((sn x j).1 j)), (sn x j).2.2 + 1)
    else (fun i => if i = j then waF ((sn x j).1 j) (ilF ((sn x j).1 j)) else (sn x j).1 i, (sn x j).2.1, (sn x j).2.2)
def snX (x : XD) : XD := wGL (gaX x) (sn (gaX x) 7).1 (sn (gaX x) 7).2.1
def snN (x : XD) : Nat := (sn (gaX x) 7).2.2
/-- a tick, but for the notices -/
def tk0 (x : XD) : XD := wSe (setC x (xC x + 1)) (sk (setC x (xC x + 1)) (xS x))
def tk1 (x : XD) : XD := wAl (tk0 x) (sb (tk0 x) (xR x))
def tkX (x : XD) : Nat → XD
  | 0 => x
  | t + 1 => snX (tk1 (tkX x t))
def tkS (x : XD) : Nat → Nat
  | 0 => 0
  | t + 1 => tkS x t + snN (tk1 (tkX x t))
def rb (x : XD) (r k : Nat) : Nat → AlD
  | 0 => xAl x r k
  | n + 1 => stepF (rb x r k n) (byF (xRu x r) (laF x (xRu x r) k (n + 1)) (rLi (xRu x r))) (rWt (xRu x r)) (nI (xC x) + nI (n + 1))
def wbF (x : XD) (n r k : Nat) : Bool := hkF x (xRu x r) k && decide ((rb x r k n).1 = 2)
def biN (x : XD) (n : Nat) : Nat → Nat := sumN (fun r => cntB (wbF x n r) 12)
def biX (x : XD) (n : Nat) : Nat := biN x n (xR x)
def wPr (s : SeD) (p : Nat → Int32) : SeD := (sKi s, sMe s, sPl s, p, sRo s, sLa s, sHe s)
def wLi (u : RuD) (a b c : Int32) : RuD := (rMe u, rLo u, rW u, rWa u, rAb u, a, b, c)
def gpX (x : XD) (gr rp : Nat) : XD := if gr = xG x then setP x rp else wGr (setG (setP x rp) gr) (gc (setG (setP x rp) gr) fgF 7)
theorem cl_up {M : CT} {t u : TG} {e : va_E} (ht : t.1 < 80) (h : 80 ≤ u.1) : hm_up M t e u = M u := hm_up_n (fun q => by rw [q] at h; omega)
theorem clamp_nI {v : Int32} (h1 : ¬ v < 0) : v = nI v.toNatClampNeg := by
  have h2 : 0 ≤ v.toInt := by
    have h3 : ¬ v.toInt < (0 : Int32).toInt := fun q => h1 (Int32.lt_iff_toInt_lt.mpr q)
    have h4 : (0 : Int32).toInt = 0 := by decide
    omega
  apply Int32.toInt_inj.mp
  have h5 : v.toInt < 2 ^ 31 := Int32.toInt_lt v
  have h6 : (v.toNatClampNeg : Int) = v.toInt := by
    show (v.toInt.toNat : Int) = v.toInt
    exact Int.toNat_of_nonneg h2
  rw [nI_toInt (by omega)]
  exact h6.symm
theorem clamp_lt {v : Int32} {n : Nat} (h1 : ¬ v < 0) (h2 : ¬ nI n < v) (hn : n < 2 ^ 31) : v.toNatClampNeg ≤ n := by
  have h5 : v.toInt < 2 ^ 31 := Int32.toInt_lt v
  rw [clamp_nI h1] at h2
  have h6 : v.toNatClampNeg < 2 ^ 31 := by
    show v.toInt.toNat < 2 ^ 31
    omega
  exact hm_nltI hn h6 h2
section HMH
variable {g : GV} {ad : AD} {M : CT} {x : XD} {j : Nat} {d : GrD}
theorem fg_has (h : hasGr g ad M j d) : hasGr g ad (hm_up (hm_up M (62, j, 0) (hm_ia g 6 (gTo (fgF d)))) (60, j, 0) (grE ad j (fgF d))) j (fgF d) := by
  obtain ⟨h1, h2, h3⟩ := h
  exact ⟨hm_up_s, (hm_up_n (by simp)).trans ((hm_up_n (by simp)).trans h2), (hm_up_n (by simp)).trans hm_up_s⟩
theorem cl_has (h : hasGr g ad M j d) : hasGr g ad (hm_up M (61, j, 0) (hm_ia g 6 (gLo (clF d)))) j (clF d) := by
  obtain ⟨h1, h2, h3⟩ := h
  exact ⟨(hm_up_n (by simp)).trans h1, hm_up_s, (hm_up_n (by simp)).trans h3⟩
theorem al_has (r k : Nat) (h : hasGr g ad M j d) : hasGr g ad (hm_up M (61, j, 0) (hm_ia g 6 (gLo (alF d r k)))) j (alF d r k) := by
  obtain ⟨h1, h2, h3⟩ := h
  exact ⟨(hm_up_n (by simp)).trans h1, hm_up_s, (hm_up_n (by simp)).trans h3⟩
theorem mk_has (clk : Int32) (h : hasGr g ad M j d) : hasGr g ad (hm_up (hm_up M (60, j, 0) (grE ad j (mkF d clk))) (62, j, 0) (hm_ia g 6 (gTo (mkF d clk)))) j (mkF d clk) := by
  obtain ⟨h1, h2, h3⟩ := h
  exact ⟨(hm_up_n (by simp)).trans hm_up_s, (hm_up_n (by simp)).trans ((hm_up_n (by simp)).trans h2), hm_up_s⟩
theorem wa_has (b : Bool) (h : hasGr g ad M j d) : hasGr g ad (hm_up M (60, j, 0) (grE ad j (waF d b))) j (waF d b) := by
  obtain ⟨h1, h2, h3⟩ := h
  exact ⟨hm_up_s, (hm_up_n (by simp)).trans h2, (hm_up_n (by simp)).trans h3⟩
end HMH
