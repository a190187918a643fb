section HMA
variable {p : Program} {l : Launch} {e : Env} {R : Room} {s : State} {m : MethodId} {args : Array Value} {below : List Frame} {meth : Method} {c : Code} {H : Heap} {locs : List Loc} {cells slots : Nat} {Q : State → Prop}
variable {cc : ByteArray} {pc nL : Nat} {ls : Array Slot} {rest : List Value} {g : GV} {ad : AD} {M : CT} {own : String} {a : Nat} {t : TG}
theorem hm_iast2 (S : CallFix p m c cc nL s args hm_B own) (hE : hm_E g s s.heap) (hG : hm_G g ad M s.heap H locs) {n j : Nat} {f : Nat → Int32} {i x : Int32} (ht : M t = some (hm_ia g n f)) (ha : ad t = a) (hin : vp_in i n) (hj : i.toNatClampNeg = j) (hdg : decode cc pc = .ok (.iastore, 1))
    (kk : ∀ (H1 : Heap) (locs1 : List Loc), hm_G g ad (hm_up M t (hm_ia g n (upd f j x))) s.heap H1 locs1 → W p l e R s m args below meth c H1 locs1 cells slots Q (F0 m (pc + 1) ls rest)) : W p l e R s m args below meth c H locs cells slots Q (F0 m pc ls (.int x :: .int i :: .ref a :: rest)) := by
  subst hj
  exact hm_iast S hE hG ht ha hin hdg kk
theorem hm_astq2 (S : CallFix p m c cc nL s args hm_B own) (hE : hm_E g s s.heap) (hG : hm_G g ad M s.heap H locs) {k n v ci j : Nat} {C : String} {T : u_T} {N : Nat} {tv : TG} {vs : List Value} {f : Nat → Option Nat} {i : Int32} (ht : M t = some (hm_ra g k n f)) (ha : ad t = a) (hty : (hm_ty g)[k]? = some (hm_c g k, .object C)) (hv : M tv = some (.inr (ci, vs))) (hav : ad tv = v) (hc : vwCl[ci]? = some (C, T, N)) (hin : vp_in i n) (hj : i.toNatClampNeg = j) (hdg : decode cc pc = .ok (.aastore, 1))
    (kk : ∀ (H1 : Heap) (locs1 : List Loc), hm_G g ad (hm_up M t (hm_ra g k n (va_up f j (some v)))) s.heap H1 locs1 → W p l e R s m args below meth c H1 locs1 cells slots Q (F0 m (pc + 1) ls rest)) : W p l e R s m args below meth c H locs cells slots Q (F0 m pc ls (.ref v :: .int i :: .ref a :: rest)) := by
  subst hj
  exact hm_astq S hE hG ht ha hty hv hav hc hin hdg kk
theorem hm_astO2 (S : CallFix p m c cc nL s args hm_B own) (hE : hm_E g s s.heap) (hG : hm_G g ad M s.heap H locs) {n v ci j : Nat} {C : String} {T : u_T} {N : Nat} {tv : TG} {vs : List Value} {f : Nat → Option Nat} {i : Int32} (ht : M t = some (hm_ra g 3 n f)) (ha : ad t = a) (hca : Cond.castable C "java/lang/Object" ∈ hm_nst) (hv : M tv = some (.inr (ci, vs))) (hav : ad tv = v) (hc : vwCl[ci]? = some (C, T, N)) (hin : vp_in i n) (hj : i.toNatClampNeg = j) (hdg : decode cc pc = .ok (.aastore, 1))
    (kk : ∀ (H1 : Heap) (locs1 : List Loc), hm_G g ad (hm_up M t (hm_ra g 3 n (va_up f j (some v)))) s.heap H1 locs1 → W p l e R s m args below meth c H1 locs1 cells slots Q (F0 m (pc + 1) ls rest)) : W p l e R s m args below meth c H locs cells slots Q (F0 m pc ls (.ref v :: .int i :: .ref a :: rest)) := by
  subst hj
  exact hm_astO S hE hG ht ha hca hv hav hc hin hdg kk
end HMA
theorem hm_v0 {n : Nat} (h : 0 < n) (hn : n < 2 ^ 31) : vp_in 0 n := vp_in_nI (n := 0) h hn
theorem hm_sub13 {x y : Nat} (h : y ≤ x + 13) : nI x - nI y + 13 = nI (x + 13 - y) := by
  have h1 : nI x + 13 = nI (x + 13) := nI_add x 13
  rw [← pk_sub h, ← h1]
  simp only [Int32.sub_eq_add_neg]
  rw [Int32.add_assoc, Int32.add_comm (-nI y) 13, ← Int32.add_assoc]
theorem hm_rem13 {x : Nat} (h : x < 2 ^ 31) : nI x - nI x / 13 * 13 = nI (x % 13) := pk_rem (d := 13) h (by decide) (by decide)
theorem hm_rem30 {x : Nat} (h : x < 2 ^ 31) : nI x - nI x / 30 * 30 = nI (x % 30) := pk_rem (d := 30) h (by decide) (by decide)
theorem hm_leI {a b : Nat} (ha : a < 2 ^ 31) (hb : b < 2 ^ 31) (h : nI a ≤ nI b) : a ≤ b := (nI_leI ha hb).mp h
theorem hm_nleI {a b : Nat} (ha : a < 2 ^ 31) (hb : b < 2 ^ 31) (h : ¬ nI a ≤ nI b) : b < a := Nat.not_le.mp (fun q => h ((nI_leI ha hb).mpr q))
theorem hm_ltI {a b : Nat} (ha : a < 2 ^ 31) (hb : b < 2 ^ 31) (h : nI a < nI b) : a < b := (nI_ltI ha hb).mp h
theorem hm_nltI {a b : Nat} (ha : a < 2 ^ 31) (hb : b < 2 ^ 31) (h : ¬ nI a < nI b) : b ≤ a := Nat.not_lt.mp (fun q => h ((nI_ltI ha hb).mpr q))
theorem hm_eqI {a b : Nat} (ha : a < 2 ^ 31) (hb : b < 2 ^ 31) (h : nI a = nI b) : a = b := (nI_eq ha hb).mp h
theorem hm_minN (a b : Nat) (ha : a < 2 ^ 31) (hb : b < 2 ^ 31) : (if nI b < nI a then nI b else nI a) = nI (min a b) := by
  by_cases h : b < a
  · rw [if_pos (nI_lt h ha), Nat.min_eq_right (Nat.le_of_lt h)]
  · rw [if_neg (nI_nlt (by omega) hb), Nat.min_eq_left (by omega)]
