section HMQ
variable {p : Program} {l : Launch} {e : Env} {R : Room} {s : State} {m : MethodId} {args : Array Value} {below : List Frame} {meth : Method} {c : Code} {H : Heap} {locs : List Loc} {cells slots : Nat} {Q : State → Prop}
variable {cc : ByteArray} {pc nL : Nat} {ls : Array Slot} {rest : List Value} {g : GV} {ad : AD} {M : CT} {own : String} {a : Nat} {t : TG}
theorem hm_copyq (S : CallFix p m c cc nL s args hm_B own) (hE : hm_E g s s.heap) (hG : hm_G g ad M s.heap H locs) {index : Nat} (hlink : Cond.methodLink own index arraycopyName ∈ hm_B) (hnat : Cond.native arraycopyName ∈ hm_B) (hstat : Cond.static arraycopyName ∈ hm_B) (hini : Cond.initialized "java/lang/System" ∈ hm_B) (hsize : ls.size = nL) {n1 : Nat} {f : Nat → Option Nat} (h1 : M t = some (hm_ra g 3 n1 f)) (ha1 : ad t = a) {sp dp n : Int32} (q1 : ¬ sp < 0) (q2 : ¬ dp < 0) (q3 : ¬ n < 0) (q4 : sp.toNatClampNeg + n.toNatClampNeg ≤ n1) (q5 : dp.toNatClampNeg + n.toNatClampNeg ≤ n1) {ci N : Nat} {C : String} {T : u_T} (hc : vwCl[ci]? = some (C, T, N)) (hca : Cond.castable C "java/lang/Object" ∈ hm_nst)
    (hel : ∀ i : Nat, i < n.toNatClampNeg → ∀ y : Nat, f (sp.toNatClampNeg + i) = some y → ∃ (t2 : TG) (fs : List Value), M t2 = some (.inr (ci, fs)) ∧ ad t2 = y)
    (hframes : 1 ≤ R.frames) (hlocals : (rest.map fun v => v.category).sum + (nativeFrameWords "java/lang/System" "arraycopy" 5 + 11) ≤ R.locals) (hdg : decode cc pc = .ok (.invokestatic index, 3))
    (kk : ∀ (H1 : Heap) (locs1 : List Loc), hm_G g ad (hm_up M t (hm_ra g 3 n1 (va_cpy f f sp.toNatClampNeg dp.toNatClampNeg n.toNatClampNeg))) s.heap H1 locs1 → W p l e R s m args below meth c H1 locs1 cells slots Q (F0 m (pc + 3) ls rest)) : W p l e R s m args below meth c H locs cells slots Q (F0 m pc ls (.int n :: .int dp :: .ref a :: .int sp :: .ref a :: rest)) := by
  subst ha1
  obtain ⟨⟨L, fl, hP, hD, hm, hi⟩, hS⟩ := hG
  obtain ⟨g1, g2⟩ := hm t _ h1
  obtain ⟨k1, hk1⟩ := hm_pl_get (f := fl) g1
  refine va_copyq (C := C) (E1 := "java/lang/Object") (E0 := "java/lang/Object") S.1 S.2.1 (by rw [S.2.2.1, hsize]) S.2.2.2.1 (S.2.2.2.2 _ hlink) (S.2.2.2.2 _ hnat) (S.2.2.2.2 _ hstat) (S.2.2.2.2 _ hini) hE.1 hP hD hS k1 k1 3 3 (by rw [hk1, g2]) (by rw [hk1, g2]) rfl rfl q1 q2 q3 q4 q5 ?_ ?_ hframes hlocals hdg (fun H1 locs1 hP1 hD1 hS1 => kk H1 locs1 ⟨hm_P.put hD hm hi h1 hk1 hP1 hD1, hS1⟩)
  · intro i hi2 y hy
    obtain ⟨t2, fs, h2, h3⟩ := hel i hi2 y hy
    obtain ⟨g3, g4⟩ := hm t2 _ h2
    obtain ⟨k2, hk2⟩ := hm_pl_get (f := fl) g3
    rw [g4, h3] at hk2
    exact va_recv hE.1 hP hc hk2
  · intro comp c0 h2 h3
    obtain ⟨c1, t1, f1, f2, f3⟩ := Cond.castable_spec (va_Nw.use (A := args) rfl (hE.2.2.2.1 _ hca))
    cases h3.symm.trans f1
    cases h2.symm.trans f2
    exact f3
end HMQ
