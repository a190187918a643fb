/-! The law's helpers, and its context. -/
theorem and_nn (v : Int32) : ¬ (v &&& 2147483647) < 0 := by
  rw [Int32.lt_iff_toInt_lt]
  have h1 : (v &&& 2147483647).toBitVec.toNat ≤ 2147483647 := by
    rw [Int32.toBitVec_and, BitVec.toNat_and]
    exact Nat.and_le_right
  have h2 : (v &&& 2147483647).toInt = ((v &&& 2147483647).toBitVec.toNat : Int) := BitVec.toInt_eq_toNat_of_lt (by omega)
  rw [h2]
  have h3 : (0 : Int32).toInt = 0 := by decide
  omega
def aw (v : Int32) : Nat := (v &&& 2147483647).toNatClampNeg
theorem aw_lt (v : Int32) : aw v < 2 ^ 31 := by
  have h5 : (v &&& 2147483647).toInt < 2 ^ 31 := Int32.toInt_lt _
  show (v &&& 2147483647).toInt.toNat < 2 ^ 31
  omega
def bwF (v : Int32) (n : Nat) : Nat := aw v % n
theorem bwF_lt (v : Int32) {n : Nat} (h : 0 < n) : bwF v n < n := Nat.mod_lt _ h
theorem bw_eq (v : Int32) {n : Nat} (h0 : 0 < n) (h1 : n < 2 ^ 31) : nI (aw v) - nI (aw v) / nI n * nI n = nI (bwF v n) := pk_rem (aw_lt v) h0 h1
def ceF (L : Nat) (xs : Nat → Int32) (k : Nat) : Int32 := if k < L then xs k else 790386105 * (nI k + 3)
section HMX2
variable {l : Launch} {g : GV} {ad : AD} {M : CT} {own : String}
theorem hm_startX {y : MethodName} {cc1 : ByteArray} {n1 : Nat} {ret : Option FieldType} {rm : Room} {av : List Value} {post : Option Value → AD → CT → Prop} {B : State → Prop} (hy : plainName y.cls = true) (ho : y.cls = own) (hlen : (lg_sl av).length ≤ n1)
    (body : ∀ p e s m args below meth c, CallFix p m c cc1 n1 s args hm_B own → meth.sig.returnType = ret → meth.locks = false → meth.name = y.name → hm_E g s s.heap → hm_G g ad M s.heap s.heap [] → B s → ∀ ls, lv_has ls n1 (lv_args 0 av) → W p l e rm s m args below meth c s.heap [] 0 0 (MQ below (hm_Q g post) args s rm.cells rm.slots (hm_A g)) (F0 m 0 ls [])) : Met l y (hm_ws y cc1 n1 ret) rm (va_Pc av (fun U => (hm_E g U U.heap ∧ hm_P g ad M U.heap) ∧ B U)) (hm_Q g post) rm.cells rm.slots (hm_A g) := by
  refine Met.ofW (cc := cc1) (maxL := n1) (ret := ret) hy rfl ?_
  intro p e s m args below meth c s₁ B0 hml hv
  obtain ⟨rfl, ⟨hE, hP⟩, hB⟩ := hv
  have hts := atoms_spec (ws := hm_ws y cc1 n1 ret) B0.pre
  have hown : s.vm.findClass own = some m.cls := ho ▸ findClass_of_methodNamed B0.named
  have hl := lv_entry av (n := n1) hlen
  rw [lg_entry_eq]
  generalize (lg_sl av ++ List.replicate (n1 - (lg_sl av).length) Slot.unset).toArray = ls at hl ⊢
  exact body p e s m _ below meth c ⟨B0.exec, B0.bytes, hml, hown, fun w hw => hts w (List.mem_cons_of_mem _ hw)⟩ B0.returns B0.notSynchronized (name_of_methodNamed B0.named B0.method).1 hE ⟨hP, va_S.rf⟩ hB ls hl
end HMX2
abbrev hm_sc (g : GV) (b L : Nat) (xs : Nat → Int32) (U : State) : Prop := va_X b L xs U U.heap ∧ b < U.heap.size ∧ ¬ hm_A g b
section HMY
variable {p : Program} {l : Launch} {e : Env} {R : Room} {s : State} {m : MethodId} {args : Array Value} {below : List Frame} {meth : Method} {c : Code} {H : Heap} {locs : List Loc} {cells slots : Nat} {Q : State → Prop}
variable {cc : ByteArray} {pc nL : Nat} {ls : Array Slot} {rest : List Value} {g : GV} {ad : AD} {M M' : CT} {own : String} {b L : Nat} {xs : Nat → Int32} {v0 : Option Value} {st0 st1 As : List Value} {y : MethodName} {cc1 : ByteArray} {n1 n index : Nat} {ret : Option FieldType} {rm : Room}
theorem hm_uSX (S : CallFix p m c cc nL s args hm_B own) (hE : hm_E g s s.heap) (hG : hm_G g ad M s.heap H locs) (hX : hm_sc g b L xs s) (hM : Met l y (hm_ws y cc1 n1 ret) rm (va_Pc As (fun U => (hm_E g U U.heap ∧ hm_P g ad M U.heap) ∧ hm_sc g b L xs U)) (hm_Q g (hm_pU ad M' v0)) rm.cells rm.slots (hm_A g)) (hgd : GoodIn hm_B (va_wsS own index y (hm_ws y cc1 n1 ret))) (hd : y.cls ≠ "java/lang/invoke/MethodHandle" ∧ y.cls ≠ "java/lang/invoke/VarHandle" ∧ (parseMethodDescriptor y.desc).map (fun d => d.parameters.length) = some n) (hR : rm.frames + 1 ≤ R.frames ∧ 8 + (n1 + 11) + rm.locals ≤ R.locals) (hn : As.length = n) (hsize : ls.size = nL) (hst : st0 = As.reverse ++ rest) (hW : (rest.map fun v => v.category).sum ≤ 8) (hdg : decode cc pc = .ok (.invokestatic index, 3)) (hf : cells + rm.cells ≤ R.cells ∧ slots + rm.slots ≤ R.slots) (hst1 : v0.toList ++ rest = st1) (kk : ∀ H1 locs1, hm_G g ad M' s.heap H1 locs1 → W p l e R s m args below meth c H1 locs1 (cells + rm.cells) (slots + rm.slots) Q (F0 m (pc + 3) ls st1)) : W p l e R s m args below meth c H locs cells slots Q (F0 m pc ls st0) :=
  hm_call hG (va_runS S hM (va_cwS n S.2.2.2.2 hgd rfl rfl rfl hd hR) ⟨fun a U j mk q => ⟨q.1, ⟨q.2.1.1.blind j mk a, q.2.1.2⟩, va_X.moved (u := U) (U := U.calling j mk a) (Vm.Alike.refl U.vm) q.2.2.1, q.2.2.2⟩, fun U hU hW => ⟨rfl, ⟨hE.call hG.2 hU hW, by rw [hU]; exact hG.1⟩, by rw [hU]; exact va_X.moved hW.alike (hX.1.kept (hG.2.2.1 b hX.2.1 hX.2.2)), by rw [hU]; exact Nat.lt_of_lt_of_le hX.2.1 hG.2.1, hX.2.2⟩⟩ rfl hn hsize hst (lv_room hW) hdg hf) (fun v ad1 M1 H1 locs1 h hG1 => by obtain ⟨rfl, rfl, rfl⟩ := h; rw [hst1]; exact kk H1 locs1 hG1)
end HMY
