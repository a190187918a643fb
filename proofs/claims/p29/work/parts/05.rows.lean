/-! The layer's rows: one an instruction that touches the heap, one a call, one an end. -/
section HMR
variable {p : Program} {l : Launch} {e : Env} {R : Room} {s : State} {m : MethodId} {args : Array Value} {below : List Frame} {meth : Method} {c : Code} {H : Heap} {locs : List Loc} {cells slots : Nat} {Q : State → Prop}
variable {cc : ByteArray} {pc nL : Nat} {ls : Array Slot} {rest : List Value} {g : GV} {ad : AD} {M : CT} {own : String} {a : Nat} {t : TG}
theorem hm_fd (fs : List Value) (N : Nat) : True := trivial
theorem hm_get (S : CallFix p m c cc nL s args hm_B own) (hE : hm_E g s s.heap) (hG : hm_G g ad M s.heap H locs) {ref C : String} {T : u_T} {N ci index k : Nat} {fs : List Value} {v : Value} (ht : M t = some (.inr (ci, fs))) (ha : ad t = a) (hc : vwCl[ci]? = some (C, T, N)) (hin : ∀ w ∈ u_ws C T N, w ∈ hm_B) (hk : k < N) (hlink : Cond.fieldLink own index ref (T k).2.1 (T k).2.2.1 ∈ hm_B) (href : (T k).1 = ref) (hv : fs[k]? = some v) (hdg : decode cc pc = .ok (.getfield index, 3))
    (kk : W p l e R s m args below meth c H locs cells slots Q (F0 m (pc + 3) ls (v :: rest))) : W p l e R s m args below meth c H locs cells slots Q (F0 m pc ls (.ref a :: rest)) := by
  subst ha; subst href
  exact va_get S.1 S.2.1 S.2.2.2.2 hin S.2.2.2.1 hE.1 (hG.1.one ht) 0 rfl hc k hk (S.2.2.2.2 _ hlink) (fun _ h => h) hv hdg kk
theorem hm_getI (S : CallFix p m c cc nL s args hm_B own) (hE : hm_E g s s.heap) (hG : hm_G g ad M s.heap H locs) {ref C : String} {T : u_T} {N ci index k : Nat} {fs : List Value} {v : Value} (ht : M t = some (.inr (ci, fs))) (ha : ad t = a) (hc : vwCl[ci]? = some (C, T, N)) (hin : ∀ w ∈ u_ws C T N, w ∈ hm_B) (hk : k < N) (hlink : Cond.fieldLink own index ref (T k).2.1 (T k).2.2.1 ∈ hm_B) (hsame : Cond.sameField ref (T k).1 (T k).2.1 (T k).2.2.1 ∈ hm_B) (hv : fs[k]? = some v) (hdg : decode cc pc = .ok (.getfield index, 3))
    (kk : W p l e R s m args below meth c H locs cells slots Q (F0 m (pc + 3) ls (v :: rest))) : W p l e R s m args below meth c H locs cells slots Q (F0 m pc ls (.ref a :: rest)) := by
  subst ha
  exact va_get S.1 S.2.1 S.2.2.2.2 hin S.2.2.2.1 hE.1 (hG.1.one ht) 0 rfl hc k hk (S.2.2.2.2 _ hlink) (u_same (S.2.2.2.2 _ hsame)) hv hdg kk
theorem hm_put (S : CallFix p m c cc nL s args hm_B own) (hE : hm_E g s s.heap) (hG : hm_G g ad M s.heap H locs) {ref C : String} {T : u_T} {N ci index k : Nat} {fs fs' : List Value} {v : Value} {ty0 : Nat → FieldType} (ht : M t = some (.inr (ci, fs))) (ha : ad t = a) (hc : vwCl[ci]? = some (C, T, N)) (hin : ∀ w ∈ u_ws C T N, w ∈ hm_B) (hty : ∀ k, k < N → parseFieldDescriptor (T k).2.2.1 = some (ty0 k)) (hnm : ∀ a, a < N → ∀ b, b < N → a ≠ b → (T a).2.1 ≠ (T b).2.1) (hk : k < N) (hlink : Cond.fieldLink own index ref (T k).2.1 (T k).2.2.1 ∈ hm_B) (href : (T k).1 = ref) (hfin : (T k).2.2.2 = false) (hn : narrow (ty0 k) v = v) (hfit : fits (ty0 k) v = true) (hl : k < fs.length) (hfs : fs.set k v = fs') (hdg : decode cc pc = .ok (.putfield index, 3))
    (kk : ∀ (H1 : Heap) (locs1 : List Loc), hm_G g ad (hm_up M t (.inr (ci, fs'))) s.heap H1 locs1 → W p l e R s m args below meth c H1 locs1 cells slots Q (F0 m (pc + 3) ls rest)) : W p l e R s m args below meth c H locs cells slots Q (F0 m pc ls (v :: .ref a :: rest)) := by
  subst ha; subst href; subst hfs
  obtain ⟨⟨L, f, hP, hD, hm, hi⟩, hS⟩ := hG
  obtain ⟨h1, h2⟩ := hm t _ ht
  obtain ⟨k0, hk0⟩ := hm_pl_get (f := f) h1
  exact va_put S.1 S.2.1 S.2.2.2.2 hin ty0 hty hnm S.2.2.2.1 hE.1 hP hD hS k0 (by rw [hk0, h2]) hc k hk (S.2.2.2.2 _ hlink) (fun _ h => h) hfin (hty k hk) hn hfit hl hdg (fun H1 locs1 hP1 hD1 hS1 => kk H1 locs1 ⟨hm_P.put hD hm hi ht hk0 hP1 hD1, hS1⟩)
theorem hm_putI (S : CallFix p m c cc nL s args hm_B own) (hE : hm_E g s s.heap) (hG : hm_G g ad M s.heap H locs) {ref C : String} {T : u_T} {N ci index k : Nat} {fs fs' : List Value} {v : Value} {ty0 : Nat → FieldType} (ht : M t = some (.inr (ci, fs))) (ha : ad t = a) (hc : vwCl[ci]? = some (C, T, N)) (hin : ∀ w ∈ u_ws C T N, w ∈ hm_B) (hty : ∀ k, k < N → parseFieldDescriptor (T k).2.2.1 = some (ty0 k)) (hnm : ∀ a, a < N → ∀ b, b < N → a ≠ b → (T a).2.1 ≠ (T b).2.1) (hk : k < N) (hlink : Cond.fieldLink own index ref (T k).2.1 (T k).2.2.1 ∈ hm_B) (hsame : Cond.sameField ref (T k).1 (T k).2.1 (T k).2.2.1 ∈ hm_B) (hfin : (T k).2.2.2 = false) (hn : narrow (ty0 k) v = v) (hfit : fits (ty0 k) v = true) (hl : k < fs.length) (hfs : fs.set k v = fs') (hdg : decode cc pc = .ok (.putfield index, 3))
    (kk : ∀ (H1 : Heap) (locs1 : List Loc), hm_G g ad (hm_up M t (.inr (ci, fs'))) s.heap H1 locs1 → W p l e R s m args below meth c H1 locs1 cells slots Q (F0 m (pc + 3) ls rest)) : W p l e R s m args below meth c H locs cells slots Q (F0 m pc ls (v :: .ref a :: rest)) := by
  subst ha; subst hfs
  obtain ⟨⟨L, f, hP, hD, hm, hi⟩, hS⟩ := hG
  obtain ⟨h1, h2⟩ := hm t _ ht
  obtain ⟨k0, hk0⟩ := hm_pl_get (f := f) h1
  exact va_put S.1 S.2.1 S.2.2.2.2 hin ty0 hty hnm S.2.2.2.1 hE.1 hP hD hS k0 (by rw [hk0, h2]) hc k hk (S.2.2.2.2 _ hlink) (u_same (S.2.2.2.2 _ hsame)) hfin (hty k hk) hn hfit hl hdg (fun H1 locs1 hP1 hD1 hS1 => kk H1 locs1 ⟨hm_P.put hD hm hi ht hk0 hP1 hD1, hS1⟩)
theorem hm_putF (S : CallFix p m c cc nL s args hm_B own) (hE : hm_E g s s.heap) (hG : hm_G g ad M s.heap H locs) (hinit : meth.name = "<init>") {ref C : String} {T : u_T} {N ci index k : Nat} {fs fs' : List Value} {v : Value} {ty0 : Nat → FieldType} (ht : M t = some (.inr (ci, fs))) (ha : ad t = a) (hc : vwCl[ci]? = some (C, T, N)) (hin : ∀ w ∈ u_ws C T N, w ∈ hm_B) (hty : ∀ k, k < N → parseFieldDescriptor (T k).2.2.1 = some (ty0 k)) (hnm : ∀ a, a < N → ∀ b, b < N → a ≠ b → (T a).2.1 ≠ (T b).2.1) (hk : k < N) (hlink : Cond.fieldLink own index ref (T k).2.1 (T k).2.2.1 ∈ hm_B) (href : (T k).1 = ref) (hown2 : (T k).1 = own) (hfin : (T k).2.2.2 = true) (hn : narrow (ty0 k) v = v) (hfit : fits (ty0 k) v = true) (hl : k < fs.length) (hfs : fs.set k v = fs') (hdg : decode cc pc = .ok (.putfield index, 3))
    (kk : ∀ (H1 : Heap) (locs1 : List Loc), hm_G g ad (hm_up M t (.inr (ci, fs'))) s.heap H1 locs1 → W p l e R s m args below meth c H1 locs1 cells slots Q (F0 m (pc + 3) ls rest)) : W p l e R s m args below meth c H locs cells slots Q (F0 m pc ls (v :: .ref a :: rest)) := by
  subst ha; subst href; subst hfs
  obtain ⟨⟨L, f, hP, hD, hm, hi⟩, hS⟩ := hG
  obtain ⟨h1, h2⟩ := hm t _ ht
  obtain ⟨k0, hk0⟩ := hm_pl_get (f := f) h1
  exact va_putF S.1 S.2.1 S.2.2.2.2 hin ty0 hty hnm S.2.2.2.1 hE.1 hP hD hS k0 (by rw [hk0, h2]) hc k hk (S.2.2.2.2 _ hlink) (fun _ h => h) hfin hinit hown2 (hty k hk) hn hfit hl hdg (fun H1 locs1 hP1 hD1 hS1 => kk H1 locs1 ⟨hm_P.put hD hm hi ht hk0 hP1 hD1, hS1⟩)
/-! arrays of ints -/
theorem hm_iald (S : CallFix p m c cc nL s args hm_B own) (hE : hm_E g s s.heap) (hG : hm_G g ad M s.heap H locs) {n : Nat} {f : Nat → Int32} {i x : Int32} (ht : M t = some (hm_ia g n f)) (ha : ad t = a) (hin : vp_in i n) (hx : f i.toNatClampNeg = x) (hdg : decode cc pc = .ok (.iaload, 1))
    (kk : W p l e R s m args below meth c H locs cells slots Q (F0 m (pc + 1) ls (.int x :: rest))) : W p l e R s m args below meth c H locs cells slots Q (F0 m pc ls (.int i :: .ref a :: rest)) := by
  subst ha; subst hx
  exact va_iald S.1 S.2.1 hE.1 (hG.1.one ht) 0 0 rfl rfl hin hdg kk
theorem hm_iast (S : CallFix p m c cc nL s args hm_B own) (hE : hm_E g s s.heap) (hG : hm_G g ad M s.heap H locs) {n : Nat} {f : Nat → Int32} {i x : Int32} (ht : M t = some (hm_ia g n f)) (ha : ad t = a) (hin : vp_in i n) (hdg : decode cc pc = .ok (.iastore, 1))
    (kk : ∀ (H1 : Heap) (locs1 : List Loc), hm_G g ad (hm_up M t (hm_ia g n (upd f i.toNatClampNeg x))) s.heap H1 locs1 → W p l e R s m args below meth c H1 locs1 cells slots Q (F0 m (pc + 1) ls rest)) : W p l e R s m args below meth c H locs cells slots Q (F0 m pc ls (.int x :: .int i :: .ref a :: rest)) := by
  subst ha
  obtain ⟨⟨L, fl, hP, hD, hm, hi⟩, hS⟩ := hG
  obtain ⟨h1, h2⟩ := hm t _ ht
  obtain ⟨k0, hk0⟩ := hm_pl_get (f := fl) h1
  exact va_iast S.1 S.2.1 hE.1 hP hD hS k0 0 (by rw [hk0, h2]) rfl hin hdg (fun H1 locs1 hP1 hD1 hS1 => kk H1 locs1 ⟨hm_P.put hD hm hi ht hk0 hP1 hD1, hS1⟩)
theorem hm_alen (S : CallFix p m c cc nL s args hm_B own) (hE : hm_E g s s.heap) (hG : hm_G g ad M s.heap H locs) {x : vp_A} {k : Nat} {ty : FieldType} {v : Int32} (ht : M t = some (.inl (hm_c g k, x))) (ha : ad t = a) (hty : (hm_ty g)[k]? = some (hm_c g k, ty)) (hv : Int32.ofNat x.1 = v) (hdg : decode cc pc = .ok (.arraylength, 1))
    (kk : W p l e R s m args below meth c H locs cells slots Q (F0 m (pc + 1) ls (.int v :: rest))) : W p l e R s m args below meth c H locs cells slots Q (F0 m pc ls (.ref a :: rest)) := by
  subst ha
  exact va_alen S.1 S.2.1 hE.1 (hG.1.one ht) 0 k rfl hty hv hdg kk
/-! arrays of references -/
theorem hm_aldq (S : CallFix p m c cc nL s args hm_B own) (hE : hm_E g s s.heap) (hG : hm_G g ad M s.heap H locs) {k n q : Nat} {C : String} {f : Nat → Option Nat} {i : Int32} (ht : M t = some (hm_ra g k n f)) (ha : ad t = a) (hty : (hm_ty g)[k]? = some (hm_c g k, .object C)) (hin : vp_in i n) (hq : f i.toNatClampNeg = some q) (hdg : decode cc pc = .ok (.aaload, 1))
    (kk : W p l e R s m args below meth c H locs cells slots Q (F0 m (pc + 1) ls (.ref q :: rest))) : W p l e R s m args below meth c H locs cells slots Q (F0 m pc ls (.int i :: .ref a :: rest)) := by
  subst ha
  refine va_aldq S.1 S.2.1 hE.1 (hG.1.one ht) 0 k rfl hty hin hdg ?_
  rw [hq]
  exact kk
theorem hm_aldA (S : CallFix p m c cc nL s args hm_B own) (hE : hm_E g s s.heap) (hG : hm_G g ad M s.heap H locs) {n q : Nat} {f : Nat → Option Nat} {i : Int32} (ht : M t = some (hm_ra g 4 n f)) (ha : ad t = a) (hin : vp_in i n) (hq : f i.toNatClampNeg = some q) (hdg : decode cc pc = .ok (.aaload, 1))
    (kk : W p l e R s m args below meth c H locs cells slots Q (F0 m (pc + 1) ls (.ref q :: rest))) : W p l e R s m args below meth c H locs cells slots Q (F0 m pc ls (.int i :: .ref a :: rest)) := by
  subst ha
  have hlt : i.toNatClampNeg < n := Nat.not_le.mp fun q => hin (Or.inr q)
  have hc0 : H[ad t]? = some (vp_cell (hm_c g 4) (n, .inr (.inr (.inr (.inr f))))) := (hG.1.one ht) 0 _ rfl
  refine W.aald (v := .ref q) (ty := .array .int) S.1 S.2.1 hc0 ((hE.1.2 4 _ rfl).1 n (fun j => va_rf (f j))) rfl (fun q => by cases q) (by show ¬ (i < 0 ∨ (arrV _ _ _).slots.size ≤ _); rw [arrV_size]; exact hin) ?_ rfl rfl hdg kk
  show (arrV _ _ _).slots[_]? = _
  rw [arrV_read _ _ hlt, hq]
  rfl
theorem hm_astq (S : CallFix p m c cc nL s args hm_B own) (hE : hm_E g s s.heap) (hG : hm_G g ad M s.heap H locs) {k n v ci : Nat} {C : String} {T : u_T} {N : Nat} {tv : TG} {vs : List Value} {f : Nat → Option Nat} {i : Int32} (ht : M t = some (hm_ra g k n f)) (ha : ad t = a) (hty : (hm_ty g)[k]? = some (hm_c g k, .object C)) (hv : M tv = some (.inr (ci, vs))) (hav : ad tv = v) (hc : vwCl[ci]? = some (C, T, N)) (hin : vp_in i n) (hdg : decode cc pc = .ok (.aastore, 1))
    (kk : ∀ (H1 : Heap) (locs1 : List Loc), hm_G g ad (hm_up M t (hm_ra g k n (va_up f i.toNatClampNeg (some v)))) s.heap H1 locs1 → W p l e R s m args below meth c H1 locs1 cells slots Q (F0 m (pc + 1) ls rest)) : W p l e R s m args below meth c H locs cells slots Q (F0 m pc ls (.ref v :: .int i :: .ref a :: rest)) := by
  subst ha; subst hav
  obtain ⟨⟨L, fl, hP, hD, hm, hi⟩, hS⟩ := hG
  obtain ⟨h1, h2⟩ := hm t _ ht
  obtain ⟨k0, hk0⟩ := hm_pl_get (f := fl) h1
  obtain ⟨h3, h4⟩ := hm tv _ hv
  obtain ⟨k1, hk1⟩ := hm_pl_get (f := fl) h3
  exact va_astq S.1 S.2.1 hE.1 hP hD hS k0 k k1 ci (by rw [hk0, h2]) (r := (C, T, N)) hty (by rw [hk1, h4]) hc hin hdg (fun H1 locs1 hP1 hD1 hS1 => kk H1 locs1 ⟨hm_P.put hD hm hi ht hk0 hP1 hD1, hS1⟩)
theorem hm_astO (S : CallFix p m c cc nL s args hm_B own) (hE : hm_E g s s.heap) (hG : hm_G g ad M s.heap H locs) {n v ci : Nat} {C : String} {T : u_T} {N : Nat} {tv : TG} {vs : List Value} {f : Nat → Option Nat} {i : Int32} (ht : M t = some (hm_ra g 3 n f)) (ha : ad t = a) (hca : Cond.castable C "java/lang/Object" ∈ hm_nst) (hv : M tv = some (.inr (ci, vs))) (hav : ad tv = v) (hc : vwCl[ci]? = some (C, T, N)) (hin : vp_in i n) (hdg : decode cc pc = .ok (.aastore, 1))
    (kk : ∀ (H1 : Heap) (locs1 : List Loc), hm_G g ad (hm_up M t (hm_ra g 3 n (va_up f i.toNatClampNeg (some v)))) s.heap H1 locs1 → W p l e R s m args below meth c H1 locs1 cells slots Q (F0 m (pc + 1) ls rest)) : W p l e R s m args below meth c H locs cells slots Q (F0 m pc ls (.ref v :: .int i :: .ref a :: rest)) := by
  subst ha; subst hav
  obtain ⟨⟨L, fl, hP, hD, hm, hi⟩, hS⟩ := hG
  obtain ⟨h1, h2⟩ := hm t _ ht
  obtain ⟨k0, hk0⟩ := hm_pl_get (f := fl) h1
  obtain ⟨h3, h4⟩ := hm tv _ hv
  obtain ⟨k1, hk1⟩ := hm_pl_get (f := fl) h3
  exact va_astqO S.1 S.2.1 hE.1 hP hD hS k0 3 k1 ci (E := "java/lang/Object") (by rw [hk0, h2]) (r := (C, T, N)) rfl (hE.2.2.2.1 _ hca) (by rw [hk1, h4]) hc hin hdg (fun H1 locs1 hP1 hD1 hS1 => kk H1 locs1 ⟨hm_P.put hD hm hi ht hk0 hP1 hD1, hS1⟩)
theorem hm_astN (S : CallFix p m c cc nL s args hm_B own) (hE : hm_E g s s.heap) (hG : hm_G g ad M s.heap H locs) {k n : Nat} {C : String} {f : Nat → Option Nat} {i : Int32} (ht : M t = some (hm_ra g k n f)) (ha : ad t = a) (hty : (hm_ty g)[k]? = some (hm_c g k, .object C)) (hin : vp_in i n) (hdg : decode cc pc = .ok (.aastore, 1))
    (kk : ∀ (H1 : Heap) (locs1 : List Loc), hm_G g ad (hm_up M t (hm_ra g k n (va_up f i.toNatClampNeg none))) s.heap H1 locs1 → W p l e R s m args below meth c H1 locs1 cells slots Q (F0 m (pc + 1) ls rest)) : W p l e R s m args below meth c H locs cells slots Q (F0 m pc ls (.null :: .int i :: .ref a :: rest)) := by
  subst ha
  obtain ⟨⟨L, fl, hP, hD, hm, hi⟩, hS⟩ := hG
  obtain ⟨h1, h2⟩ := hm t _ ht
  obtain ⟨k0, hk0⟩ := hm_pl_get (f := fl) h1
  exact va_astqN S.1 S.2.1 hE.1 hP hD hS k0 k (by rw [hk0, h2]) hty hin hdg (fun H1 locs1 hP1 hD1 hS1 => kk H1 locs1 ⟨hm_P.put hD hm hi ht hk0 hP1 hD1, hS1⟩)
/-! what is made -/
theorem hm_base (hE : hm_E g s s.heap) : ∀ q, s.heap.size ≤ q → hm_A g q := fun _ h => Nat.le_trans hE.2.1 h
theorem hm_new (S : CallFix p m c cc nL s args hm_B own) (hE : hm_E g s s.heap) (hG : hm_G g ad M s.heap H locs) (t : TG) {C : String} {T : u_T} {N ci index : Nat} {fs : List Value} {ty0 : Nat → FieldType} (hc : vwCl[ci]? = some (C, T, N)) (hin : ∀ w ∈ u_ws C T N, w ∈ hm_B) (hty : ∀ k, k < N → parseFieldDescriptor (T k).2.2.1 = some (ty0 k)) (hcl : Cond.classLink own index C ∈ hm_B) (hinst : Cond.instantiable C N ∈ hm_B) (hini : Cond.initialized C ∈ hm_B) (hfs : ∀ j, j < N → defaultValue (ty0 j) = vp_V fs j) (hcells : cells + 1 ≤ R.cells) (hslots : slots + N ≤ R.slots) (hdg : decode cc pc = .ok (.new index, 3))
    (kk : ∀ (q : Nat) (H1 : Heap), hm_G g (hm_au ad t q) (hm_up M t (.inr (ci, fs))) s.heap H1 locs → W p l e R s m args below meth c H1 locs (cells + 1) (slots + N) Q (F0 m (pc + 3) ls (.ref q :: rest))) : W p l e R s m args below meth c H locs cells slots Q (F0 m pc ls rest) := by
  obtain ⟨⟨L, fl, hP, hD, hm, hi⟩, hS⟩ := hG
  exact va_new S.1 S.2.1 S.2.2.2.2 hin ty0 hty S.2.2.2.1 (S.2.2.2.2 _ hcl) (S.2.2.2.2 _ hinst) (S.2.2.2.2 _ hini) hE.1 hP hD hS (hm_base hE) hc hfs hcells hslots hdg (fun q H1 hP1 hD1 hS1 => kk q H1 ⟨hm_P.push hm hi hP1 hD1, hS1⟩)
theorem hm_newI (S : CallFix p m c cc nL s args hm_B own) (hE : hm_E g s s.heap) (hG : hm_G g ad M s.heap H locs) (t : TG) (harr : Cond.arrayClass .int ∈ hm_B) {n : Int32} {N : Nat} (hn : ¬ n < 0) (hN : n.toNatClampNeg = N) (hbytes : N * 4 ≤ 536870912) (hcells : cells + 1 ≤ R.cells) (hslots : slots + N ≤ R.slots) (hdg : decode cc pc = .ok (.newarray .int, 2))
    (kk : ∀ (q : Nat) (H1 : Heap), hm_G g (hm_au ad t q) (hm_up M t (hm_ia g N (fun _ => 0))) s.heap H1 locs → W p l e R s m args below meth c H1 locs (cells + 1) (slots + N) Q (F0 m (pc + 2) ls (.ref q :: rest))) : W p l e R s m args below meth c H locs cells slots Q (F0 m pc ls (.int n :: rest)) := by
  obtain ⟨⟨L, fl, hP, hD, hm, hi⟩, hS⟩ := hG
  refine va_newa (atype := .int) S.1 S.2.1 (S.2.2.2.2 _ harr) rfl hE.1 hP hD hS (hm_base hE) (a0 := (N, .inl (fun _ => 0))) (fun cA => by rw [vp_cell_i]; rfl) hn hN hbytes hcells hslots hdg (fun q cA H1 hK1 hP1 hD1 hS1 => ?_)
  have e1 : (hm_ty g ++ [(cA, FieldType.int)])[5]? = some (cA, FieldType.int) := rfl
  have e2 : cA = hm_c g 0 := Option.some.inj ((hK1.2 5 _ e1).2.symm.trans (hE.1.2 0 _ rfl).2)
  subst e2
  exact kk q H1 ⟨hm_P.push hm hi hP1 hD1, hS1⟩
theorem hm_newQ (S : CallFix p m c cc nL s args hm_B own) (hE : hm_E g s s.heap) (hG : hm_G g ad M s.heap H locs) (t : TG) {C : String} {k index : Nat} (hty : (hm_ty g)[k]? = some (hm_c g k, .object C)) (hcl : Cond.classLink own index C ∈ hm_B) (hover : va_AO C s) {n : Int32} {N : Nat} (hn : ¬ n < 0) (hN : n.toNatClampNeg = N) (hbytes : N * 4 ≤ 536870912) (hcells : cells + 1 ≤ R.cells) (hslots : slots + N ≤ R.slots) (hdg : decode cc pc = .ok (.anewarray index, 3))
    (kk : ∀ (q : Nat) (H1 : Heap), hm_G g (hm_au ad t q) (hm_up M t (hm_ra g k N (fun _ => none))) s.heap H1 locs → W p l e R s m args below meth c H1 locs (cells + 1) (slots + N) Q (F0 m (pc + 3) ls (.ref q :: rest))) : W p l e R s m args below meth c H locs cells slots Q (F0 m pc ls (.int n :: rest)) := by
  obtain ⟨⟨L, fl, hP, hD, hm, hi⟩, hS⟩ := hG
  refine va_newq S.1 S.2.1 S.2.2.2.1 (S.2.2.2.2 _ hcl) hover hE.1 hP hD hS (hm_base hE) hn hN hbytes hcells hslots hdg (fun q cA H1 hK1 hP1 hD1 hS1 => ?_)
  have e1 : (hm_ty g ++ [(cA, FieldType.object C)])[5]? = some (cA, FieldType.object C) := rfl
  obtain ⟨_, _, _, _, _, f1⟩ := (hK1.2 5 _ e1).2
  obtain ⟨_, _, _, _, _, f2⟩ := (hE.1.2 k _ hty).2
  have e2 : cA = hm_c g k := Option.some.inj (f1.symm.trans f2)
  subst e2
  exact kk q H1 ⟨hm_P.push hm hi hP1 hD1, hS1⟩
/-! statics -/
theorem hm_gets {C n d : String} {v : Value} {index : Nat} (S : CallFix p m c cc nL s args hm_B own) (hG : hm_G g ad M s.heap H locs) (hZ : va_Z C n d v (hm_A g) s s.heap) (hlink : Cond.fieldLink own index C n d ∈ hm_B) (hdg : decode cc pc = .ok (.getstatic index, 3))
    (kk : W p l e R s m args below meth c H locs cells slots Q (F0 m (pc + 3) ls (v :: rest))) : W p l e R s m args below meth c H locs cells slots Q (F0 m pc ls rest) :=
  va_gets S.1 S.2.1 hZ hG.2 S.2.2.2.1 (S.2.2.2.2 _ hlink) (fun _ h => h) hdg kk
theorem hm_getsN {C n d host : String} {v : Value} {index : Nat} (S : CallFix p m c cc nL s args hm_B own) (hE : hm_E g s s.heap) (hG : hm_G g ad M s.heap H locs) (hZ : va_Z C n d v (hm_A g) s s.heap) (hlink : Cond.fieldLinkNest own index C n d host ∈ hm_nst) (hdg : decode cc pc = .ok (.getstatic index, 3))
    (kk : W p l e R s m args below meth c H locs cells slots Q (F0 m (pc + 3) ls (v :: rest))) : W p l e R s m args below meth c H locs cells slots Q (F0 m pc ls rest) :=
  va_getsN S.1 S.2.1 hZ hG.2 S.2.2.2.1 (va_Nw.use rfl (hE.2.2.2.1 _ hlink)) (fun _ h => h) hdg kk
theorem hm_tabI {N : Nat} {f : Nat → Int32} {i x : Int32} (S : CallFix p m c cc nL s args hm_B own) (hG : hm_G g ad M s.heap H locs) (hT : va_T .int a N (fun k => .int (f k)) (hm_A g) s s.heap) (hin : vp_in i N) (hx : f i.toNatClampNeg = x) (hdg : decode cc pc = .ok (.iaload, 1))
    (kk : W p l e R s m args below meth c H locs cells slots Q (F0 m (pc + 1) ls (.int x :: rest))) : W p l e R s m args below meth c H locs cells slots Q (F0 m pc ls (.int i :: .ref a :: rest)) :=
  va_ti S.1 S.2.1 hT hG.2 hin (by rw [hx]) hdg kk
/-! casts among own classes -/
theorem hm_cast (S : CallFix p m c cc nL s args hm_B own) (hE : hm_E g s s.heap) (hG : hm_G g ad M s.heap H locs) {C : String} {T : u_T} {N ci index : Nat} {fs : List Value} (ht : M t = some (.inr (ci, fs))) (ha : ad t = a) (hc : vwCl[ci]? = some (C, T, N)) (hlink : Cond.classLink own index C ∈ hm_B) (hdg : decode cc pc = .ok (.checkcast index, 3))
    (kk : W p l e R s m args below meth c H locs cells slots Q (F0 m (pc + 3) ls (.ref a :: rest))) : W p l e R s m args below meth c H locs cells slots Q (F0 m pc ls (.ref a :: rest)) := by
  subst ha
  exact va_castS S.1 S.2.1 S.2.2.2.1 (S.2.2.2.2 _ hlink) (hE.1.1 ci _ hc).2 (va_recv (q0 := 0) hE.1 (hG.1.one ht) hc rfl) hdg kk
end HMR
