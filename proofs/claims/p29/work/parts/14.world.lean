/-! The whole object: what it holds, and how a change of one piece leaves the rest. -/
def anyB (p : Nat → Bool) : Nat → Bool
  | 0 => false
  | k + 1 => anyB p k || p k
theorem anyB_iff {p : Nat → Bool} : ∀ {n : Nat}, anyB p n = true ↔ ∃ k, k < n ∧ p k = true := by
  intro n
  induction n with
  | zero => simp [anyB]
  | succ n ih =>
    rw [anyB, Bool.or_eq_true, ih]
    constructor
    · rintro (⟨k, h1, h2⟩ | h)
      · exact ⟨k, by omega, h2⟩
      · exact ⟨n, by omega, h⟩
    · rintro ⟨k, h1, h2⟩
      by_cases h : k = n
      · subst h; exact Or.inr h2
      · exact Or.inl ⟨k, by omega, h2⟩
theorem anyB_true {p : Nat → Bool} {k n : Nat} (h : k < n) (hp : p k = true) : anyB p n = true := anyB_iff.mpr ⟨k, h, hp⟩
theorem anyB_false {p : Nat → Bool} {n : Nat} (h : ∀ k, k < n → p k = false) : anyB p n = false := by
  cases e : anyB p n
  · rfl
  · obtain ⟨k, h1, h2⟩ := anyB_iff.mp e
    rw [h k h1] at h2
    cases h2
theorem anyB_step {p : Nat → Bool} {k : Nat} (h : anyB p k = false) (hp : p k = false) : anyB p (k + 1) = false := by rw [anyB, h, hp]; rfl
def cntB (p : Nat → Bool) : Nat → Nat
  | 0 => 0
  | k + 1 => if p k then cntB p k + 1 else cntB p k
theorem cntB_t {p : Nat → Bool} {k : Nat} (h : p k = true) : cntB p (k + 1) = cntB p k + 1 := by rw [cntB, if_pos h]
theorem cntB_f {p : Nat → Bool} {k : Nat} (h : p k = false) : cntB p (k + 1) = cntB p k := by rw [cntB, h]; rfl
def sumN (f : Nat → Nat) : Nat → Nat
  | 0 => 0
  | k + 1 => sumN f k + f k
/-- the object: how many series, the series, how many rules, the rules, alerts, how many hushes, the hushes, groups, log, rehearsed, clock, grouping, repeat -/
abbrev XD : Type := Nat × (Nat → SeD) × Nat × (Nat → RuD) × (Nat → Nat → AlD) × Nat × (Nat → HuD) × (Nat → GrD) × LgD × AlD × Nat × Nat × Nat
def xS (x : XD) : Nat := x.1
def xSe (x : XD) : Nat → SeD := x.2.1
def xR (x : XD) : Nat := x.2.2.1
def xRu (x : XD) : Nat → RuD := x.2.2.2.1
def xAl (x : XD) : Nat → Nat → AlD := x.2.2.2.2.1
def xH (x : XD) : Nat := x.2.2.2.2.2.1
def xHu (x : XD) : Nat → HuD := x.2.2.2.2.2.2.1
def xGr (x : XD) : Nat → GrD := x.2.2.2.2.2.2.2.1
def xL (x : XD) : LgD := x.2.2.2.2.2.2.2.2.1
def xQ (x : XD) : AlD := x.2.2.2.2.2.2.2.2.2.1
def xC (x : XD) : Nat := x.2.2.2.2.2.2.2.2.2.2.1
def xG (x : XD) : Nat := x.2.2.2.2.2.2.2.2.2.2.2.1
def xP (x : XD) : Nat := x.2.2.2.2.2.2.2.2.2.2.2.2
def hasLi (g : GV) (ad : AD) (M : CT) (t tq : TG) (n : Nat) (els : Nat → Nat) : Prop := ∃ (mc : Int32) (q : Nat) (f : Nat → Option Nat), M t = some (liE mc q n) ∧ ((n = 0 ∧ q = hm_b g 1) ∨ (ad tq = q ∧ M tq = some (hm_ra g 3 10 f) ∧ ∀ k, k < n → f k = some (els k))) ∧ n ≤ 10
theorem hasLi.ob {g : GV} {ad : AD} {M : CT} {t tq : TG} {n : Nat} {els : Nat → Nat} (h : hasLi g ad M t tq n els) : ∃ fs, M t = some (.inr (0, fs)) := by
  obtain ⟨mc, q, f, h1, -, -⟩ := h
  exact ⟨_, h1⟩
theorem hasLi.up {g : GV} {ad : AD} {M : CT} {t tq t0 : TG} {n : Nat} {els : Nat → Nat} {e : va_E} (h : hasLi g ad M t tq n els) (h1 : t ≠ t0) (h2 : tq ≠ t0) : hasLi g ad (hm_up M t0 e) t tq n els := by
  obtain ⟨mc, q, f, h3, h4, h5⟩ := h
  refine ⟨mc, q, f, (hm_up_n h1).trans h3, ?_, h5⟩
  rw [hm_up_n h2]
  exact h4
theorem hasSe.up {g : GV} {ad : AD} {M : CT} {i : Nat} {s : SeD} {t0 : TG} {e : va_E} (h : hasSe g ad M i s) (h1 : (10, i, 0) ≠ t0) (h2 : (11, i, 0) ≠ t0) (h3 : (12, i, 0) ≠ t0) (h4 : ∀ j, (13, i, j) ≠ t0) : hasSe g ad (hm_up M t0 e) i s := by
  obtain ⟨a1, a2, a3, a4, a5⟩ := h
  exact ⟨(hm_up_n h1).trans a1, (hm_up_n h2).trans a2, (hm_up_n h3).trans a3, fun j hj => (hm_up_n (h4 j)).trans (a4 j hj), a5⟩
theorem hasRu.up {g : GV} {ad : AD} {M : CT} {r : Nat} {u : RuD} {al : Nat → AlD} {t0 : TG} {e : va_E} (h : hasRu g ad M r u al) (h1 : (20, r, 0) ≠ t0) (h2 : (21, r, 0) ≠ t0) (h3 : ∀ k, (22, r, k) ≠ t0) : hasRu g ad (hm_up M t0 e) r u al := by
  obtain ⟨a1, a2, a3, a4⟩ := h
  exact ⟨(hm_up_n h1).trans a1, (hm_up_n h2).trans a2, fun k hk => (hm_up_n (h3 k)).trans (a3 k hk), a4⟩
theorem hasGr.up {g : GV} {ad : AD} {M : CT} {j : Nat} {d : GrD} {t0 : TG} {e : va_E} (h : hasGr g ad M j d) (h1 : (60, j, 0) ≠ t0) (h2 : (61, j, 0) ≠ t0) (h3 : (62, j, 0) ≠ t0) : hasGr g ad (hm_up M t0 e) j d := by
  obtain ⟨a1, a2, a3⟩ := h
  exact ⟨(hm_up_n h1).trans a1, (hm_up_n h2).trans a2, (hm_up_n h3).trans a3⟩
theorem hasLg.up {g : GV} {ad : AD} {M : CT} {d : LgD} {t0 : TG} {e : va_E} (h : hasLg g ad M d) (h1 : (8, 0, 0) ≠ t0) (h2 : (9, 0, 0) ≠ t0) (h3 : ∀ j, (51, j, 0) ≠ t0) : hasLg g ad (hm_up M t0 e) d := by
  obtain ⟨a1, a2, a3, a4⟩ := h
  exact ⟨(hm_up_n h1).trans a1, (hm_up_n h2).trans a2, fun k hk => (hm_up_n (h3 k)).trans (a3 k hk), a4⟩
abbrev xE (ad : AD) (x : XD) : va_E := .inr (7, [.ref (ad (1, 0, 0)), .ref (ad (2, 0, 0)), .ref (ad (3, 0, 0)), .ref (ad (7, 0, 0)), .ref (ad (8, 0, 0)), .ref (ad (70, 0, 0)), .int (nI (xC x)), .int (nI (xG x)), .int (nI (xP x))])
def grpA (ad : AD) : Nat → Option Nat := fun j => if j < 7 then some (ad (60, j, 0)) else none
def hasX (g : GV) (ad : AD) (M : CT) (x : XD) : Prop :=
  M (0, 0, 0) = some (xE ad x) ∧ hasLi g ad M (1, 0, 0) (4, 0, 0) (xS x) (fun i => ad (10, i, 0)) ∧ hasLi g ad M (2, 0, 0) (5, 0, 0) (xR x) (fun r => ad (20, r, 0)) ∧ hasLi g ad M (3, 0, 0) (6, 0, 0) (xH x) (fun h => ad (30, h, 0)) ∧
  M (7, 0, 0) = some (hm_ra g 1 7 (grpA ad)) ∧ hasLg g ad M (xL x) ∧ (∃ q, M (70, 0, 0) = some (alE q)) ∧ (∀ i, i < xS x → hasSe g ad M i (xSe x i)) ∧ (∀ r, r < xR x → hasRu g ad M r (xRu x r) (xAl x r)) ∧ (∀ h, h < xH x → M (30, h, 0) = some (huE (xHu x h))) ∧ (∀ j, j < 7 → hasGr g ad M j (xGr x j)) ∧ xS x ≤ 6 ∧ xR x ≤ 6 ∧ xH x ≤ 5
def setAl (x : XD) (r k : Nat) (a : AlD) : XD := (xS x, xSe x, xR x, xRu x, fun r1 k1 => if r1 = r ∧ k1 = k then a else xAl x r1 k1, xH x, xHu x, xGr x, xL x, xQ x, xC x, xG x, xP x)
def setQ (x : XD) (a : AlD) : XD := (xS x, xSe x, xR x, xRu x, xAl x, xH x, xHu x, xGr x, xL x, a, xC x, xG x, xP x)
def setC (x : XD) (n : Nat) : XD := (xS x, xSe x, xR x, xRu x, xAl x, xH x, xHu x, xGr x, xL x, xQ x, n, xG x, xP x)
def setG (x : XD) (n : Nat) : XD := (xS x, xSe x, xR x, xRu x, xAl x, xH x, xHu x, xGr x, xL x, xQ x, xC x, n, xP x)
def setP (x : XD) (n : Nat) : XD := (xS x, xSe x, xR x, xRu x, xAl x, xH x, xHu x, xGr x, xL x, xQ x, xC x, xG x, n)
def setSe (x : XD) (i : Nat) (s : SeD) : XD := (xS x, fun k => if k = i then s else xSe x k, xR x, xRu x, xAl x, xH x, xHu x, xGr x, xL x, xQ x, xC x, xG x, xP x)
def setRu (x : XD) (r : Nat) (u : RuD) : XD := (xS x, xSe x, xR x, fun k => if k = r then u else xRu x k, xAl x, xH x, xHu x, xGr x, xL x, xQ x, xC x, xG x, xP x)
def setGr (x : XD) (j : Nat) (d : GrD) : XD := (xS x, xSe x, xR x, xRu x, xAl x, xH x, xHu x, fun k => if k = j then d else xGr x k, xL x, xQ x, xC x, xG x, xP x)
def setL (x : XD) (d : LgD) : XD := (xS x, xSe x, xR x, xRu x, xAl x, xH x, xHu x, xGr x, d, xQ x, xC x, xG x, xP x)
section HMX
variable {g : GV} {ad : AD} {M : CT} {x : XD} {e : va_E}
/-- a change of the object's own fields -/
theorem hasX.fld (h : hasX g ad M x) (x' : XD) (h1 : xS x' = xS x) (h2 : xSe x' = xSe x) (h3 : xR x' = xR x) (h4 : xRu x' = xRu x) (h5 : xAl x' = xAl x) (h6 : xH x' = xH x) (h7 : xHu x' = xHu x) (h8 : xGr x' = xGr x) (h9 : xL x' = xL x) : hasX g ad (hm_up M (0, 0, 0) (xE ad x')) x' := by
  obtain ⟨a1, a2, a3, a4, a5, a6, a7, a8, a9, a10, a11, a12⟩ := h
  unfold hasX
  rw [h1, h2, h3, h4, h5, h6, h7, h8, h9]
  exact ⟨hm_up_s, a2.up (by simp) (by simp), a3.up (by simp) (by simp), a4.up (by simp) (by simp), (hm_up_n (by simp)).trans a5, a6.up (by simp) (by simp) (by simp), a7.imp (fun q hq => (hm_up_n (by simp)).trans hq), fun i hi => (a8 i hi).up (by simp) (by simp) (by simp) (by simp), fun r hr => (a9 r hr).up (by simp) (by simp) (by simp), fun k hk => (hm_up_n (by simp)).trans (a10 k hk), fun j hj => (a11 j hj).up (by simp) (by simp) (by simp), a12⟩
theorem hasX.reh (h : hasX g ad M x) (a : AlD) : hasX g ad (hm_up M (70, 0, 0) (alE a)) x := by
  obtain ⟨a1, a2, a3, a4, a5, a6, a7, a8, a9, a10, a11, a12⟩ := h
  exact ⟨(hm_up_n (by simp)).trans a1, a2.up (by simp) (by simp), a3.up (by simp) (by simp), a4.up (by simp) (by simp), (hm_up_n (by simp)).trans a5, a6.up (by simp) (by simp) (by simp), ⟨a, hm_up_s⟩, fun i hi => (a8 i hi).up (by simp) (by simp) (by simp) (by simp), fun r hr => (a9 r hr).up (by simp) (by simp) (by simp), fun k hk => (hm_up_n (by simp)).trans (a10 k hk), fun j hj => (a11 j hj).up (by simp) (by simp) (by simp), a12⟩
theorem hasX.alt (h : hasX g ad M x) (r k : Nat) (a : AlD) : hasX g ad (hm_up M (22, r, k) (alE a)) (setAl x r k a) := by
  obtain ⟨a1, a2, a3, a4, a5, a6, a7, a8, a9, a10, a11, a12⟩ := h
  refine ⟨(hm_up_n (by simp)).trans a1, a2.up (by simp) (by simp), a3.up (by simp) (by simp), a4.up (by simp) (by simp), (hm_up_n (by simp)).trans a5, a6.up (by simp) (by simp) (by simp), a7.imp (fun q hq => (hm_up_n (by simp)).trans hq), fun i hi => (a8 i hi).up (by simp) (by simp) (by simp) (by simp), fun r1 hr => ?_, fun k hk => (hm_up_n (by simp)).trans (a10 k hk), fun j hj => (a11 j hj).up (by simp) (by simp) (by simp), a12⟩
  obtain ⟨b1, b2, b3, b4⟩ := a9 r1 hr
  refine ⟨(hm_up_n (by simp)).trans b1, (hm_up_n (by simp)).trans b2, fun k1 hk => ?_, b4⟩
  show _ = some (alE (if r1 = r ∧ k1 = k then a else xAl x r1 k1))
  by_cases h : r1 = r ∧ k1 = k
  · obtain ⟨rfl, rfl⟩ := h
    rw [hm_up_s, if_pos ⟨rfl, rfl⟩]
  · rw [hm_up_n (fun q => h (by simpa using q)), if_neg h]
    exact b3 k1 hk
theorem hasX.rul (h : hasX g ad M x) (r : Nat) (u : RuD) (h1 : rLo u < 9) (h2 : rW u ≤ 12) (h3 : rWa u < 3) : hasX g ad (hm_up M (20, r, 0) (ruE ad r u)) (setRu x r u) := by
  obtain ⟨a1, a2, a3, a4, a5, a6, a7, a8, a9, a10, a11, a12⟩ := h
  refine ⟨(hm_up_n (by simp)).trans a1, a2.up (by simp) (by simp), a3.up (by simp) (by simp), a4.up (by simp) (by simp), (hm_up_n (by simp)).trans a5, a6.up (by simp) (by simp) (by simp), a7.imp (fun q hq => (hm_up_n (by simp)).trans hq), fun i hi => (a8 i hi).up (by simp) (by simp) (by simp) (by simp), fun r1 hr => ?_, fun k hk => (hm_up_n (by simp)).trans (a10 k hk), fun j hj => (a11 j hj).up (by simp) (by simp) (by simp), a12⟩
  show hasRu g ad _ r1 (if r1 = r then u else xRu x r1) (xAl x r1)
  have h0 := a9 r1 hr
  by_cases h : r1 = r
  · subst h
    obtain ⟨b1, b2, b3, b4, -⟩ := h0
    rw [if_pos rfl]
    exact ⟨hm_up_s, (hm_up_n (by simp)).trans b2, fun k1 hk => (hm_up_n (by simp)).trans (b3 k1 hk), b4, h1, h2, h3⟩
  · rw [if_neg h]
    exact h0.up (by simp [h]) (by simp) (by simp)
theorem hasX.gro (h : hasX g ad M x) (j : Nat) (d : GrD) {M2 : CT} (hd : j < 7 → hasGr g ad M2 j d) (hM : ∀ t, t ≠ (60, j, 0) → t ≠ (61, j, 0) → t ≠ (62, j, 0) → M2 t = M t) : hasX g ad M2 (setGr x j d) := by
  obtain ⟨a1, ⟨m1, q1, f1, b1, c1, d1⟩, ⟨m2, q2, f2, b2, c2, d2⟩, ⟨m3, q3, f3, b3, c3, d3⟩, a5, ⟨e1, e2, e3, e4⟩, a7, a8, a9, a10, a11, a12⟩ := h
  refine ⟨(hM _ (by simp) (by simp) (by simp)).trans a1, ⟨m1, q1, f1, (hM _ (by simp) (by simp) (by simp)).trans b1, by rw [hM _ (by simp) (by simp) (by simp)]; exact c1, d1⟩, ⟨m2, q2, f2, (hM _ (by simp) (by simp) (by simp)).trans b2, by rw [hM _ (by simp) (by simp) (by simp)]; exact c2, d2⟩, ⟨m3, q3, f3, (hM _ (by simp) (by simp) (by simp)).trans b3, by rw [hM _ (by simp) (by simp) (by simp)]; exact c3, d3⟩, (hM _ (by simp) (by simp) (by simp)).trans a5, ⟨(hM _ (by simp) (by simp) (by simp)).trans e1, (hM _ (by simp) (by simp) (by simp)).trans e2, fun k hk => (hM _ (by simp) (by simp) (by simp)).trans (e3 k hk), e4⟩, a7.imp (fun q hq => (hM _ (by simp) (by simp) (by simp)).trans hq), fun i hi => ?_, fun r hr => ?_, fun k hk => (hM _ (by simp) (by simp) (by simp)).trans (a10 k hk), fun i hi => ?_, a12⟩
  · obtain ⟨p1, p2, p3, p4, p5⟩ := a8 i hi
    exact ⟨(hM _ (by simp) (by simp) (by simp)).trans p1, (hM _ (by simp) (by simp) (by simp)).trans p2, (hM _ (by simp) (by simp) (by simp)).trans p3, fun k hk => (hM _ (by simp) (by simp) (by simp)).trans (p4 k hk), p5⟩
  · obtain ⟨p1, p2, p3, p4⟩ := a9 r hr
    exact ⟨(hM _ (by simp) (by simp) (by simp)).trans p1, (hM _ (by simp) (by simp) (by simp)).trans p2, fun k hk => (hM _ (by simp) (by simp) (by simp)).trans (p3 k hk), p4⟩
  · show hasGr g ad M2 i (if i = j then d else xGr x i)
    by_cases h : i = j
    · subst h
      rw [if_pos rfl]
      exact hd hi
    · rw [if_neg h]
      obtain ⟨p1, p2, p3⟩ := a11 i hi
      exact ⟨(hM _ (by simp [h]) (by simp) (by simp)).trans p1, (hM _ (by simp) (by simp [h]) (by simp)).trans p2, (hM _ (by simp) (by simp) (by simp [h])).trans p3⟩
theorem hasX.ser (h : hasX g ad M x) (i : Nat) (d : SeD) {M2 : CT} (hd : i < xS x → hasSe g ad M2 i d) (hM : ∀ t, t ≠ (10, i, 0) → t ≠ (11, i, 0) → (∀ j, t ≠ (13, i, j)) → M2 t = M t) : hasX g ad M2 (setSe x i d) := by
  obtain ⟨a1, ⟨m1, q1, f1, b1, c1, d1⟩, ⟨m2, q2, f2, b2, c2, d2⟩, ⟨m3, q3, f3, b3, c3, d3⟩, a5, ⟨e1, e2, e3, e4⟩, a7, a8, a9, a10, a11, a12⟩ := h
  refine ⟨(hM _ (by simp) (by simp) (by simp)).trans a1, ⟨m1, q1, f1, (hM _ (by simp) (by simp) (by simp)).trans b1, by rw [hM _ (by simp) (by simp) (by simp)]; exact c1, d1⟩, ⟨m2, q2, f2, (hM _ (by simp) (by simp) (by simp)).trans b2, by rw [hM _ (by simp) (by simp) (by simp)]; exact c2, d2⟩, ⟨m3, q3, f3, (hM _ (by simp) (by simp) (by simp)).trans b3, by rw [hM _ (by simp) (by simp) (by simp)]; exact c3, d3⟩, (hM _ (by simp) (by simp) (by simp)).trans a5, ⟨(hM _ (by simp) (by simp) (by simp)).trans e1, (hM _ (by simp) (by simp) (by simp)).trans e2, fun k hk => (hM _ (by simp) (by simp) (by simp)).trans (e3 k hk), e4⟩, a7.imp (fun q hq => (hM _ (by simp) (by simp) (by simp)).trans hq), fun k hk => ?_, fun r hr => ?_, fun k hk => (hM _ (by simp) (by simp) (by simp)).trans (a10 k hk), fun j hj => ?_, a12⟩
  · show hasSe g ad M2 k (if k = i then d else xSe x k)
    by_cases h : k = i
    · subst h
      rw [if_pos rfl]
      exact hd hk
    · rw [if_neg h]
      obtain ⟨p1, p2, p3, p4, p5⟩ := a8 k hk
      exact ⟨(hM _ (by simp [h]) (by simp) (by simp)).trans p1, (hM _ (by simp) (by simp [h]) (by simp)).trans p2, (hM _ (by simp) (by simp) (by simp)).trans p3, fun j hj => (hM _ (by simp) (by simp) (by simp [h])).trans (p4 j hj), p5⟩
  · obtain ⟨p1, p2, p3, p4⟩ := a9 r hr
    exact ⟨(hM _ (by simp) (by simp) (by simp)).trans p1, (hM _ (by simp) (by simp) (by simp)).trans p2, fun k hk => (hM _ (by simp) (by simp) (by simp)).trans (p3 k hk), p4⟩
  · obtain ⟨p1, p2, p3⟩ := a11 j hj
    exact ⟨(hM _ (by simp) (by simp) (by simp)).trans p1, (hM _ (by simp) (by simp) (by simp)).trans p2, (hM _ (by simp) (by simp) (by simp)).trans p3⟩
theorem hasX.log (h : hasX g ad M x) (d : LgD) {M2 : CT} (hd : hasLg g ad M2 d) (hM : ∀ t, t ≠ (8, 0, 0) → (∀ j, t ≠ (51, j, 0)) → M2 t = M t) : hasX g ad M2 (setL x d) := by
  obtain ⟨a1, ⟨m1, q1, f1, b1, c1, d1⟩, ⟨m2, q2, f2, b2, c2, d2⟩, ⟨m3, q3, f3, b3, c3, d3⟩, a5, -, a7, a8, a9, a10, a11, a12⟩ := h
  refine ⟨(hM _ (by simp) (by simp)).trans a1, ⟨m1, q1, f1, (hM _ (by simp) (by simp)).trans b1, by rw [hM _ (by simp) (by simp)]; exact c1, d1⟩, ⟨m2, q2, f2, (hM _ (by simp) (by simp)).trans b2, by rw [hM _ (by simp) (by simp)]; exact c2, d2⟩, ⟨m3, q3, f3, (hM _ (by simp) (by simp)).trans b3, by rw [hM _ (by simp) (by simp)]; exact c3, d3⟩, (hM _ (by simp) (by simp)).trans a5, hd, a7.imp (fun q hq => (hM _ (by simp) (by simp)).trans hq), fun k hk => ?_, fun r hr => ?_, fun k hk => (hM _ (by simp) (by simp)).trans (a10 k hk), fun j hj => ?_, a12⟩
  · obtain ⟨p1, p2, p3, p4, p5⟩ := a8 k hk
    exact ⟨(hM _ (by simp) (by simp)).trans p1, (hM _ (by simp) (by simp)).trans p2, (hM _ (by simp) (by simp)).trans p3, fun j hj => (hM _ (by simp) (by simp)).trans (p4 j hj), p5⟩
  · obtain ⟨p1, p2, p3, p4⟩ := a9 r hr
    exact ⟨(hM _ (by simp) (by simp)).trans p1, (hM _ (by simp) (by simp)).trans p2, fun k hk => (hM _ (by simp) (by simp)).trans (p3 k hk), p4⟩
  · obtain ⟨p1, p2, p3⟩ := a11 j hj
    exact ⟨(hM _ (by simp) (by simp)).trans p1, (hM _ (by simp) (by simp)).trans p2, (hM _ (by simp) (by simp)).trans p3⟩
theorem c_size (l : Launch) {t tq : TG} {n : Nat} {els : Nat → Nat} (h : hasLi g ad M t tq n els) : hm_Met l yJx4a65c_size_8abf5 cJx4a65c_size_8abf5 1 (some .int) rm_Jx4a65c_size_8abf5 g ad M [.ref (ad t)] (hm_pU ad M (some (.int (nI n)))) := by
  obtain ⟨mc, q, f, h1, -, -⟩ := h
  exact c_Jx4a65c_size_8abf5 l g ad M t mc q n h1
theorem c_get (l : Launch) {t tq : TG} {n : Nat} {els : Nat → Nat} (h : hasLi g ad M t tq n els) (i : Nat) (hi : i < n) : hm_Met l yJx4a65c_get_915e3 cJx4a65c_get_915e3 2 (some (.object "java/lang/Object")) rm_Jx4a65c_get_915e3 g ad M [.ref (ad t), .int (nI i)] (hm_pU ad M (some (.ref (els i)))) := by
  obtain ⟨mc, q, f, h1, h2, h3⟩ := h
  obtain ⟨h4, h5, h6⟩ := h2.resolve_left (fun h => by omega)
  exact c_Jx4a65c_get_915e3 l g ad M t mc q n h1 tq f i (els i) h4 h5 hi h3 (h6 i hi)
end HMX
