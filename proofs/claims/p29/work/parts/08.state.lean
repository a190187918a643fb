/-! What the cells hold, as values; what each method answers, as a function of them. -/
def bI (b : Bool) : Int32 := if b then 1 else 0
theorem bI_01 (b : Bool) : bI b = 0 ∨ bI b = 1 := by cases b <;> simp [bI]
theorem bI_0 {b : Bool} : bI b = 0 ↔ b = false := by cases b <;> decide
theorem bI_ne {b : Bool} : ¬ bI b = 0 ↔ b = true := by cases b <;> decide
/-- an alert: state, since, ticksNotBeyond -/
abbrev AlD : Type := Int32 × Int32 × Int32
abbrev alE (a : AlD) : va_E := .inr (1, [.int a.1, .int a.2.1, .int a.2.2])
def riseA (a : AlD) (clk : Int32) : Int32 × Int32 := if a.1 = 0 then (1, clk) else (a.1, a.2.1)
def riseF (a : AlD) (wait clk : Int32) : AlD := if (riseA a clk).1 = 1 ∧ ¬ clk - (riseA a clk).2 < wait then (2, clk, 0) else ((riseA a clk).1, (riseA a clk).2, 0)
def fallF (a : AlD) : AlD := if ¬ a.1 = 2 ∨ ¬ a.2.2 + 1 < 3 then (0, -1, a.2.2 + 1) else (a.1, a.2.1, a.2.2 + 1)
def stepF (a : AlD) (b : Bool) (wait clk : Int32) : AlD := if b then riseF a wait clk else fallF a
/-- a hush: rule, place, till -/
abbrev HuD : Type := Int32 × Int32 × Int32
abbrev huE (h : HuD) : va_E := .inr (3, [.int h.1, .int h.2.1, .int h.2.2])
def covF (h : HuD) (ru pl clk : Int32) : Bool := decide (clk < h.2.2) && (decide (h.1 = -1) || decide (h.1 = ru)) && (decide (h.2.1 = -1) || decide (h.2.1 = pl))
def mxI (x y : Int32) : Int32 := if x < y then y else x
def mnI (x y : Int32) : Int32 := if y < x then y else x
/-- a list: modCount, the array's address, size -/
abbrev liE (mc : Int32) (q : Nat) (n : Nat) : va_E := .inr (0, [.int mc, .ref q, .int (nI n)])
/-- a series: kind, metric, place, present, rows, latest, held -/
abbrev SeD : Type := Int32 × Int32 × Int32 × (Nat → Int32) × (Nat → Nat → Int32) × Nat × Nat
def sKi (s : SeD) : Int32 := s.1
def sMe (s : SeD) : Int32 := s.2.1
def sPl (s : SeD) : Int32 := s.2.2.1
def sPr (s : SeD) : Nat → Int32 := s.2.2.2.1
def sRo (s : SeD) : Nat → Nat → Int32 := s.2.2.2.2.1
def sLa (s : SeD) : Nat := s.2.2.2.2.2.1
def sHe (s : SeD) : Nat := s.2.2.2.2.2.2
abbrev seE (ad : AD) (i : Nat) (s : SeD) : va_E := .inr (6, [.int (nI i), .int (sKi s), .int (sMe s), .int (sPl s), .ref (ad (11, i, 0)), .ref (ad (12, i, 0)), .int (nI (sLa s)), .int (nI (sHe s))])
def rowsA (ad : AD) (i : Nat) : Nat → Option Nat := fun j => if j < 13 then some (ad (13, i, j)) else none
def hasSe (g : GV) (ad : AD) (M : CT) (i : Nat) (s : SeD) : Prop := M (10, i, 0) = some (seE ad i s) ∧ M (11, i, 0) = some (hm_ia g 6 (sPr s)) ∧ M (12, i, 0) = some (hm_ra g 4 13 (rowsA ad i)) ∧ (∀ j, j < 13 → M (13, i, j) = some (hm_ia g 6 (sRo s j))) ∧ sLa s < 13 ∧ sHe s ≤ 13 ∧ i < 12
/-- the value of column k, b samples back, if a more had been taken -/
def pastF (s : SeD) (k b a : Nat) : Int32 := if b < a then sPr s k else if sHe s ≤ b - a then 0 else sRo s ((sLa s + 13 - (b - a)) % 13) k
def grStep (s : SeD) (k a b : Nat) : Int32 := if pastF s k b a - pastF s k (b + 1) a < 0 then pastF s k b a else pastF s k b a - pastF s k (b + 1) a
def grL (s : SeD) (k a : Nat) : Nat → Int32 → Int32
  | 0, acc => acc
  | b + 1, acc => grL s k a b (acc + grStep s k a b)
def grF (s : SeD) (k w a : Nat) : Int32 := grL s k a (min (w + 1) (sHe s + a) - 1) 0
def sumF (s : SeD) (a : Nat) : Nat → Int32
  | 0 => 0
  | b + 1 => sumF s a b + pastF s 0 b a
def meanF (s : SeD) (w a : Nat) : Int32 := if min w (sHe s + a) = 0 then 0 else sumF s a (min w (sHe s + a)) / nI (min w (sHe s + a))
def utL (s : SeD) (a : Nat) (mo : Bool) : Nat → Int32
  | 0 => pastF s 0 0 a
  | b + 1 => if mo then mxI (utL s a mo b) (pastF s 0 (b + 1) a) else mnI (utL s a mo b) (pastF s 0 (b + 1) a)
def utF (s : SeD) (w a : Nat) (mo : Bool) : Int32 := utL s a mo (min w (sHe s + a) - 1)
def cntF (s : SeD) (w a : Nat) : Nat → Int32
  | 0 => 0
  | k + 1 => cntF s w a k + grF s (k + 1) w a
def partL (s : SeD) (w a : Nat) (r : Int32) : Nat → Nat → Int32 → Int32
  | 0, _, _ => 500
  | n + 1, k, re => if 0 < grF s k w a ∧ r ≤ re + grF s k w a then hm_eN (k - 1) + (hm_eN k - hm_eN (k - 1)) * (r - re) / grF s k w a else partL s w a r n (k + 1) (re + grF s k w a)
def partF (s : SeD) (q : Int32) (w a : Nat) : Int32 := if cntF s w a 5 = 0 then 0 else partL s w a ((q * cntF s w a 5 + 99) / 100) 4 1 0
def lookF (s : SeD) (lk w a : Nat) : Int32 := if lk = 0 then pastF s 0 0 a else if lk = 1 then grF s 0 w a else if lk = 2 then meanF s w a else if lk = 3 then utF s w a true else if lk = 4 then utF s w a false else if sKi s = 2 then partF s (hm_pN (lk - 5)) w a else 0
/-- a rule: metric, look, w, way, above, limit, wait, rank -/
abbrev RuD : Type := Int32 × Nat × Nat × Nat × Bool × Int32 × Int32 × Int32
def rMe (r : RuD) : Int32 := r.1
def rLo (r : RuD) : Nat := r.2.1
def rW (r : RuD) : Nat := r.2.2.1
def rWa (r : RuD) : Nat := r.2.2.2.1
def rAb (r : RuD) : Bool := r.2.2.2.2.1
def rLi (r : RuD) : Int32 := r.2.2.2.2.2.1
def rWt (r : RuD) : Int32 := r.2.2.2.2.2.2.1
def rRk (r : RuD) : Int32 := r.2.2.2.2.2.2.2
abbrev ruE (ad : AD) (r : Nat) (u : RuD) : va_E := .inr (5, [.int (nI r), .int (rMe u), .int (nI (rLo u)), .int (nI (rW u)), .int (nI (rWa u)), .int (bI (rAb u)), .int (rLi u), .int (rWt u), .int (rRk u), .ref (ad (21, r, 0))])
def alsA (ad : AD) (r : Nat) : Nat → Option Nat := fun k => if k < 12 then some (ad (22, r, k)) else none
def tkF (u : RuD) (i : Nat) (s : SeD) (key : Nat) : Bool := decide (sMe s = rMe u) && (if rWa u = 0 then decide (i = key) else if rWa u = 1 then decide (sPl s = nI key) else decide (key = 0))
def byF (u : RuD) (v b : Int32) : Bool := if rAb u then decide (b < v) else decide (v < b)
