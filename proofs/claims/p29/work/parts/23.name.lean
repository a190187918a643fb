/-! The object under other addresses: what is kept is the same; one more series, rule or hush. -/
section HMF
variable {g : GV} {ad ad2 ad3 : AD} {M M2 M3 : CT} {S : TG → Prop}
theorem hasGr.fr {j : Nat} {d : GrD} (h : hasGr g ad M j d) (f : hm_fr ad M ad2 M2 S) (hs : ∀ u : TG, (u.1 = 60 ∨ u.1 = 61 ∨ u.1 = 62) ∧ u.2.1 = j → ¬ S u) : hasGr g ad2 M2 j d := by
  obtain ⟨h1, h2, h3⟩ := h
  have k1 := f (60, j, 0) (hs _ (by simp))
  have k2 := f (61, j, 0) (hs _ (by simp))
  have k3 := f (62, j, 0) (hs _ (by simp))
  exact ⟨by rw [k1.2, h1, grE, grE, k2.1, k3.1], k2.2.trans h2, k3.2.trans h3⟩
theorem hasLg.fr {d : LgD} (h : hasLg g ad M d) (f : hm_fr ad M ad2 M2 S) (hs : ∀ u : TG, u.1 = 8 ∨ u.1 = 9 ∨ u.1 = 51 → ¬ S u) : hasLg g ad2 M2 d := by
  obtain ⟨h1, h2, h3, h4⟩ := h
  have k1 := f (8, 0, 0) (hs _ (by simp))
  have k2 := f (9, 0, 0) (hs _ (by simp))
  have k3 : ∀ j, ad2 (51, j, 0) = ad (51, j, 0) ∧ M2 (51, j, 0) = M (51, j, 0) := fun j => f (51, j, 0) (hs _ (by simp))
  have e : rows30 ad2 = rows30 ad := by funext j; rw [rows30, rows30, (k3 j).1]
  exact ⟨by rw [k1.2, h1, lgE, lgE, k2.1], by rw [k2.2, h2, e], fun j hj => (k3 j).2.trans (h3 j hj), h4⟩
theorem hasSe.fr {i : Nat} {d : SeD} (h : hasSe g ad M i d) (f : hm_fr ad M ad2 M2 S) (hs : ∀ u : TG, (u.1 = 10 ∨ u.1 = 11 ∨ u.1 = 12 ∨ u.1 = 13) ∧ u.2.1 = i → ¬ S u) : hasSe g ad2 M2 i d := by
  obtain ⟨h0, h1, h2, h3, h4⟩ := h
  have k0 := f (10, i, 0) (hs _ (by simp))
  have k1 := f (11, i, 0) (hs _ (by simp))
  have k2 := f (12, i, 0) (hs _ (by simp))
  have k3 : ∀ j, ad2 (13, i, j) = ad (13, i, j) ∧ M2 (13, i, j) = M (13, i, j) := fun j => f (13, i, j) (hs _ (by simp))
  have e : rowsA ad2 i = rowsA ad i := by funext j; rw [rowsA, rowsA, (k3 j).1]
  exact ⟨by rw [k0.2, h0, seE, seE, k1.1, k2.1], k1.2.trans h1, by rw [k2.2, h2, e], fun j hj => (k3 j).2.trans (h3 j hj), h4⟩
theorem hasRu.fr {r : Nat} {d : RuD} {al : Nat → AlD} (h : hasRu g ad M r d al) (f : hm_fr ad M ad2 M2 S) (hs : ∀ u : TG, (u.1 = 20 ∨ u.1 = 21 ∨ u.1 = 22) ∧ u.2.1 = r → ¬ S u) : hasRu g ad2 M2 r d al := by
  obtain ⟨h0, h1, h2, h4⟩ := h
  have k0 := f (20, r, 0) (hs _ (by simp))
  have k1 := f (21, r, 0) (hs _ (by simp))
  have k3 : ∀ j, ad2 (22, r, j) = ad (22, r, j) ∧ M2 (22, r, j) = M (22, r, j) := fun j => f (22, r, j) (hs _ (by simp))
  have e : alsA ad2 r = alsA ad r := by funext j; rw [alsA, alsA, (k3 j).1]
  exact ⟨by rw [k0.2, h0, ruE, ruE, k1.1], by rw [k1.2, h1, e], fun j hj => (k3 j).2.trans (h2 j hj), h4⟩
theorem hasLi.fr {t tq : TG} {n : Nat} {els els2 : Nat → Nat} (h : hasLi g ad M t tq n els) (f : hm_fr ad M ad2 M2 S) (h1 : ¬ S t) (h2 : ¬ S tq) (he : ∀ k, k < n → els k = els2 k) : hasLi g ad2 M2 t tq n els2 := by
  obtain ⟨mc, q, fn, p1, p2, p3⟩ := h
  refine ⟨mc, q, fn, (f t h1).2.trans p1, ?_, p3⟩
  rcases p2 with ⟨a, b⟩ | ⟨a, b, c⟩
  · exact Or.inl ⟨a, b⟩
  · exact Or.inr ⟨(f tq h2).1.trans a, (f tq h2).2.trans b, fun k hk => (c k hk).trans (by rw [he k hk])⟩
theorem ru_has {r : Nat} {u u2 : RuD} {al : Nat → AlD} (h : hasRu g ad M r u al) (h1 : rLo u2 < 9) (h2 : rW u2 ≤ 12) (h3 : rWa u2 < 3) : hasRu g ad (hm_up M (20, r, 0) (ruE ad r u2)) r u2 al := by
  obtain ⟨b1, b2, b3, b4, -⟩ := h
  exact ⟨hm_up_s, (hm_up_n (by simp)).trans b2, fun k1 hk => (hm_up_n (by simp)).trans (b3 k1 hk), b4, h1, h2, h3⟩
def addS (x : XD) (s : SeD) : XD := (xS x + 1, fun k => if k = xS x then s else xSe x k, xR x, xRu x, xAl x, xH x, xHu x, xGr x, xL x, xQ x, xC x, xG x, xP x)
def addR (x : XD) (u : RuD) : XD := (xS x, xSe x, xR x + 1, fun k => if k = xR x then u else xRu x k, fun r k => if r = xR x then (0, -1, 0) else xAl x r k, xH x, xHu x, xGr x, xL x, xQ x, xC x, xG x, xP x)
def addH (x : XD) (h : HuD) : XD := (xS x, xSe x, xR x, xRu x, xAl x, xH x + 1, fun k => if k = xH x then h else xHu x k, xGr x, xL x, xQ x, xC x, xG x, xP x)
variable {x : XD}
theorem hasX.addS (h : hasX g ad M x) (s : SeD) {q : Nat} (f1 : hm_fr ad M ad2 M2 (fun u => (u.1 = 10 ∨ u.1 = 11 ∨ u.1 = 12 ∨ u.1 = 13) ∧ u.2.1 = xS x)) (f2 : hm_fr ad2 M2 ad3 M3 (fun u => u = (1, 0, 0) ∨ u = (4, 0, 0))) (h1 : ad3 (1, 0, 0) = ad2 (1, 0, 0)) (hse : hasSe g ad2 M2 (xS x) s) (hq : ad2 (10, xS x, 0) = q) (hli : hasLi g ad3 M3 (1, 0, 0) (4, 0, 0) (xS x + 1) (fun k => if k = xS x then q else ad (10, k, 0))) (hn : xS x < 6) : hasX g ad3 M3 (addS x s) ∧ ad3 (0, 0, 0) = ad (0, 0, 0) ∧ ∀ u : TG, 80 ≤ u.1 → ad3 u = ad u ∧ M3 u = M u := by
  obtain ⟨a1, a2, a3, a4, a5, a6, a7, a8, a9, a10, a11, b1, b2, b3⟩ := h
  have f3 : hm_fr ad M ad3 M3 (fun u => (fun u => (u.1 = 10 ∨ u.1 = 11 ∨ u.1 = 12 ∨ u.1 = 13) ∧ u.2.1 = xS x) u ∨ (fun u => u = (1, 0, 0) ∨ u = (4, 0, 0)) u) := fun u hu => by
    have k1 := f1 u (fun q => hu (Or.inl q))
    have k2 := f2 u (fun q => hu (Or.inr q))
    exact ⟨k2.1.trans k1.1, k2.2.trans k1.2⟩
  have hl : ad3 (1, 0, 0) = ad (1, 0, 0) := h1.trans (f1 _ (by simp)).1
  have r1 : ad3 (1, 0, 0) = ad (1, 0, 0) := hl
  have r2 : ad3 (2, 0, 0) = ad (2, 0, 0) := (f3 _ (by simp)).1
  have r3 : ad3 (3, 0, 0) = ad (3, 0, 0) := (f3 _ (by simp)).1
  have r7 : ad3 (7, 0, 0) = ad (7, 0, 0) := (f3 _ (by simp)).1
  have r8 : ad3 (8, 0, 0) = ad (8, 0, 0) := (f3 _ (by simp)).1
  have r70 : ad3 (70, 0, 0) = ad (70, 0, 0) := (f3 _ (by simp)).1
  have eg : grpA ad3 = grpA ad := by funext j; rw [grpA, grpA, (f3 (60, j, 0) (by simp)).1]
  have hel : ∀ k, k < xS x + 1 → (if k = xS x then q else ad (10, k, 0)) = ad3 (10, k, 0) := fun k hk => by
    by_cases h : k = xS x
    · rw [if_pos h, h, (f2 (10, xS x, 0) (by simp)).1, hq]
    · rw [if_neg h, (f3 (10, k, 0) (by simp [h])).1]
  refine ⟨⟨by rw [(f3 (0, 0, 0) (by simp)).2, a1, xE, xE, r1, r2, r3, r7, r8, r70]; rfl, ?_, ?_, ?_, by rw [(f3 (7, 0, 0) (by simp)).2, a5, eg], a6.fr f3 (by rintro ⟨u1, u2, u3⟩ hu hs; simp only [Prod.mk.injEq] at hu hs; omega), a7.imp (fun q hq => (f3 (70, 0, 0) (by simp)).2.trans hq), ?_, ?_, ?_, fun j hj => (a11 j hj).fr f3 (by rintro ⟨u1, u2, u3⟩ hu hs; simp only [Prod.mk.injEq] at hu hs; omega), ?_, ?_, ?_⟩, (f3 (0, 0, 0) (by simp)).1, fun u hu => f3 u (by obtain ⟨u1, u2, u3⟩ := u; intro hs; simp only [Prod.mk.injEq] at hu hs; omega)⟩
  · obtain ⟨mc, q0, fn, p1, p2, p3⟩ := hli
    exact ⟨mc, q0, fn, p1, p2.imp id (fun h => ⟨h.1, h.2.1, fun k hk => (h.2.2 k hk).trans (congrArg some (hel k hk))⟩), p3⟩
  · exact a3.fr f3 (by simp) (by simp) (fun k hk => ((f3 (20, k, 0) (by simp)).1).symm)
  · exact a4.fr f3 (by simp) (by simp) (fun k hk => ((f3 (30, k, 0) (by simp)).1).symm)
  · intro i hi
    show hasSe g ad3 M3 i (if i = xS x then s else xSe x i)
    by_cases h : i = xS x
    · rw [if_pos h, h]
      exact hse.fr f2 (by rintro ⟨u1, u2, u3⟩ hu hs; simp only [Prod.mk.injEq] at hu hs; omega)
    · rw [if_neg h]
      exact (a8 i (by have h9 : i < xS x + 1 := hi; omega)).fr f3 (by rintro ⟨u1, u2, u3⟩ hu hs; simp only [Prod.mk.injEq] at hu hs; omega)
  · exact fun i hi => (a9 i hi).fr f3 (by rintro ⟨u1, u2, u3⟩ hu hs; simp only [Prod.mk.injEq] at hu hs; omega)
  · exact fun i hi => (f3 (30, i, 0) (by simp)).2.trans (a10 i hi)
  · show xS x + 1 ≤ 6; omega
  · exact b2
  · exact b3
theorem hasX.addR (h : hasX g ad M x) (s : RuD) {q : Nat} (f1 : hm_fr ad M ad2 M2 (fun u => (u.1 = 20 ∨ u.1 = 21 ∨ u.1 = 22) ∧ u.2.1 = xR x)) (f2 : hm_fr ad2 M2 ad3 M3 (fun u => u = (2, 0, 0) ∨ u = (5, 0, 0))) (h1 : ad3 (2, 0, 0) = ad2 (2, 0, 0)) (hse : hasRu g ad2 M2 (xR x) s (fun _ => (0, -1, 0))) (hq : ad2 (20, xR x, 0) = q) (hli : hasLi g ad3 M3 (2, 0, 0) (5, 0, 0) (xR x + 1) (fun k => if k = xR x then q else ad (20, k, 0))) (hn : xR x < 6) : hasX g ad3 M3 (addR x s) ∧ ad3 (0, 0, 0) = ad (0, 0, 0) ∧ ∀ u : TG, 80 ≤ u.1 → ad3 u = ad u ∧ M3 u = M u := by
  obtain ⟨a1, a2, a3, a4, a5, a6, a7, a8, a9, a10, a11, b1, b2, b3⟩ := h
  have f3 : hm_fr ad M ad3 M3 (fun u => (fun u => (u.1 = 20 ∨ u.1 = 21 ∨ u.1 = 22) ∧ u.2.1 = xR x) u ∨ (fun u => u = (2, 0, 0) ∨ u = (5, 0, 0)) u) := fun u hu => by
    have k1 := f1 u (fun q => hu (Or.inl q))
    have k2 := f2 u (fun q => hu (Or.inr q))
    exact ⟨k2.1.trans k1.1, k2.2.trans k1.2⟩
  have hl : ad3 (2, 0, 0) = ad (2, 0, 0) := h1.trans (f1 _ (by simp)).1
  have r1 : ad3 (1, 0, 0) = ad (1, 0, 0) := (f3 _ (by simp)).1
  have r2 : ad3 (2, 0, 0) = ad (2, 0, 0) := hl
  have r3 : ad3 (3, 0, 0) = ad (3, 0, 0) := (f3 _ (by simp)).1
  have r7 : ad3 (7, 0, 0) = ad (7, 0, 0) := (f3 _ (by simp)).1
  have r8 : ad3 (8, 0, 0) = ad (8, 0, 0) := (f3 _ (by simp)).1
  have r70 : ad3 (70, 0, 0) = ad (70, 0, 0) := (f3 _ (by simp)).1
  have eg : grpA ad3 = grpA ad := by funext j; rw [grpA, grpA, (f3 (60, j, 0) (by simp)).1]
  have hel : ∀ k, k < xR x + 1 → (if k = xR x then q else ad (20, k, 0)) = ad3 (20, k, 0) := fun k hk => by
    by_cases h : k = xR x
    · rw [if_pos h, h, (f2 (20, xR x, 0) (by simp)).1, hq]
    · rw [if_neg h, (f3 (20, k, 0) (by simp [h])).1]
  refine ⟨⟨by rw [(f3 (0, 0, 0) (by simp)).2, a1, xE, xE, r1, r2, r3, r7, r8, r70]; rfl, ?_, ?_, ?_, by rw [(f3 (7, 0, 0) (by simp)).2, a5, eg], a6.fr f3 (by rintro ⟨u1, u2, u3⟩ hu hs; simp only [Prod.mk.injEq] at hu hs; omega), a7.imp (fun q hq => (f3 (70, 0, 0) (by simp)).2.trans hq), ?_, ?_, ?_, fun j hj => (a11 j hj).fr f3 (by rintro ⟨u1, u2, u3⟩ hu hs; simp only [Prod.mk.injEq] at hu hs; omega), ?_, ?_, ?_⟩, (f3 (0, 0, 0) (by simp)).1, fun u hu => f3 u (by obtain ⟨u1, u2, u3⟩ := u; intro hs; simp only [Prod.mk.injEq] at hu hs; omega)⟩
  · exact a2.fr f3 (by simp) (by simp) (fun k hk => ((f3 (10, k, 0) (by simp)).1).symm)
  · obtain ⟨mc, q0, fn, p1, p2, p3⟩ := hli
    exact ⟨mc, q0, fn, p1, p2.imp id (fun h => ⟨h.1, h.2.1, fun k hk => (h.2.2 k hk).trans (congrArg some (hel k hk))⟩), p3⟩
  · exact a4.fr f3 (by simp) (by simp) (fun k hk => ((f3 (30, k, 0) (by simp)).1).symm)
  · exact fun i hi => (a8 i hi).fr f3 (by rintro ⟨u1, u2, u3⟩ hu hs; simp only [Prod.mk.injEq] at hu hs; omega)
  · intro i hi
    show hasRu g ad3 M3 i (if i = xR x then s else xRu x i) (fun k => if i = xR x then (0, -1, 0) else xAl x i k)
    by_cases h : i = xR x
    · have e9 : (fun k => if i = xR x then ((0, -1, 0) : AlD) else xAl x i k) = fun _ => (0, -1, 0) := by funext k; rw [if_pos h]
      rw [if_pos h, e9, h]
      exact hse.fr f2 (by rintro ⟨u1, u2, u3⟩ hu hs; simp only [Prod.mk.injEq] at hu hs; omega)
    · have e9 : (fun k => if i = xR x then ((0, -1, 0) : AlD) else xAl x i k) = xAl x i := by funext k; rw [if_neg h]
      rw [if_neg h, e9]
      exact (a9 i (by have h9 : i < xR x + 1 := hi; omega)).fr f3 (by rintro ⟨u1, u2, u3⟩ hu hs; simp only [Prod.mk.injEq] at hu hs; omega)
  · exact fun i hi => (f3 (30, i, 0) (by simp)).2.trans (a10 i hi)
  · exact b1
  · show xR x + 1 ≤ 6; omega
  · exact b3
theorem hasX.addH (h : hasX g ad M x) (s : HuD) {q : Nat} (f1 : hm_fr ad M ad2 M2 (fun u => u = (30, xH x, 0))) (f2 : hm_fr ad2 M2 ad3 M3 (fun u => u = (3, 0, 0) ∨ u = (6, 0, 0))) (h1 : ad3 (3, 0, 0) = ad2 (3, 0, 0)) (hse : M2 (30, xH x, 0) = some (huE s)) (hq : ad2 (30, xH x, 0) = q) (hli : hasLi g ad3 M3 (3, 0, 0) (6, 0, 0) (xH x + 1) (fun k => if k = xH x then q else ad (30, k, 0))) (hn : xH x < 5) : hasX g ad3 M3 (addH x s) ∧ ad3 (0, 0, 0) = ad (0, 0, 0) ∧ ∀ u : TG, 80 ≤ u.1 → ad3 u = ad u ∧ M3 u = M u := by
  obtain ⟨a1, a2, a3, a4, a5, a6, a7, a8, a9, a10, a11, b1, b2, b3⟩ := h
  have f3 : hm_fr ad M ad3 M3 (fun u => (fun u => u = (30, xH x, 0)) u ∨ (fun u => u = (3, 0, 0) ∨ u = (6, 0, 0)) u) := fun u hu => by
    have k1 := f1 u (fun q => hu (Or.inl q))
    have k2 := f2 u (fun q => hu (Or.inr q))
    exact ⟨k2.1.trans k1.1, k2.2.trans k1.2⟩
  have hl : ad3 (3, 0, 0) = ad (3, 0, 0) := h1.trans (f1 _ (by simp)).1
  have r1 : ad3 (1, 0, 0) = ad (1, 0, 0) := (f3 _ (by simp)).1
  have r2 : ad3 (2, 0, 0) = ad (2, 0, 0) := (f3 _ (by simp)).1
  have r3 : ad3 (3, 0, 0) = ad (3, 0, 0) := hl
  have r7 : ad3 (7, 0, 0) = ad (7, 0, 0) := (f3 _ (by simp)).1
  have r8 : ad3 (8, 0, 0) = ad (8, 0, 0) := (f3 _ (by simp)).1
  have r70 : ad3 (70, 0, 0) = ad (70, 0, 0) := (f3 _ (by simp)).1
  have eg : grpA ad3 = grpA ad := by funext j; rw [grpA, grpA, (f3 (60, j, 0) (by simp)).1]
  have hel : ∀ k, k < xH x + 1 → (if k = xH x then q else ad (30, k, 0)) = ad3 (30, k, 0) := fun k hk => by
    by_cases h : k = xH x
    · rw [if_pos h, h, (f2 (30, xH x, 0) (by simp)).1, hq]
    · rw [if_neg h, (f3 (30, k, 0) (by simp [h])).1]
  refine ⟨⟨by rw [(f3 (0, 0, 0) (by simp)).2, a1, xE, xE, r1, r2, r3, r7, r8, r70]; rfl, ?_, ?_, ?_, by rw [(f3 (7, 0, 0) (by simp)).2, a5, eg], a6.fr f3 (by rintro ⟨u1, u2, u3⟩ hu hs; simp only [Prod.mk.injEq] at hu hs; omega), a7.imp (fun q hq => (f3 (70, 0, 0) (by simp)).2.trans hq), ?_, ?_, ?_, fun j hj => (a11 j hj).fr f3 (by rintro ⟨u1, u2, u3⟩ hu hs; simp only [Prod.mk.injEq] at hu hs; omega), ?_, ?_, ?_⟩, (f3 (0, 0, 0) (by simp)).1, fun u hu => f3 u (by obtain ⟨u1, u2, u3⟩ := u; intro hs; simp only [Prod.mk.injEq] at hu hs; omega)⟩
  · exact a2.fr f3 (by simp) (by simp) (fun k hk => ((f3 (10, k, 0) (by simp)).1).symm)
  · exact a3.fr f3 (by simp) (by simp) (fun k hk => ((f3 (20, k, 0) (by simp)).1).symm)
  · obtain ⟨mc, q0, fn, p1, p2, p3⟩ := hli
    exact ⟨mc, q0, fn, p1, p2.imp id (fun h => ⟨h.1, h.2.1, fun k hk => (h.2.2 k hk).trans (congrArg some (hel k hk))⟩), p3⟩
  · exact fun i hi => (a8 i hi).fr f3 (by rintro ⟨u1, u2, u3⟩ hu hs; simp only [Prod.mk.injEq] at hu hs; omega)
  · exact fun i hi => (a9 i hi).fr f3 (by rintro ⟨u1, u2, u3⟩ hu hs; simp only [Prod.mk.injEq] at hu hs; omega)
  · intro i hi
    show M3 (30, i, 0) = some (huE (if i = xH x then s else xHu x i))
    by_cases h : i = xH x
    · rw [if_pos h, h, (f2 (30, xH x, 0) (by simp)).2]
      exact hse
    · rw [if_neg h, (f3 (30, i, 0) (by simp [h])).2]
      exact a10 i (by have h9 : i < xH x + 1 := hi; omega)
  · exact b1
  · exact b2
  · show xH x + 1 ≤ 5; omega
theorem c_addA (l : Launch) {t tq : TG} {n a : Nat} {els : Nat → Nat} (ha : ad t = a) (h : hasLi g ad M t tq n els) (hne : tq ≠ t) (hn : n < 10) (tv : TG) (v ci : Nat) (vs : List Value) (C : String) (T : u_T) (N : Nat) (hv1 : tv ≠ t) (hv2 : tv ≠ tq) (hv : M tv = some (.inr (ci, vs))) (hav : ad tv = v) (hc : vwCl[ci]? = some (C, T, N)) (hca : Cond.castable C "java/lang/Object" ∈ hm_nst) : hm_Met l yJx4a65c_add_9ea2d cJx4a65c_add_9ea2d 2 (some .boolean) rm_Jx4a65c_add_9ea2d_A g ad M [.ref a, .ref v] (fun w ad1 M1 => w = some (.int 1) ∧ hasLi g ad1 M1 t tq (n + 1) (fun k => if k = n then v else els k) ∧ ad1 t = ad t ∧ hm_fr ad M ad1 M1 (fun u => u = t ∨ u = tq)) := by
  subst ha
  exact c_add l h hne hn tv v ci vs C T N hv1 hv2 hv hav hc hca
end HMF
