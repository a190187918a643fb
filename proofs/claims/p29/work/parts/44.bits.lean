/-! Bits: one for each key. -/
set_option maxRecDepth 100000 in
set_option maxHeartbeats 4000000 in
theorem bc_all : (List.range 4096).all (fun q => decide (bcF (nI q) = nI (bcF (nI q)).toNatClampNeg) && (decide ((bcF (nI q)).toNatClampNeg ≤ 12) && (decide ((bcF (nI q)).toNatClampNeg = 0) == decide (q = 0)))) = true := by decide +kernel
theorem bc_ok {v : Int32} (h : nb 4095 v) : ∃ c, c ≤ 12 ∧ bcF v = nI c ∧ (c = 0 ↔ v = 0) := by
  obtain ⟨q, hq, e⟩ := h
  have h1 := List.all_eq_true.mp bc_all q (List.mem_range.mpr (by omega))
  rw [Bool.and_eq_true, Bool.and_eq_true] at h1
  obtain ⟨h2, h3, h4⟩ := h1
  refine ⟨_, of_decide_eq_true h3, by rw [e]; exact of_decide_eq_true h2, ?_⟩
  have h5 : decide ((bcF (nI q)).toNatClampNeg = 0) = decide (q = 0) := by simpa using h4
  rw [e]
  constructor
  · intro z
    rw [decide_eq_true z] at h5
    rw [of_decide_eq_true h5.symm]; rfl
  · intro z
    have : q = 0 := hm_eqI (b := 0) (by omega) (by decide) z
    rw [decide_eq_true this] at h5
    exact of_decide_eq_true h5
theorem or_ok {v : Int32} (h : nb 4095 v) {k : Nat} (hk : k < 12) : nb 4095 (v ||| 1 <<< (nI k &&& 31)) := by
  obtain ⟨q, hq, e⟩ := h
  have e1 : (1 : Int32) <<< (nI k &&& 31) = nI (2 ^ k) := by
    rcases (show k = 0 ∨ k = 1 ∨ k = 2 ∨ k = 3 ∨ k = 4 ∨ k = 5 ∨ k = 6 ∨ k = 7 ∨ k = 8 ∨ k = 9 ∨ k = 10 ∨ k = 11 by omega) with z | z | z | z | z | z | z | z | z | z | z | z <;> subst z <;> decide
  refine ⟨q ||| 2 ^ k, ?_, ?_⟩
  · have : q ||| 2 ^ k < 2 ^ 12 := Nat.or_lt_two_pow (by omega) (Nat.pow_lt_pow_right (by decide) hk)
    omega
  · rw [e, e1]
    apply Int32.toBitVec_inj.mp
    show BitVec.ofNat 32 q ||| BitVec.ofNat 32 (2 ^ k) = BitVec.ofNat 32 (q ||| 2 ^ k)
    exact BitVec.ofNat_or.symm
theorem cg_ok {f : Nat → Int32} (h : ∀ r, r < 6 → nb 4095 (f r)) : 0 < cgF f ↔ ∃ r, r < 6 ∧ ¬ f r = 0 := by
  obtain ⟨c0, a0, b0, d0⟩ := bc_ok (h 0 (by decide))
  obtain ⟨c1, a1, b1, d1⟩ := bc_ok (h 1 (by decide))
  obtain ⟨c2, a2, b2, d2⟩ := bc_ok (h 2 (by decide))
  obtain ⟨c3, a3, b3, d3⟩ := bc_ok (h 3 (by decide))
  obtain ⟨c4, a4, b4, d4⟩ := bc_ok (h 4 (by decide))
  obtain ⟨c5, a5, b5, d5⟩ := bc_ok (h 5 (by decide))
  have e : cgF f = nI (c0 + c1 + c2 + c3 + c4 + c5) := by
    rw [cgF, b0, b1, b2, b3, b4, b5, Int32.zero_add, nI_add, nI_add, nI_add, nI_add, nI_add]
  rw [e]
  constructor
  · intro hp
    have hs : 0 < c0 + c1 + c2 + c3 + c4 + c5 := hm_ltI (a := 0) (by decide) (by omega) hp
    by_cases z0 : c0 = 0
    · by_cases z1 : c1 = 0
      · by_cases z2 : c2 = 0
        · by_cases z3 : c3 = 0
          · by_cases z4 : c4 = 0
            · exact ⟨5, by decide, fun q => by have := d5.mpr q; omega⟩
            · exact ⟨4, by decide, fun q => z4 (d4.mpr q)⟩
          · exact ⟨3, by decide, fun q => z3 (d3.mpr q)⟩
        · exact ⟨2, by decide, fun q => z2 (d2.mpr q)⟩
      · exact ⟨1, by decide, fun q => z1 (d1.mpr q)⟩
    · exact ⟨0, by decide, fun q => z0 (d0.mpr q)⟩
  · rintro ⟨r, hr, hn⟩
    refine nI_lt (a := 0) ?_ (by omega)
    rcases (show r = 0 ∨ r = 1 ∨ r = 2 ∨ r = 3 ∨ r = 4 ∨ r = 5 by omega) with z | z | z | z | z | z <;> subst z
    · have z9 : ¬ c0 = 0 := fun q => hn (d0.mp q); omega
    · have z9 : ¬ c1 = 0 := fun q => hn (d1.mp q); omega
    · have z9 : ¬ c2 = 0 := fun q => hn (d2.mp q); omega
    · have z9 : ¬ c3 = 0 := fun q => hn (d3.mp q); omega
    · have z9 : ¬ c4 = 0 := fun q => hn (d4.mp q); omega
    · have z9 : ¬ c5 = 0 := fun q => hn (d5.mp q); omega
