theorem hix51 : ∀ (u v : TG) (j : Nat), (fun u : TG => if u.1 = 51 ∧ u.2.2 = 0 then some u.2.1 else none) u = some j → (fun u : TG => if u.1 = 51 ∧ u.2.2 = 0 then some u.2.1 else none) v = some j → u = v := by
  intro u v j h1 h2
  obtain ⟨u1, u2, u3⟩ := u
  obtain ⟨v1, v2, v3⟩ := v
  by_cases h3 : u1 = 51 ∧ u3 = 0 <;> by_cases h4 : v1 = 51 ∧ v3 = 0 <;> simp_all
theorem hix13 (i : Nat) : ∀ (u v : TG) (j : Nat), (fun u : TG => if u.1 = 13 ∧ u.2.1 = i then some u.2.2 else none) u = some j → (fun u : TG => if u.1 = 13 ∧ u.2.1 = i then some u.2.2 else none) v = some j → u = v := by
  intro u v j h1 h2
  obtain ⟨u1, u2, u3⟩ := u
  obtain ⟨v1, v2, v3⟩ := v
  by_cases h3 : u1 = 13 ∧ u2 = i <;> by_cases h4 : v1 = 13 ∧ v2 = i <;> simp_all
theorem hrows30 {ad : AD} {rr : Nat → Nat} (h : ∀ j, j < 30 → ad (51, j, 0) = rr j) : (fun i => if i < 30 then some (rr i) else none) = rows30 ad := by
  funext j
  rw [rows30]
  by_cases hj : j < 30
  · rw [if_pos hj, if_pos hj, h j hj]
  · rw [if_neg hj, if_neg hj]
theorem hrows13 {ad : AD} {i : Nat} {rr : Nat → Nat} (h : ∀ j, j < 13 → ad (13, i, j) = rr j) : (fun i => if i < 13 then some (rr i) else none) = rowsA ad i := by
  funext j
  rw [rowsA]
  by_cases hj : j < 13
  · rw [if_pos hj, if_pos hj, h j hj]
  · rw [if_neg hj, if_neg hj]

abbrev rm_X0_init : Room := { frames := 1, cells := 0, slots := 0, locals := 12 }
set_option maxHeartbeats 4000000 in
set_option maxRecDepth 100000 in
theorem c_X0_init (l : Launch) (g : GV) (ad : AD) (M : CT) (t : TG) (a : Nat) (ha : ad t = a) (h1 : M t = some (.inr (1, [.int 0, .int 0, .int 0]))) : hm_Met l yX0_init cX0_init 1 none rm_X0_init g ad M [.ref a] (hm_pU ad (hm_up M t (alE (0, -1, 0))) none) := by
  refine hm_start (own := RX0) (by decide) rfl (Nat.le_of_ble_eq_true rfl) ?_
  intro p e s m args below meth c S hr hlk hnm hE hG ls hl
  have hl : lv_has ls 1 [(0, .ref a)] := hl
  refine lv_aload_n S.1 S.2.1 dX0_init_0 rfl (lv_at hl 0 rfl) ?_
  refine hm_obj S hb_67 hb_11 hb_12 hl.1 dX0_init_1 (Nat.le_of_ble_eq_true rfl) (Nat.le_of_ble_eq_true rfl) ?_
  refine lv_aload_n S.1 S.2.1 dX0_init_4 rfl (lv_at hl 0 rfl) ?_
  refine lv_iconst (v := 0) S.1 S.2.1 dX0_init_5 (by decide) ?_
  refine hm_put (k := 0) (fs' := [.int 0, .int 0, .int 0]) S hE hG h1 ha rfl hi_X00 tyX0_ok nmX0 (by decide) hb_68 rfl rfl (by rfl) (by rfl) (Nat.le_of_ble_eq_true rfl) rfl dX0_init_6 (fun H locs hG => ?_)
  obtain ⟨M_1, eM_1⟩ : ∃ q9, q9 = hm_up M t (.inr (1, [.int 0, .int 0, .int 0])) := ⟨_, rfl⟩
  rw [← eM_1] at hG
  have h_2 : M_1 t = some (.inr (1, [.int 0, .int 0, .int 0])) := by rw [eM_1]; exact hm_up_s
  refine lv_aload_n S.1 S.2.1 dX0_init_9 rfl (lv_at hl 0 rfl) ?_
  refine lv_iconst (v := (-1)) S.1 S.2.1 dX0_init_10 (by decide) ?_
  refine hm_put (k := 1) (fs' := [.int 0, .int (-1), .int 0]) S hE hG h_2 ha rfl hi_X00 tyX0_ok nmX0 (by decide) hb_69 rfl rfl (by rfl) (by rfl) (Nat.le_of_ble_eq_true rfl) rfl dX0_init_11 (fun H locs hG => ?_)
  obtain ⟨M_3, eM_3⟩ : ∃ q9, q9 = hm_up M_1 t (.inr (1, [.int 0, .int (-1), .int 0])) := ⟨_, rfl⟩
  rw [← eM_3] at hG
  have h_4 : M_3 t = some (.inr (1, [.int 0, .int (-1), .int 0])) := by rw [eM_3]; exact hm_up_s
  refine lv_aload_n S.1 S.2.1 dX0_init_14 rfl (lv_at hl 0 rfl) ?_
  refine lv_iconst (v := 0) S.1 S.2.1 dX0_init_15 (by decide) ?_
  refine hm_put (k := 2) (fs' := [.int 0, .int (-1), .int 0]) S hE hG h_4 ha rfl hi_X00 tyX0_ok nmX0 (by decide) hb_70 rfl rfl (by rfl) (by rfl) (Nat.le_of_ble_eq_true rfl) rfl dX0_init_16 (fun H locs hG => ?_)
  obtain ⟨M_5, eM_5⟩ : ∃ q9, q9 = hm_up M_3 t (.inr (1, [.int 0, .int (-1), .int 0])) := ⟨_, rfl⟩
  rw [← eM_5] at hG
  have h_6 : M_5 t = some (.inr (1, [.int 0, .int (-1), .int 0])) := by rw [eM_5]; exact hm_up_s
  exact hm_vret S hG hr hlk (⟨rfl, rfl, by subst_vars; simp only [hm_up_up]⟩) (Nat.le_of_ble_eq_true rfl) (Nat.le_of_ble_eq_true rfl) dX0_init_19

abbrev rm_X2_init : Room := { frames := 1, cells := 0, slots := 0, locals := 12 }
set_option maxHeartbeats 4000000 in
set_option maxRecDepth 100000 in
theorem c_X2_init (l : Launch) (g : GV) (ad : AD) (M : CT) (t : TG) (a : Nat) (v1 v2 v3 : Int32) (ha : ad t = a) (h1 : M t = some (.inr (3, [.int 0, .int 0, .int 0]))) : hm_Met l yX2_init cX2_init 4 none rm_X2_init g ad M [.ref a, .int v1, .int v2, .int v3] (hm_pU ad (hm_up M t (huE (v1, v2, v3))) none) := by
  refine hm_start (own := RX2) (by decide) rfl (Nat.le_of_ble_eq_true rfl) ?_
  intro p e s m args below meth c S hr hlk hnm hE hG ls hl
  have hl : lv_has ls 4 [(0, .ref a), (1, .int v1), (2, .int v2), (3, .int v3)] := hl
  refine lv_aload_n S.1 S.2.1 dX2_init_0 rfl (lv_at hl 0 rfl) ?_
  refine hm_obj S hb_325 hb_11 hb_12 hl.1 dX2_init_1 (Nat.le_of_ble_eq_true rfl) (Nat.le_of_ble_eq_true rfl) ?_
  refine lv_aload_n S.1 S.2.1 dX2_init_4 rfl (lv_at hl 0 rfl) ?_
  refine lv_iload_n S.1 S.2.1 dX2_init_5 rfl (lv_at hl 1 rfl) ?_
  refine hm_putF (k := 0) (fs' := [.int v1, .int 0, .int 0]) S hE hG (hnm) h1 ha rfl hi_X20 tyX2_ok nmX2 (by decide) hb_310 rfl rfl rfl (by rfl) (by rfl) (Nat.le_of_ble_eq_true rfl) rfl dX2_init_6 (fun H locs hG => ?_)
  obtain ⟨M_1, eM_1⟩ : ∃ q9, q9 = hm_up M t (.inr (3, [.int v1, .int 0, .int 0])) := ⟨_, rfl⟩
  rw [← eM_1] at hG
  have h_2 : M_1 t = some (.inr (3, [.int v1, .int 0, .int 0])) := by rw [eM_1]; exact hm_up_s
  refine lv_aload_n S.1 S.2.1 dX2_init_9 rfl (lv_at hl 0 rfl) ?_
  refine lv_iload_n S.1 S.2.1 dX2_init_10 rfl (lv_at hl 2 rfl) ?_
  refine hm_putF (k := 1) (fs' := [.int v1, .int v2, .int 0]) S hE hG (hnm) h_2 ha rfl hi_X20 tyX2_ok nmX2 (by decide) hb_311 rfl rfl rfl (by rfl) (by rfl) (Nat.le_of_ble_eq_true rfl) rfl dX2_init_11 (fun H locs hG => ?_)
  obtain ⟨M_3, eM_3⟩ : ∃ q9, q9 = hm_up M_1 t (.inr (3, [.int v1, .int v2, .int 0])) := ⟨_, rfl⟩
  rw [← eM_3] at hG
  have h_4 : M_3 t = some (.inr (3, [.int v1, .int v2, .int 0])) := by rw [eM_3]; exact hm_up_s
  refine lv_aload_n S.1 S.2.1 dX2_init_14 rfl (lv_at hl 0 rfl) ?_
  refine lv_iload_n S.1 S.2.1 dX2_init_15 rfl (lv_at hl 3 rfl) ?_
  refine hm_putF (k := 2) (fs' := [.int v1, .int v2, .int v3]) S hE hG (hnm) h_4 ha rfl hi_X20 tyX2_ok nmX2 (by decide) hb_309 rfl rfl rfl (by rfl) (by rfl) (Nat.le_of_ble_eq_true rfl) rfl dX2_init_16 (fun H locs hG => ?_)
  obtain ⟨M_5, eM_5⟩ : ∃ q9, q9 = hm_up M_3 t (.inr (3, [.int v1, .int v2, .int v3])) := ⟨_, rfl⟩
  rw [← eM_5] at hG
  have h_6 : M_5 t = some (.inr (3, [.int v1, .int v2, .int v3])) := by rw [eM_5]; exact hm_up_s
  exact hm_vret S hG hr hlk (⟨rfl, rfl, by subst_vars; simp only [hm_up_up]⟩) (Nat.le_of_ble_eq_true rfl) (Nat.le_of_ble_eq_true rfl) dX2_init_19

abbrev rm_Jxa1e45_init_da8c8 : Room := { frames := 1, cells := 0, slots := 0, locals := 12 }
set_option maxHeartbeats 4000000 in
set_option maxRecDepth 100000 in
theorem c_Jxa1e45_init_da8c8 (l : Launch) (g : GV) (ad : AD) (M : CT) (t : TG) (a : Nat) (ha : ad t = a) (h1 : M t = some (.inr (0, [.int 0, .null, .int 0]))) : hm_Met l yJxa1e45_init_da8c8 cJxa1e45_init_da8c8 1 none rm_Jxa1e45_init_da8c8 g ad M [.ref a] (hm_pU ad M none) := by
  refine hm_start (own := RJxa1e45) (by decide) rfl (Nat.le_of_ble_eq_true rfl) ?_
  intro p e s m args below meth c S hr hlk hnm hE hG ls hl
  have hl : lv_has ls 1 [(0, .ref a)] := hl
  refine lv_aload_n S.1 S.2.1 dJxa1e45_init_da8c8_0 rfl (lv_at hl 0 rfl) ?_
  refine hm_obj S hb_48 hb_11 hb_12 hl.1 dJxa1e45_init_da8c8_1 (Nat.le_of_ble_eq_true rfl) (Nat.le_of_ble_eq_true rfl) ?_
  exact hm_vret S hG hr hlk (⟨rfl, rfl, rfl⟩) (Nat.le_of_ble_eq_true rfl) (Nat.le_of_ble_eq_true rfl) dJxa1e45_init_da8c8_4

abbrev rm_Jxc12de_init_da8c8 : Room := { frames := 2, cells := 0, slots := 0, locals := 32 }
set_option maxHeartbeats 4000000 in
set_option maxRecDepth 100000 in
theorem c_Jxc12de_init_da8c8 (l : Launch) (g : GV) (ad : AD) (M : CT) (t : TG) (a : Nat) (ha : ad t = a) (h1 : M t = some (.inr (0, [.int 0, .null, .int 0]))) : hm_Met l yJxc12de_init_da8c8 cJxc12de_init_da8c8 1 none rm_Jxc12de_init_da8c8 g ad M [.ref a] (hm_pU ad (hm_up M t (.inr (0, [.int 0, .null, .int 0]))) none) := by
  refine hm_start (own := RJxc12de) (by decide) rfl (Nat.le_of_ble_eq_true rfl) ?_
  intro p e s m args below meth c S hr hlk hnm hE hG ls hl
  have hl : lv_has ls 1 [(0, .ref a)] := hl
  refine lv_aload_n S.1 S.2.1 dJxc12de_init_da8c8_0 rfl (lv_at hl 0 rfl) ?_
  refine hm_uI (As := []) (rest := []) (st1 := []) S hE hG (c_Jxa1e45_init_da8c8 l g ad M t a ha h1) hb_47 hb_46 hb_44 hb_45 rfl hd_Jxa1e45_init_da8c8 ⟨Nat.le_of_ble_eq_true rfl, Nat.le_of_ble_eq_true rfl⟩ rfl hl.1 rfl (Nat.le_of_ble_eq_true rfl) dJxc12de_init_da8c8_1 ⟨Nat.le_of_ble_eq_true rfl, Nat.le_of_ble_eq_true rfl⟩ rfl (fun H locs hG => ?_)
  refine lv_aload_n S.1 S.2.1 dJxc12de_init_da8c8_4 rfl (lv_at hl 0 rfl) ?_
  refine lv_iconst (v := 0) S.1 S.2.1 dJxc12de_init_da8c8_5 (by decide) ?_
  refine hm_put (k := 0) (fs' := [.int 0, .null, .int 0]) S hE hG h1 ha rfl hi_Jx4a65c0 tyJx4a65c_ok nmJx4a65c (by decide) hb_43 rfl rfl (by rfl) (by rfl) (Nat.le_of_ble_eq_true rfl) rfl dJxc12de_init_da8c8_6 (fun H locs hG => ?_)
  obtain ⟨M_1, eM_1⟩ : ∃ q9, q9 = hm_up M t (.inr (0, [.int 0, .null, .int 0])) := ⟨_, rfl⟩
  rw [← eM_1] at hG
  have h_2 : M_1 t = some (.inr (0, [.int 0, .null, .int 0])) := by rw [eM_1]; exact hm_up_s
  exact hm_vret S hG hr hlk (⟨rfl, rfl, by subst_vars; rfl⟩) (Nat.le_of_ble_eq_true rfl) (Nat.le_of_ble_eq_true rfl) dJxc12de_init_da8c8_9

abbrev rm_Jx4a65c_init_da8c8 : Room := { frames := 3, cells := 0, slots := 0, locals := 52 }
set_option maxHeartbeats 4000000 in
set_option maxRecDepth 100000 in
theorem c_Jx4a65c_init_da8c8 (l : Launch) (g : GV) (ad : AD) (M : CT) (t : TG) (a : Nat) (ha : ad t = a) (h1 : M t = some (.inr (0, [.int 0, .null, .int 0]))) : hm_Met l yJx4a65c_init_da8c8 cJx4a65c_init_da8c8 1 none rm_Jx4a65c_init_da8c8 g ad M [.ref a] (hm_pU ad (hm_up M t (liE 0 (hm_b g 1) 0)) none) := by
  refine hm_start (own := RJx4a65c) (by decide) rfl (Nat.le_of_ble_eq_true rfl) ?_
  intro p e s m args below meth c S hr hlk hnm hE hG ls hl
  have hl : lv_has ls 1 [(0, .ref a)] := hl
  refine lv_aload_n S.1 S.2.1 dJx4a65c_init_da8c8_0 rfl (lv_at hl 0 rfl) ?_
  refine hm_uI (As := []) (rest := []) (st1 := []) S hE hG (c_Jxc12de_init_da8c8 l g ad M t a ha h1) hb_42 hb_41 hb_39 hb_40 rfl hd_Jxc12de_init_da8c8 ⟨Nat.le_of_ble_eq_true rfl, Nat.le_of_ble_eq_true rfl⟩ rfl hl.1 rfl (Nat.le_of_ble_eq_true rfl) dJx4a65c_init_da8c8_1 ⟨Nat.le_of_ble_eq_true rfl, Nat.le_of_ble_eq_true rfl⟩ rfl (fun H locs hG => ?_)
  refine lv_aload_n S.1 S.2.1 dJx4a65c_init_da8c8_4 rfl (lv_at hl 0 rfl) ?_
  refine hm_gets S hG hE.2.2.1.1.1 hb_37 dJx4a65c_init_da8c8_5 ?_
  refine hm_put (k := 1) (fs' := [.int 0, .ref (hm_b g 1), .int 0]) S hE hG (hm_up_s (M := M) (t := t) (e := .inr (0, [.int 0, .null, .int 0]))) ha rfl hi_Jx4a65c0 tyJx4a65c_ok nmJx4a65c (by decide) hb_38 rfl rfl (by rfl) (by rfl) (Nat.le_of_ble_eq_true rfl) rfl dJx4a65c_init_da8c8_8 (fun H locs hG => ?_)
  obtain ⟨M_1, eM_1⟩ : ∃ q9, q9 = hm_up (hm_up M t (.inr (0, [.int 0, .null, .int 0]))) t (.inr (0, [.int 0, .ref (hm_b g 1), .int 0])) := ⟨_, rfl⟩
  rw [← eM_1] at hG
  have h_2 : M_1 t = some (.inr (0, [.int 0, .ref (hm_b g 1), .int 0])) := by rw [eM_1]; exact hm_up_s
  exact hm_vret S hG hr hlk (⟨rfl, rfl, by subst_vars; simp only [hm_up_up]; rfl⟩) (Nat.le_of_ble_eq_true rfl) (Nat.le_of_ble_eq_true rfl) dJx4a65c_init_da8c8_11

abbrev rm_X1_init : Room := { frames := 1, cells := 2, slots := 12, locals := 12 }
set_option maxHeartbeats 4000000 in
set_option maxRecDepth 100000 in
theorem c_X1_init (l : Launch) (g : GV) (ad : AD) (M : CT) (j : Nat) (a : Nat) (ha : ad (60, j, 0) = a) (h1 : M (60, j, 0) = some (.inr (2, [.null, .null, .int 0, .int 0]))) : hm_Met l yX1_init cX1_init 1 none rm_X1_init g ad M [.ref a] (fun v ad1 M1 => v = none ∧ hasGr g ad1 M1 j (fun _ => 0, fun _ => 0, 0, false) ∧ ad1 (60, j, 0) = a ∧ hm_fr ad M ad1 M1 (fun u => (u.1 = 60 ∨ u.1 = 61 ∨ u.1 = 62) ∧ u.2.1 = j)) := by
  refine hm_start (own := RX1) (by decide) rfl (Nat.le_of_ble_eq_true rfl) ?_
  intro p e s m args below meth c S hr hlk hnm hE hG ls hl
  have hl : lv_has ls 1 [(0, .ref a)] := hl
  have hfr : hm_fr ad M ad M (fun u => (u.1 = 60 ∨ u.1 = 61 ∨ u.1 = 62) ∧ u.2.1 = j) := hm_fr.rf
  refine lv_aload_n S.1 S.2.1 dX1_init_0 rfl (lv_at hl 0 rfl) ?_
  refine hm_obj S hb_51 hb_11 hb_12 hl.1 dX1_init_1 (Nat.le_of_ble_eq_true rfl) (Nat.le_of_ble_eq_true rfl) ?_
  refine lv_aload_n S.1 S.2.1 dX1_init_4 rfl (lv_at hl 0 rfl) ?_
  refine lv_bipush (v := 6) S.1 S.2.1 dX1_init_5 (by decide) ?_
  refine hm_newI (N := 6) S hE hG (61, j, 0) hb_52 (by decide) (by decide) (by decide) (Nat.le_of_ble_eq_true rfl) (Nat.le_of_ble_eq_true rfl) dX1_init_7 (fun q_1 H hG => ?_)
  obtain ⟨ad_2, ead_2⟩ : ∃ q9, q9 = hm_au ad (61, j, 0) q_1 := ⟨_, rfl⟩
  obtain ⟨M_3, eM_3⟩ : ∃ q9, q9 = hm_up M (61, j, 0) (hm_ia g 6 (fun _ => 0)) := ⟨_, rfl⟩
  rw [← ead_2, ← eM_3] at hG
  have h_4 : M_3 (60, j, 0) = some (.inr (2, [.null, .null, .int 0, .int 0])) := by rw [eM_3]; exact (hm_up_n (by simp)).trans h1
  have a_5 : ad_2 (60, j, 0) = a := by rw [ead_2]; exact (hm_au_n (by simp)).trans ha
  have h_6 : M_3 (61, j, 0) = some (hm_ia g 6 (fun _ => 0)) := by rw [eM_3]; exact hm_up_s
  have a_7 : ad_2 (61, j, 0) = q_1 := by rw [ead_2]; exact hm_au_s
  have hfr : hm_fr ad M ad_2 M_3 (fun u => (u.1 = 60 ∨ u.1 = 61 ∨ u.1 = 62) ∧ u.2.1 = j) := by rw [ead_2, eM_3]; exact hfr.au (by simp)
  refine hm_putF (k := 0) (fs' := [.ref q_1, .null, .int 0, .int 0]) S hE hG (hnm) h_4 a_5 rfl hi_X10 tyX1_ok nmX1 (by decide) hb_53 rfl rfl rfl (by rfl) (by rfl) (Nat.le_of_ble_eq_true rfl) rfl dX1_init_9 (fun H locs hG => ?_)
  obtain ⟨M_9, eM_9⟩ : ∃ q9, q9 = hm_up M_3 (60, j, 0) (.inr (2, [.ref q_1, .null, .int 0, .int 0])) := ⟨_, rfl⟩
  rw [← eM_9] at hG
  have h_10 : M_9 (60, j, 0) = some (.inr (2, [.ref q_1, .null, .int 0, .int 0])) := by rw [eM_9]; exact hm_up_s
  have h_11 : M_9 (61, j, 0) = some (hm_ia g 6 (fun _ => 0)) := by rw [eM_9]; exact (hm_up_n (by simp)).trans h_6
  have hfr : hm_fr ad M ad_2 M_9 (fun u => (u.1 = 60 ∨ u.1 = 61 ∨ u.1 = 62) ∧ u.2.1 = j) := by rw [eM_9]; exact hfr.up (by simp)
  refine lv_aload_n S.1 S.2.1 dX1_init_12 rfl (lv_at hl 0 rfl) ?_
  refine lv_bipush (v := 6) S.1 S.2.1 dX1_init_13 (by decide) ?_
  refine hm_newI (N := 6) S hE hG (62, j, 0) hb_52 (by decide) (by decide) (by decide) (Nat.le_of_ble_eq_true rfl) (Nat.le_of_ble_eq_true rfl) dX1_init_15 (fun q_12 H hG => ?_)
  obtain ⟨ad_13, ead_13⟩ : ∃ q9, q9 = hm_au ad_2 (62, j, 0) q_12 := ⟨_, rfl⟩
  obtain ⟨M_14, eM_14⟩ : ∃ q9, q9 = hm_up M_9 (62, j, 0) (hm_ia g 6 (fun _ => 0)) := ⟨_, rfl⟩
  rw [← ead_13, ← eM_14] at hG
  have h_15 : M_14 (60, j, 0) = some (.inr (2, [.ref q_1, .null, .int 0, .int 0])) := by rw [eM_14]; exact (hm_up_n (by simp)).trans h_10
  have a_16 : ad_13 (60, j, 0) = a := by rw [ead_13]; exact (hm_au_n (by simp)).trans a_5
  have h_17 : M_14 (61, j, 0) = some (hm_ia g 6 (fun _ => 0)) := by rw [eM_14]; exact (hm_up_n (by simp)).trans h_11
  have a_18 : ad_13 (61, j, 0) = q_1 := by rw [ead_13]; exact (hm_au_n (by simp)).trans a_7
  have h_19 : M_14 (62, j, 0) = some (hm_ia g 6 (fun _ => 0)) := by rw [eM_14]; exact hm_up_s
  have a_20 : ad_13 (62, j, 0) = q_12 := by rw [ead_13]; exact hm_au_s
  have hfr : hm_fr ad M ad_13 M_14 (fun u => (u.1 = 60 ∨ u.1 = 61 ∨ u.1 = 62) ∧ u.2.1 = j) := by rw [ead_13, eM_14]; exact hfr.au (by simp)
  refine hm_putF (k := 1) (fs' := [.ref q_1, .ref q_12, .int 0, .int 0]) S hE hG (hnm) h_15 a_16 rfl hi_X10 tyX1_ok nmX1 (by decide) hb_54 rfl rfl rfl (by rfl) (by rfl) (Nat.le_of_ble_eq_true rfl) rfl dX1_init_17 (fun H locs hG => ?_)
  obtain ⟨M_22, eM_22⟩ : ∃ q9, q9 = hm_up M_14 (60, j, 0) (.inr (2, [.ref q_1, .ref q_12, .int 0, .int 0])) := ⟨_, rfl⟩
  rw [← eM_22] at hG
  have h_23 : M_22 (60, j, 0) = some (.inr (2, [.ref q_1, .ref q_12, .int 0, .int 0])) := by rw [eM_22]; exact hm_up_s
  have h_24 : M_22 (61, j, 0) = some (hm_ia g 6 (fun _ => 0)) := by rw [eM_22]; exact (hm_up_n (by simp)).trans h_17
  have h_25 : M_22 (62, j, 0) = some (hm_ia g 6 (fun _ => 0)) := by rw [eM_22]; exact (hm_up_n (by simp)).trans h_19
  have hfr : hm_fr ad M ad_13 M_22 (fun u => (u.1 = 60 ∨ u.1 = 61 ∨ u.1 = 62) ∧ u.2.1 = j) := by rw [eM_22]; exact hfr.up (by simp)
  refine lv_aload_n S.1 S.2.1 dX1_init_20 rfl (lv_at hl 0 rfl) ?_
  refine lv_iconst (v := 0) S.1 S.2.1 dX1_init_21 (by decide) ?_
  refine hm_put (k := 2) (fs' := [.ref q_1, .ref q_12, .int 0, .int 0]) S hE hG h_23 a_16 rfl hi_X10 tyX1_ok nmX1 (by decide) hb_55 rfl rfl (by rfl) (by rfl) (Nat.le_of_ble_eq_true rfl) rfl dX1_init_22 (fun H locs hG => ?_)
  obtain ⟨M_26, eM_26⟩ : ∃ q9, q9 = hm_up M_22 (60, j, 0) (.inr (2, [.ref q_1, .ref q_12, .int 0, .int 0])) := ⟨_, rfl⟩
  rw [← eM_26] at hG
  have h_27 : M_26 (60, j, 0) = some (.inr (2, [.ref q_1, .ref q_12, .int 0, .int 0])) := by rw [eM_26]; exact hm_up_s
  have h_28 : M_26 (61, j, 0) = some (hm_ia g 6 (fun _ => 0)) := by rw [eM_26]; exact (hm_up_n (by simp)).trans h_24
  have h_29 : M_26 (62, j, 0) = some (hm_ia g 6 (fun _ => 0)) := by rw [eM_26]; exact (hm_up_n (by simp)).trans h_25
  have hfr : hm_fr ad M ad_13 M_26 (fun u => (u.1 = 60 ∨ u.1 = 61 ∨ u.1 = 62) ∧ u.2.1 = j) := by rw [eM_26]; exact hfr.up (by simp)
  refine lv_aload_n S.1 S.2.1 dX1_init_25 rfl (lv_at hl 0 rfl) ?_
  refine lv_iconst (v := 0) S.1 S.2.1 dX1_init_26 (by decide) ?_
  refine hm_put (k := 3) (fs' := [.ref q_1, .ref q_12, .int 0, .int 0]) S hE hG h_27 a_16 rfl hi_X10 tyX1_ok nmX1 (by decide) hb_56 rfl rfl (by rfl) (by rfl) (Nat.le_of_ble_eq_true rfl) rfl dX1_init_27 (fun H locs hG => ?_)
  obtain ⟨M_30, eM_30⟩ : ∃ q9, q9 = hm_up M_26 (60, j, 0) (.inr (2, [.ref q_1, .ref q_12, .int 0, .int 0])) := ⟨_, rfl⟩
  rw [← eM_30] at hG
  have h_31 : M_30 (60, j, 0) = some (.inr (2, [.ref q_1, .ref q_12, .int 0, .int 0])) := by rw [eM_30]; exact hm_up_s
  have h_32 : M_30 (61, j, 0) = some (hm_ia g 6 (fun _ => 0)) := by rw [eM_30]; exact (hm_up_n (by simp)).trans h_28
  have h_33 : M_30 (62, j, 0) = some (hm_ia g 6 (fun _ => 0)) := by rw [eM_30]; exact (hm_up_n (by simp)).trans h_29
  have hfr : hm_fr ad M ad_13 M_30 (fun u => (u.1 = 60 ∨ u.1 = 61 ∨ u.1 = 62) ∧ u.2.1 = j) := by rw [eM_30]; exact hfr.up (by simp)
  exact hm_vret S hG hr hlk (⟨rfl, ⟨by rw [h_31, ← a_18, ← a_20]; rfl, h_32, h_33⟩, a_16, hfr⟩) (Nat.le_of_ble_eq_true rfl) (Nat.le_of_ble_eq_true rfl) dX1_init_30

abbrev rm_X3_init : Room := { frames := 1, cells := 31, slots := 150, locals := 12 }
set_option maxHeartbeats 4000000 in
set_option maxRecDepth 100000 in
theorem c_X3_init (l : Launch) (g : GV) (ad : AD) (M : CT) (a : Nat) (ha : ad (8, 0, 0) = a) (h1 : M (8, 0, 0) = some (.inr (4, [.null, .int 0, .int 0, .int 0]))) : hm_Met l yX3_init cX3_init 1 none rm_X3_init g ad M [.ref a] (fun v ad1 M1 => v = none ∧ hasLg g ad1 M1 (fun _ _ => 0, 0, 0, 0) ∧ ad1 (8, 0, 0) = a ∧ hm_fr ad M ad1 M1 (fun u => u.1 = 8 ∨ u.1 = 9 ∨ u.1 = 51)) := by
  refine hm_start (own := RX3) (by decide) rfl (Nat.le_of_ble_eq_true rfl) ?_
  intro p e s m args below meth c S hr hlk hnm hE hG ls hl
  have hl : lv_has ls 1 [(0, .ref a)] := hl
  have hfr : hm_fr ad M ad M (fun u => u.1 = 8 ∨ u.1 = 9 ∨ u.1 = 51) := hm_fr.rf
  refine lv_aload_n S.1 S.2.1 dX3_init_0 rfl (lv_at hl 0 rfl) ?_
  refine hm_obj S hb_59 hb_11 hb_12 hl.1 dX3_init_1 (Nat.le_of_ble_eq_true rfl) (Nat.le_of_ble_eq_true rfl) ?_
  refine lv_aload_n S.1 S.2.1 dX3_init_4 rfl (lv_at hl 0 rfl) ?_
  refine lv_bipush (v := 30) S.1 S.2.1 dX3_init_5 (by decide) ?_
  refine lv_iconst (v := 4) S.1 S.2.1 dX3_init_7 (by decide) ?_
  refine hm_mna (N := 30) (K := 4) S hE hG (9, 0, 0) (fun u => if u.1 = 51 ∧ u.2.2 = 0 then some u.2.1 else none) (hix51) (by simp) hb_60 hb_52 (by decide) (by decide) (by decide) (by decide) (by decide) (by decide) (by decide) (Nat.le_of_ble_eq_true rfl) (Nat.le_of_ble_eq_true rfl) dX3_init_8 (fun q_1 rr H hG => ?_)
  obtain ⟨ad_2, ead_2⟩ : ∃ q9, q9 = hm_mr ad (9, 0, 0) q_1 (fun u => if u.1 = 51 ∧ u.2.2 = 0 then some u.2.1 else none) rr 30 := ⟨_, rfl⟩
  obtain ⟨M_3, eM_3⟩ : ∃ q9, q9 = hm_mw M (9, 0, 0) (hm_ra g 4 30 (fun i => if i < 30 then some (rr i) else none)) (fun u => if u.1 = 51 ∧ u.2.2 = 0 then some u.2.1 else none) (hm_ia g 4 (fun _ => 0)) 30 := ⟨_, rfl⟩
  rw [← ead_2, ← eM_3] at hG
  have h_4 : M_3 (8, 0, 0) = some (.inr (4, [.null, .int 0, .int 0, .int 0])) := by rw [eM_3]; exact (hm_mw_n (by simp) (by simp)).trans h1
  have a_5 : ad_2 (8, 0, 0) = a := by rw [ead_2]; exact (hm_mr_n (by simp) (by simp)).trans ha
  have h_6 : M_3 (9, 0, 0) = some (hm_ra g 4 30 (fun i => if i < 30 then some (rr i) else none)) := by rw [eM_3]; exact if_pos rfl
  have a_7 : ad_2 (9, 0, 0) = q_1 := by rw [ead_2]; exact if_pos rfl
  have hrow : ∀ j, j < 30 → M_3 ((51, j, 0)) = some (hm_ia g 4 (fun _ => 0)) := fun j hj => by rw [eM_3]; exact hm_mw_r (j := j) (by simp) (by simp) hj
  have hrad : ∀ j, j < 30 → ad_2 ((51, j, 0)) = rr j := fun j hj => by rw [ead_2]; exact hm_mr_r (j := j) (by simp) (by simp) hj
  have hfr : hm_fr ad M ad_2 M_3 (fun u => u.1 = 8 ∨ u.1 = 9 ∨ u.1 = 51) := by rw [ead_2, eM_3]; exact hm_fr.mn hfr (by simp) (by intro u j h; by_cases h2 : u.1 = 51 ∧ u.2.2 = 0 <;> simp_all)
  refine hm_putF (k := 0) (fs' := [.ref q_1, .int 0, .int 0, .int 0]) S hE hG (hnm) h_4 a_5 rfl hi_X30 tyX3_ok nmX3 (by decide) hb_61 rfl rfl rfl (by rfl) (by rfl) (Nat.le_of_ble_eq_true rfl) rfl dX3_init_12 (fun H locs hG => ?_)
  obtain ⟨M_9, eM_9⟩ : ∃ q9, q9 = hm_up M_3 (8, 0, 0) (.inr (4, [.ref q_1, .int 0, .int 0, .int 0])) := ⟨_, rfl⟩
  rw [← eM_9] at hG
  have h_10 : M_9 (8, 0, 0) = some (.inr (4, [.ref q_1, .int 0, .int 0, .int 0])) := by rw [eM_9]; exact hm_up_s
  have h_11 : M_9 (9, 0, 0) = some (hm_ra g 4 30 (fun i => if i < 30 then some (rr i) else none)) := by rw [eM_9]; exact (hm_up_n (by simp)).trans h_6
  have hfr : hm_fr ad M ad_2 M_9 (fun u => u.1 = 8 ∨ u.1 = 9 ∨ u.1 = 51) := by rw [eM_9]; exact hfr.up (by simp)
  have hrow : ∀ j, j < 30 → M_9 ((51, j, 0)) = some (hm_ia g 4 (fun _ => 0)) := fun j hj => by rw [eM_9]; exact (hm_up_n (by simp)).trans (hrow j hj)
  refine lv_aload_n S.1 S.2.1 dX3_init_15 rfl (lv_at hl 0 rfl) ?_
  refine lv_iconst (v := 0) S.1 S.2.1 dX3_init_16 (by decide) ?_
  refine hm_put (k := 1) (fs' := [.ref q_1, .int 0, .int 0, .int 0]) S hE hG h_10 a_5 rfl hi_X30 tyX3_ok nmX3 (by decide) hb_62 rfl rfl (by rfl) (by rfl) (Nat.le_of_ble_eq_true rfl) rfl dX3_init_17 (fun H locs hG => ?_)
  obtain ⟨M_13, eM_13⟩ : ∃ q9, q9 = hm_up M_9 (8, 0, 0) (.inr (4, [.ref q_1, .int 0, .int 0, .int 0])) := ⟨_, rfl⟩
  rw [← eM_13] at hG
  have h_14 : M_13 (8, 0, 0) = some (.inr (4, [.ref q_1, .int 0, .int 0, .int 0])) := by rw [eM_13]; exact hm_up_s
  have h_15 : M_13 (9, 0, 0) = some (hm_ra g 4 30 (fun i => if i < 30 then some (rr i) else none)) := by rw [eM_13]; exact (hm_up_n (by simp)).trans h_11
  have hfr : hm_fr ad M ad_2 M_13 (fun u => u.1 = 8 ∨ u.1 = 9 ∨ u.1 = 51) := by rw [eM_13]; exact hfr.up (by simp)
  have hrow : ∀ j, j < 30 → M_13 ((51, j, 0)) = some (hm_ia g 4 (fun _ => 0)) := fun j hj => by rw [eM_13]; exact (hm_up_n (by simp)).trans (hrow j hj)
  refine lv_aload_n S.1 S.2.1 dX3_init_20 rfl (lv_at hl 0 rfl) ?_
  refine lv_iconst (v := 0) S.1 S.2.1 dX3_init_21 (by decide) ?_
  refine hm_put (k := 2) (fs' := [.ref q_1, .int 0, .int 0, .int 0]) S hE hG h_14 a_5 rfl hi_X30 tyX3_ok nmX3 (by decide) hb_63 rfl rfl (by rfl) (by rfl) (Nat.le_of_ble_eq_true rfl) rfl dX3_init_22 (fun H locs hG => ?_)
  obtain ⟨M_17, eM_17⟩ : ∃ q9, q9 = hm_up M_13 (8, 0, 0) (.inr (4, [.ref q_1, .int 0, .int 0, .int 0])) := ⟨_, rfl⟩
  rw [← eM_17] at hG
  have h_18 : M_17 (8, 0, 0) = some (.inr (4, [.ref q_1, .int 0, .int 0, .int 0])) := by rw [eM_17]; exact hm_up_s
  have h_19 : M_17 (9, 0, 0) = some (hm_ra g 4 30 (fun i => if i < 30 then some (rr i) else none)) := by rw [eM_17]; exact (hm_up_n (by simp)).trans h_15
  have hfr : hm_fr ad M ad_2 M_17 (fun u => u.1 = 8 ∨ u.1 = 9 ∨ u.1 = 51) := by rw [eM_17]; exact hfr.up (by simp)
  have hrow : ∀ j, j < 30 → M_17 ((51, j, 0)) = some (hm_ia g 4 (fun _ => 0)) := fun j hj => by rw [eM_17]; exact (hm_up_n (by simp)).trans (hrow j hj)
  refine lv_aload_n S.1 S.2.1 dX3_init_25 rfl (lv_at hl 0 rfl) ?_
  refine lv_iconst (v := 0) S.1 S.2.1 dX3_init_26 (by decide) ?_
  refine hm_put (k := 3) (fs' := [.ref q_1, .int 0, .int 0, .int 0]) S hE hG h_18 a_5 rfl hi_X30 tyX3_ok nmX3 (by decide) hb_64 rfl rfl (by rfl) (by rfl) (Nat.le_of_ble_eq_true rfl) rfl dX3_init_27 (fun H locs hG => ?_)
  obtain ⟨M_21, eM_21⟩ : ∃ q9, q9 = hm_up M_17 (8, 0, 0) (.inr (4, [.ref q_1, .int 0, .int 0, .int 0])) := ⟨_, rfl⟩
  rw [← eM_21] at hG
  have h_22 : M_21 (8, 0, 0) = some (.inr (4, [.ref q_1, .int 0, .int 0, .int 0])) := by rw [eM_21]; exact hm_up_s
  have h_23 : M_21 (9, 0, 0) = some (hm_ra g 4 30 (fun i => if i < 30 then some (rr i) else none)) := by rw [eM_21]; exact (hm_up_n (by simp)).trans h_19
  have hfr : hm_fr ad M ad_2 M_21 (fun u => u.1 = 8 ∨ u.1 = 9 ∨ u.1 = 51) := by rw [eM_21]; exact hfr.up (by simp)
  have hrow : ∀ j, j < 30 → M_21 ((51, j, 0)) = some (hm_ia g 4 (fun _ => 0)) := fun j hj => by rw [eM_21]; exact (hm_up_n (by simp)).trans (hrow j hj)
  exact hm_vret S hG hr hlk (⟨rfl, ⟨by rw [h_22, ← a_7]; rfl, by rw [h_23, hrows30 hrad], hrow, by decide, by decide⟩, a_5, hfr⟩) (Nat.le_of_ble_eq_true rfl) (Nat.le_of_ble_eq_true rfl) dX3_init_30

abbrev rm_X5_init : Room := { frames := 1, cells := 15, slots := 97, locals := 12 }
set_option maxHeartbeats 4000000 in
set_option maxRecDepth 100000 in
theorem c_X5_init (l : Launch) (g : GV) (ad : AD) (M : CT) (i : Nat) (a : Nat) (v1 v2 v3 : Int32) (hi : i < 12) (ha : ad (10, i, 0) = a) (h1 : M (10, i, 0) = some (.inr (6, [.int 0, .int 0, .int 0, .int 0, .null, .null, .int 0, .int 0]))) : hm_Met l yX5_init cX5_init 5 none rm_X5_init g ad M [.ref a, .int (nI i), .int v1, .int v2, .int v3] (fun v ad1 M1 => v = none ∧ hasSe g ad1 M1 i (v1, v2, v3, fun _ => 0, fun _ _ => 0, 0, 0) ∧ ad1 (10, i, 0) = a ∧ hm_fr ad M ad1 M1 (fun u => (u.1 = 10 ∨ u.1 = 11 ∨ u.1 = 12 ∨ u.1 = 13) ∧ u.2.1 = i)) := by
  refine hm_start (own := RX5) (by decide) rfl (Nat.le_of_ble_eq_true rfl) ?_
  intro p e s m args below meth c S hr hlk hnm hE hG ls hl
  have hl : lv_has ls 5 [(0, .ref a), (1, .int (nI i)), (2, .int v1), (3, .int v2), (4, .int v3)] := hl
  have hfr : hm_fr ad M ad M (fun u => (u.1 = 10 ∨ u.1 = 11 ∨ u.1 = 12 ∨ u.1 = 13) ∧ u.2.1 = i) := hm_fr.rf
  refine lv_aload_n S.1 S.2.1 dX5_init_0 rfl (lv_at hl 0 rfl) ?_
  refine hm_obj S hb_105 hb_11 hb_12 hl.1 dX5_init_1 (Nat.le_of_ble_eq_true rfl) (Nat.le_of_ble_eq_true rfl) ?_
  refine lv_aload_n S.1 S.2.1 dX5_init_4 rfl (lv_at hl 0 rfl) ?_
  refine lv_bipush (v := 6) S.1 S.2.1 dX5_init_5 (by decide) ?_
  refine hm_newI (N := 6) S hE hG (11, i, 0) hb_52 (by decide) (by decide) (by decide) (Nat.le_of_ble_eq_true rfl) (Nat.le_of_ble_eq_true rfl) dX5_init_7 (fun q_1 H hG => ?_)
  obtain ⟨ad_2, ead_2⟩ : ∃ q9, q9 = hm_au ad (11, i, 0) q_1 := ⟨_, rfl⟩
  obtain ⟨M_3, eM_3⟩ : ∃ q9, q9 = hm_up M (11, i, 0) (hm_ia g 6 (fun _ => 0)) := ⟨_, rfl⟩
  rw [← ead_2, ← eM_3] at hG
  have h_4 : M_3 (10, i, 0) = some (.inr (6, [.int 0, .int 0, .int 0, .int 0, .null, .null, .int 0, .int 0])) := by rw [eM_3]; exact (hm_up_n (by simp)).trans h1
  have a_5 : ad_2 (10, i, 0) = a := by rw [ead_2]; exact (hm_au_n (by simp)).trans ha
  have h_6 : M_3 (11, i, 0) = some (hm_ia g 6 (fun _ => 0)) := by rw [eM_3]; exact hm_up_s
  have a_7 : ad_2 (11, i, 0) = q_1 := by rw [ead_2]; exact hm_au_s
  have hfr : hm_fr ad M ad_2 M_3 (fun u => (u.1 = 10 ∨ u.1 = 11 ∨ u.1 = 12 ∨ u.1 = 13) ∧ u.2.1 = i) := by rw [ead_2, eM_3]; exact hfr.au (by simp)
  refine hm_putF (k := 4) (fs' := [.int 0, .int 0, .int 0, .int 0, .ref q_1, .null, .int 0, .int 0]) S hE hG (hnm) h_4 a_5 rfl hi_X50 tyX5_ok nmX5 (by decide) hb_106 rfl rfl rfl (by rfl) (by rfl) (Nat.le_of_ble_eq_true rfl) rfl dX5_init_9 (fun H locs hG => ?_)
  obtain ⟨M_9, eM_9⟩ : ∃ q9, q9 = hm_up M_3 (10, i, 0) (.inr (6, [.int 0, .int 0, .int 0, .int 0, .ref q_1, .null, .int 0, .int 0])) := ⟨_, rfl⟩
  rw [← eM_9] at hG
  have h_10 : M_9 (10, i, 0) = some (.inr (6, [.int 0, .int 0, .int 0, .int 0, .ref q_1, .null, .int 0, .int 0])) := by rw [eM_9]; exact hm_up_s
  have h_11 : M_9 (11, i, 0) = some (hm_ia g 6 (fun _ => 0)) := by rw [eM_9]; exact (hm_up_n (by simp)).trans h_6
  have hfr : hm_fr ad M ad_2 M_9 (fun u => (u.1 = 10 ∨ u.1 = 11 ∨ u.1 = 12 ∨ u.1 = 13) ∧ u.2.1 = i) := by rw [eM_9]; exact hfr.up (by simp)
  refine lv_aload_n S.1 S.2.1 dX5_init_12 rfl (lv_at hl 0 rfl) ?_
  refine lv_bipush (v := 13) S.1 S.2.1 dX5_init_13 (by decide) ?_
  refine lv_bipush (v := 6) S.1 S.2.1 dX5_init_15 (by decide) ?_
  refine hm_mna (N := 13) (K := 6) S hE hG (12, i, 0) (fun u => if u.1 = 13 ∧ u.2.1 = i then some u.2.2 else none) (hix13 i) (by simp) hb_107 hb_52 (by decide) (by decide) (by decide) (by decide) (by decide) (by decide) (by decide) (Nat.le_of_ble_eq_true rfl) (Nat.le_of_ble_eq_true rfl) dX5_init_17 (fun q_12 rr H hG => ?_)
  obtain ⟨ad_13, ead_13⟩ : ∃ q9, q9 = hm_mr ad_2 (12, i, 0) q_12 (fun u => if u.1 = 13 ∧ u.2.1 = i then some u.2.2 else none) rr 13 := ⟨_, rfl⟩
  obtain ⟨M_14, eM_14⟩ : ∃ q9, q9 = hm_mw M_9 (12, i, 0) (hm_ra g 4 13 (fun i => if i < 13 then some (rr i) else none)) (fun u => if u.1 = 13 ∧ u.2.1 = i then some u.2.2 else none) (hm_ia g 6 (fun _ => 0)) 13 := ⟨_, rfl⟩
  rw [← ead_13, ← eM_14] at hG
  have h_15 : M_14 (10, i, 0) = some (.inr (6, [.int 0, .int 0, .int 0, .int 0, .ref q_1, .null, .int 0, .int 0])) := by rw [eM_14]; exact (hm_mw_n (by simp) (by simp)).trans h_10
  have a_16 : ad_13 (10, i, 0) = a := by rw [ead_13]; exact (hm_mr_n (by simp) (by simp)).trans a_5
  have h_17 : M_14 (11, i, 0) = some (hm_ia g 6 (fun _ => 0)) := by rw [eM_14]; exact (hm_mw_n (by simp) (by simp)).trans h_11
  have a_18 : ad_13 (11, i, 0) = q_1 := by rw [ead_13]; exact (hm_mr_n (by simp) (by simp)).trans a_7
  have h_19 : M_14 (12, i, 0) = some (hm_ra g 4 13 (fun i => if i < 13 then some (rr i) else none)) := by rw [eM_14]; exact if_pos rfl
  have a_20 : ad_13 (12, i, 0) = q_12 := by rw [ead_13]; exact if_pos rfl
  have hrow : ∀ j, j < 13 → M_14 ((13, i, j)) = some (hm_ia g 6 (fun _ => 0)) := fun j hj => by rw [eM_14]; exact hm_mw_r (j := j) (by simp) (by simp) hj
  have hrad : ∀ j, j < 13 → ad_13 ((13, i, j)) = rr j := fun j hj => by rw [ead_13]; exact hm_mr_r (j := j) (by simp) (by simp) hj
  have hfr : hm_fr ad M ad_13 M_14 (fun u => (u.1 = 10 ∨ u.1 = 11 ∨ u.1 = 12 ∨ u.1 = 13) ∧ u.2.1 = i) := by rw [ead_13, eM_14]; exact hm_fr.mn hfr (by simp) (by intro u j h; by_cases h2 : u.1 = 13 ∧ u.2.1 = i <;> simp_all)
  refine hm_putF (k := 5) (fs' := [.int 0, .int 0, .int 0, .int 0, .ref q_1, .ref q_12, .int 0, .int 0]) S hE hG (hnm) h_15 a_16 rfl hi_X50 tyX5_ok nmX5 (by decide) hb_108 rfl rfl rfl (by rfl) (by rfl) (Nat.le_of_ble_eq_true rfl) rfl dX5_init_21 (fun H locs hG => ?_)
  obtain ⟨M_22, eM_22⟩ : ∃ q9, q9 = hm_up M_14 (10, i, 0) (.inr (6, [.int 0, .int 0, .int 0, .int 0, .ref q_1, .ref q_12, .int 0, .int 0])) := ⟨_, rfl⟩
  rw [← eM_22] at hG
  have h_23 : M_22 (10, i, 0) = some (.inr (6, [.int 0, .int 0, .int 0, .int 0, .ref q_1, .ref q_12, .int 0, .int 0])) := by rw [eM_22]; exact hm_up_s
  have h_24 : M_22 (11, i, 0) = some (hm_ia g 6 (fun _ => 0)) := by rw [eM_22]; exact (hm_up_n (by simp)).trans h_17
  have h_25 : M_22 (12, i, 0) = some (hm_ra g 4 13 (fun i => if i < 13 then some (rr i) else none)) := by rw [eM_22]; exact (hm_up_n (by simp)).trans h_19
  have hfr : hm_fr ad M ad_13 M_22 (fun u => (u.1 = 10 ∨ u.1 = 11 ∨ u.1 = 12 ∨ u.1 = 13) ∧ u.2.1 = i) := by rw [eM_22]; exact hfr.up (by simp)
  have hrow : ∀ j, j < 13 → M_22 ((13, i, j)) = some (hm_ia g 6 (fun _ => 0)) := fun j hj => by rw [eM_22]; exact (hm_up_n (by simp)).trans (hrow j hj)
  refine lv_aload_n S.1 S.2.1 dX5_init_24 rfl (lv_at hl 0 rfl) ?_
  refine lv_iconst (v := 0) S.1 S.2.1 dX5_init_25 (by decide) ?_
  refine hm_put (k := 6) (fs' := [.int 0, .int 0, .int 0, .int 0, .ref q_1, .ref q_12, .int 0, .int 0]) S hE hG h_23 a_16 rfl hi_X50 tyX5_ok nmX5 (by decide) hb_109 rfl rfl (by rfl) (by rfl) (Nat.le_of_ble_eq_true rfl) rfl dX5_init_26 (fun H locs hG => ?_)
  obtain ⟨M_27, eM_27⟩ : ∃ q9, q9 = hm_up M_22 (10, i, 0) (.inr (6, [.int 0, .int 0, .int 0, .int 0, .ref q_1, .ref q_12, .int 0, .int 0])) := ⟨_, rfl⟩
  rw [← eM_27] at hG
  have h_28 : M_27 (10, i, 0) = some (.inr (6, [.int 0, .int 0, .int 0, .int 0, .ref q_1, .ref q_12, .int 0, .int 0])) := by rw [eM_27]; exact hm_up_s
  have h_29 : M_27 (11, i, 0) = some (hm_ia g 6 (fun _ => 0)) := by rw [eM_27]; exact (hm_up_n (by simp)).trans h_24
  have h_30 : M_27 (12, i, 0) = some (hm_ra g 4 13 (fun i => if i < 13 then some (rr i) else none)) := by rw [eM_27]; exact (hm_up_n (by simp)).trans h_25
  have hfr : hm_fr ad M ad_13 M_27 (fun u => (u.1 = 10 ∨ u.1 = 11 ∨ u.1 = 12 ∨ u.1 = 13) ∧ u.2.1 = i) := by rw [eM_27]; exact hfr.up (by simp)
  have hrow : ∀ j, j < 13 → M_27 ((13, i, j)) = some (hm_ia g 6 (fun _ => 0)) := fun j hj => by rw [eM_27]; exact (hm_up_n (by simp)).trans (hrow j hj)
  refine lv_aload_n S.1 S.2.1 dX5_init_29 rfl (lv_at hl 0 rfl) ?_
  refine lv_iconst (v := 0) S.1 S.2.1 dX5_init_30 (by decide) ?_
  refine hm_put (k := 7) (fs' := [.int 0, .int 0, .int 0, .int 0, .ref q_1, .ref q_12, .int 0, .int 0]) S hE hG h_28 a_16 rfl hi_X50 tyX5_ok nmX5 (by decide) hb_110 rfl rfl (by rfl) (by rfl) (Nat.le_of_ble_eq_true rfl) rfl dX5_init_31 (fun H locs hG => ?_)
  obtain ⟨M_32, eM_32⟩ : ∃ q9, q9 = hm_up M_27 (10, i, 0) (.inr (6, [.int 0, .int 0, .int 0, .int 0, .ref q_1, .ref q_12, .int 0, .int 0])) := ⟨_, rfl⟩
  rw [← eM_32] at hG
  have h_33 : M_32 (10, i, 0) = some (.inr (6, [.int 0, .int 0, .int 0, .int 0, .ref q_1, .ref q_12, .int 0, .int 0])) := by rw [eM_32]; exact hm_up_s
  have h_34 : M_32 (11, i, 0) = some (hm_ia g 6 (fun _ => 0)) := by rw [eM_32]; exact (hm_up_n (by simp)).trans h_29
  have h_35 : M_32 (12, i, 0) = some (hm_ra g 4 13 (fun i => if i < 13 then some (rr i) else none)) := by rw [eM_32]; exact (hm_up_n (by simp)).trans h_30
  have hfr : hm_fr ad M ad_13 M_32 (fun u => (u.1 = 10 ∨ u.1 = 11 ∨ u.1 = 12 ∨ u.1 = 13) ∧ u.2.1 = i) := by rw [eM_32]; exact hfr.up (by simp)
  have hrow : ∀ j, j < 13 → M_32 ((13, i, j)) = some (hm_ia g 6 (fun _ => 0)) := fun j hj => by rw [eM_32]; exact (hm_up_n (by simp)).trans (hrow j hj)
  refine lv_aload_n S.1 S.2.1 dX5_init_34 rfl (lv_at hl 0 rfl) ?_
  refine lv_iload_n S.1 S.2.1 dX5_init_35 rfl (lv_at hl 1 rfl) ?_
  refine hm_putF (k := 0) (fs' := [.int (nI i), .int 0, .int 0, .int 0, .ref q_1, .ref q_12, .int 0, .int 0]) S hE hG (hnm) h_33 a_16 rfl hi_X50 tyX5_ok nmX5 (by decide) hb_111 rfl rfl rfl (by rfl) (by rfl) (Nat.le_of_ble_eq_true rfl) rfl dX5_init_36 (fun H locs hG => ?_)
  obtain ⟨M_37, eM_37⟩ : ∃ q9, q9 = hm_up M_32 (10, i, 0) (.inr (6, [.int (nI i), .int 0, .int 0, .int 0, .ref q_1, .ref q_12, .int 0, .int 0])) := ⟨_, rfl⟩
  rw [← eM_37] at hG
  have h_38 : M_37 (10, i, 0) = some (.inr (6, [.int (nI i), .int 0, .int 0, .int 0, .ref q_1, .ref q_12, .int 0, .int 0])) := by rw [eM_37]; exact hm_up_s
  have h_39 : M_37 (11, i, 0) = some (hm_ia g 6 (fun _ => 0)) := by rw [eM_37]; exact (hm_up_n (by simp)).trans h_34
  have h_40 : M_37 (12, i, 0) = some (hm_ra g 4 13 (fun i => if i < 13 then some (rr i) else none)) := by rw [eM_37]; exact (hm_up_n (by simp)).trans h_35
  have hfr : hm_fr ad M ad_13 M_37 (fun u => (u.1 = 10 ∨ u.1 = 11 ∨ u.1 = 12 ∨ u.1 = 13) ∧ u.2.1 = i) := by rw [eM_37]; exact hfr.up (by simp)
  have hrow : ∀ j, j < 13 → M_37 ((13, i, j)) = some (hm_ia g 6 (fun _ => 0)) := fun j hj => by rw [eM_37]; exact (hm_up_n (by simp)).trans (hrow j hj)
  refine lv_aload_n S.1 S.2.1 dX5_init_39 rfl (lv_at hl 0 rfl) ?_
  refine lv_iload_n S.1 S.2.1 dX5_init_40 rfl (lv_at hl 2 rfl) ?_
  refine hm_putF (k := 1) (fs' := [.int (nI i), .int v1, .int 0, .int 0, .ref q_1, .ref q_12, .int 0, .int 0]) S hE hG (hnm) h_38 a_16 rfl hi_X50 tyX5_ok nmX5 (by decide) hb_112 rfl rfl rfl (by rfl) (by rfl) (Nat.le_of_ble_eq_true rfl) rfl dX5_init_41 (fun H locs hG => ?_)
  obtain ⟨M_42, eM_42⟩ : ∃ q9, q9 = hm_up M_37 (10, i, 0) (.inr (6, [.int (nI i), .int v1, .int 0, .int 0, .ref q_1, .ref q_12, .int 0, .int 0])) := ⟨_, rfl⟩
  rw [← eM_42] at hG
  have h_43 : M_42 (10, i, 0) = some (.inr (6, [.int (nI i), .int v1, .int 0, .int 0, .ref q_1, .ref q_12, .int 0, .int 0])) := by rw [eM_42]; exact hm_up_s
  have h_44 : M_42 (11, i, 0) = some (hm_ia g 6 (fun _ => 0)) := by rw [eM_42]; exact (hm_up_n (by simp)).trans h_39
  have h_45 : M_42 (12, i, 0) = some (hm_ra g 4 13 (fun i => if i < 13 then some (rr i) else none)) := by rw [eM_42]; exact (hm_up_n (by simp)).trans h_40
  have hfr : hm_fr ad M ad_13 M_42 (fun u => (u.1 = 10 ∨ u.1 = 11 ∨ u.1 = 12 ∨ u.1 = 13) ∧ u.2.1 = i) := by rw [eM_42]; exact hfr.up (by simp)
  have hrow : ∀ j, j < 13 → M_42 ((13, i, j)) = some (hm_ia g 6 (fun _ => 0)) := fun j hj => by rw [eM_42]; exact (hm_up_n (by simp)).trans (hrow j hj)
  refine lv_aload_n S.1 S.2.1 dX5_init_44 rfl (lv_at hl 0 rfl) ?_
  refine lv_iload_n S.1 S.2.1 dX5_init_45 rfl (lv_at hl 3 rfl) ?_
  refine hm_putF (k := 2) (fs' := [.int (nI i), .int v1, .int v2, .int 0, .ref q_1, .ref q_12, .int 0, .int 0]) S hE hG (hnm) h_43 a_16 rfl hi_X50 tyX5_ok nmX5 (by decide) hb_113 rfl rfl rfl (by rfl) (by rfl) (Nat.le_of_ble_eq_true rfl) rfl dX5_init_46 (fun H locs hG => ?_)
  obtain ⟨M_47, eM_47⟩ : ∃ q9, q9 = hm_up M_42 (10, i, 0) (.inr (6, [.int (nI i), .int v1, .int v2, .int 0, .ref q_1, .ref q_12, .int 0, .int 0])) := ⟨_, rfl⟩
  rw [← eM_47] at hG
  have h_48 : M_47 (10, i, 0) = some (.inr (6, [.int (nI i), .int v1, .int v2, .int 0, .ref q_1, .ref q_12, .int 0, .int 0])) := by rw [eM_47]; exact hm_up_s
  have h_49 : M_47 (11, i, 0) = some (hm_ia g 6 (fun _ => 0)) := by rw [eM_47]; exact (hm_up_n (by simp)).trans h_44
  have h_50 : M_47 (12, i, 0) = some (hm_ra g 4 13 (fun i => if i < 13 then some (rr i) else none)) := by rw [eM_47]; exact (hm_up_n (by simp)).trans h_45
  have hfr : hm_fr ad M ad_13 M_47 (fun u => (u.1 = 10 ∨ u.1 = 11 ∨ u.1 = 12 ∨ u.1 = 13) ∧ u.2.1 = i) := by rw [eM_47]; exact hfr.up (by simp)
  have hrow : ∀ j, j < 13 → M_47 ((13, i, j)) = some (hm_ia g 6 (fun _ => 0)) := fun j hj => by rw [eM_47]; exact (hm_up_n (by simp)).trans (hrow j hj)
  refine lv_aload_n S.1 S.2.1 dX5_init_49 rfl (lv_at hl 0 rfl) ?_
  refine lv_iload S.1 S.2.1 dX5_init_50 (lv_at hl 4 rfl) ?_
  refine hm_putF (k := 3) (fs' := [.int (nI i), .int v1, .int v2, .int v3, .ref q_1, .ref q_12, .int 0, .int 0]) S hE hG (hnm) h_48 a_16 rfl hi_X50 tyX5_ok nmX5 (by decide) hb_114 rfl rfl rfl (by rfl) (by rfl) (Nat.le_of_ble_eq_true rfl) rfl dX5_init_52 (fun H locs hG => ?_)
  obtain ⟨M_52, eM_52⟩ : ∃ q9, q9 = hm_up M_47 (10, i, 0) (.inr (6, [.int (nI i), .int v1, .int v2, .int v3, .ref q_1, .ref q_12, .int 0, .int 0])) := ⟨_, rfl⟩
  rw [← eM_52] at hG
  have h_53 : M_52 (10, i, 0) = some (.inr (6, [.int (nI i), .int v1, .int v2, .int v3, .ref q_1, .ref q_12, .int 0, .int 0])) := by rw [eM_52]; exact hm_up_s
  have h_54 : M_52 (11, i, 0) = some (hm_ia g 6 (fun _ => 0)) := by rw [eM_52]; exact (hm_up_n (by simp)).trans h_49
  have h_55 : M_52 (12, i, 0) = some (hm_ra g 4 13 (fun i => if i < 13 then some (rr i) else none)) := by rw [eM_52]; exact (hm_up_n (by simp)).trans h_50
  have hfr : hm_fr ad M ad_13 M_52 (fun u => (u.1 = 10 ∨ u.1 = 11 ∨ u.1 = 12 ∨ u.1 = 13) ∧ u.2.1 = i) := by rw [eM_52]; exact hfr.up (by simp)
  have hrow : ∀ j, j < 13 → M_52 ((13, i, j)) = some (hm_ia g 6 (fun _ => 0)) := fun j hj => by rw [eM_52]; exact (hm_up_n (by simp)).trans (hrow j hj)
  exact hm_vret S hG hr hlk (⟨rfl, ⟨by rw [h_53, ← a_18, ← a_20]; rfl, h_54, by rw [h_55, hrows13 hrad], hrow, by show 0 < 13; decide, by show 0 ≤ 13; decide, hi⟩, a_16, hfr⟩) (Nat.le_of_ble_eq_true rfl) (Nat.le_of_ble_eq_true rfl) dX5_init_55
