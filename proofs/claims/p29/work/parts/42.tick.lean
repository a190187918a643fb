/-! A tick, in numbers: a sample kept is one more ahead. -/
theorem kp_row (s : SeD) (k : Nat) (hk : k < 6) : kpRow s k = sPr s k := by
  rw [kpRow, va_cpy, if_pos ⟨Nat.zero_le _, by omega⟩]
  congr 1
  omega
theorem past_keep {s : SeD} (h13 : sLa s < 13) (hHe : sHe s ≤ 13) (k b a : Nat) (hk : k < 6) (hb : b ≤ 12) : pastF (keepF s) k b a = pastF s k b (a + 1) := by
  have e1 : sPr (keepF s) = sPr s := rfl
  have e2 : sHe (keepF s) = min (sHe s + 1) 13 := rfl
  have e3 : sLa (keepF s) = (sLa s + 1) % 13 := rfl
  have e4 : ∀ j, sRo (keepF s) j = if j = kpLa s then kpRow s else sRo s j := fun _ => rfl
  have e5 : kpLa s = (sLa s + 1) % 13 := rfl
  rw [pastF, pastF, e1, e2, e3, e4, e5]
  rcases Nat.lt_trichotomy b a with h | h | h
  · rw [if_pos h, if_pos (by omega)]
  · rw [if_neg (by omega), if_neg (by omega), if_pos (by omega), if_pos (by omega), kp_row s k hk]
  · by_cases c : sHe s ≤ b - (a + 1)
    · rw [if_neg (by omega), if_pos (by omega), if_neg (by omega), if_pos c]
    · have e6 : ((sLa s + 1) % 13 + 13 - (b - a)) % 13 = (sLa s + 13 - (b - (a + 1))) % 13 := by omega
      rw [if_neg (by omega), if_neg (by omega), if_neg (by omega), if_neg (by omega), if_neg c, e6]
theorem gs_keep {s : SeD} (h13 : sLa s < 13) (hHe : sHe s ≤ 13) (k a b : Nat) (hk : k < 6) (hb : b + 1 ≤ 12) : grStep (keepF s) k a b = grStep s k (a + 1) b := by
  rw [grStep, grStep, past_keep h13 hHe k b a hk (by omega), past_keep h13 hHe k (b + 1) a hk hb]
theorem grL_keep {s : SeD} (h13 : sLa s < 13) (hHe : sHe s ≤ 13) (k a : Nat) (hk : k < 6) : ∀ n, n ≤ 12 → ∀ acc, grL (keepF s) k a n acc = grL s k (a + 1) n acc := by
  intro n
  induction n with
  | zero => intro _ acc; rfl
  | succ n ih => intro hn acc; rw [grL, grL, gs_keep h13 hHe k a n hk hn, ih (by omega)]
theorem min_keep {h w a c : Nat} (hh : h ≤ 13) (hw : w ≤ c) (hc : c ≤ 13) : min w (min (h + 1) 13 + a) = min w (h + (a + 1)) := by omega
theorem grF_keep {s : SeD} (h13 : sLa s < 13) (hHe : sHe s ≤ 13) (k w a : Nat) (hk : k < 6) (hw : w ≤ 12) : grF (keepF s) k w a = grF s k w (a + 1) := by
  have e2 : sHe (keepF s) = min (sHe s + 1) 13 := rfl
  rw [grF, grF, e2, min_keep (c := 13) hHe (by omega) (by omega)]
  exact grL_keep h13 hHe k a hk _ (by omega) _
theorem look_keep {s : SeD} (h13 : sLa s < 13) (hHe : sHe s ≤ 13) (lk w a : Nat) (hw : w ≤ 12) : lookF (keepF s) lk w a = lookF s lk w (a + 1) := by
  have e2 : sHe (keepF s) = min (sHe s + 1) 13 := rfl
  have e0 : sKi (keepF s) = sKi s := rfl
  have p0 : pastF (keepF s) 0 0 a = pastF s 0 0 (a + 1) := past_keep h13 hHe 0 0 a (by decide) (by decide)
  have g0 : grF (keepF s) 0 w a = grF s 0 w (a + 1) := grF_keep h13 hHe 0 w a (by decide) hw
  have sm : ∀ n, n ≤ 13 → sumF (keepF s) a n = sumF s (a + 1) n := by
    intro n
    induction n with
    | zero => intro _; rfl
    | succ n ih => intro hn; rw [sumF, sumF, ih (by omega), past_keep h13 hHe 0 n a (by decide) (by omega)]
  have ut : ∀ mo n, n ≤ 12 → utL (keepF s) a mo n = utL s (a + 1) mo n := by
    intro mo n
    induction n with
    | zero => intro _; exact p0
    | succ n ih => intro hn; rw [utL, utL, ih (by omega), past_keep h13 hHe 0 (n + 1) a (by decide) (by omega)]
  have me : meanF (keepF s) w a = meanF s w (a + 1) := by
    rw [meanF, meanF, e2, min_keep (c := 12) hHe hw (by omega), sm _ (by omega)]
  have uu : ∀ mo, utF (keepF s) w a mo = utF s w (a + 1) mo := fun mo => by
    rw [utF, utF, e2, min_keep (c := 12) hHe hw (by omega), ut mo _ (by omega)]
  have cn : ∀ n, n ≤ 5 → cntF (keepF s) w a n = cntF s w (a + 1) n := by
    intro n
    induction n with
    | zero => intro _; rfl
    | succ n ih => intro hn; rw [cntF, cntF, ih (by omega), grF_keep h13 hHe (n + 1) w a (by omega) hw]
  have pl : ∀ r n k re, n + k = 5 → partL (keepF s) w a r n k re = partL s w (a + 1) r n k re := by
    intro r n
    induction n with
    | zero => intro k re _; rfl
    | succ n ih => intro k re hk; rw [partL, partL, grF_keep h13 hHe k w a (by omega) hw, ih (k + 1) _ (by omega)]
  have pa : ∀ q, partF (keepF s) q w a = partF s q w (a + 1) := fun q => by
    rw [partF, partF, cn 5 (by decide), pl _ 4 1 0 rfl]
  rw [lookF, lookF, p0, g0, me, uu, uu, pa, e0]
