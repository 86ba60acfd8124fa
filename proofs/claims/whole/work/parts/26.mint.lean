theorem pw_nat (a x : Nat) : pwP (a : Int) x = ((a ^ x % 32003 : Nat) : Int) := by
  unfold pwP
  rw [← Int.natCast_pow]
  omega
theorem iv_m3 : pwP (-3 % 32003) 32001 = 21335 := by
  rw [show ((-3 : Int) % 32003) = ((32000 : Nat) : Int) by decide, pw_nat]
  exact congrArg _ (show (32000 ^ 32001 % 32003 : Nat) = 21335 by decide +kernel)
theorem df_m3 (z : Int) : (-3 * dvZ z (-3) - z) % 32003 = 0 := by
  unfold dvZ
  rw [iv_m3]
  omega
theorem db_m3 {z y : Int} (hy : 0 ≤ y ∧ y < 32003) (h : (-3 * y - z) % 32003 = 0) : dvZ z (-3) = y := by
  unfold dvZ
  rw [iv_m3]
  omega
theorem iv_m2 : pwP (-2 % 32003) 32001 = 16001 := by
  rw [show ((-2 : Int) % 32003) = ((32001 : Nat) : Int) by decide, pw_nat]
  exact congrArg _ (show (32001 ^ 32001 % 32003 : Nat) = 16001 by decide +kernel)
theorem df_m2 (z : Int) : (-2 * dvZ z (-2) - z) % 32003 = 0 := by
  unfold dvZ
  rw [iv_m2]
  omega
theorem db_m2 {z y : Int} (hy : 0 ≤ y ∧ y < 32003) (h : (-2 * y - z) % 32003 = 0) : dvZ z (-2) = y := by
  unfold dvZ
  rw [iv_m2]
  omega
theorem iv_m1 : pwP (-1 % 32003) 32001 = 32002 := by
  rw [show ((-1 : Int) % 32003) = ((32002 : Nat) : Int) by decide, pw_nat]
  exact congrArg _ (show (32002 ^ 32001 % 32003 : Nat) = 32002 by decide +kernel)
theorem df_m1 (z : Int) : (-1 * dvZ z (-1) - z) % 32003 = 0 := by
  unfold dvZ
  rw [iv_m1]
  omega
theorem db_m1 {z y : Int} (hy : 0 ≤ y ∧ y < 32003) (h : (-1 * y - z) % 32003 = 0) : dvZ z (-1) = y := by
  unfold dvZ
  rw [iv_m1]
  omega
theorem iv_p1 : pwP (1 % 32003) 32001 = 1 := by
  rw [show ((1 : Int) % 32003) = ((1 : Nat) : Int) by decide, pw_nat]
  exact congrArg _ (show (1 ^ 32001 % 32003 : Nat) = 1 by decide +kernel)
theorem df_p1 (z : Int) : (1 * dvZ z 1 - z) % 32003 = 0 := by
  unfold dvZ
  rw [iv_p1]
  omega
theorem db_p1 {z y : Int} (hy : 0 ≤ y ∧ y < 32003) (h : (1 * y - z) % 32003 = 0) : dvZ z 1 = y := by
  unfold dvZ
  rw [iv_p1]
  omega
theorem iv_p2 : pwP (2 % 32003) 32001 = 16002 := by
  rw [show ((2 : Int) % 32003) = ((2 : Nat) : Int) by decide, pw_nat]
  exact congrArg _ (show (2 ^ 32001 % 32003 : Nat) = 16002 by decide +kernel)
theorem df_p2 (z : Int) : (2 * dvZ z 2 - z) % 32003 = 0 := by
  unfold dvZ
  rw [iv_p2]
  omega
theorem db_p2 {z y : Int} (hy : 0 ≤ y ∧ y < 32003) (h : (2 * y - z) % 32003 = 0) : dvZ z 2 = y := by
  unfold dvZ
  rw [iv_p2]
  omega
theorem ee_m2 {N : Nat → Int} {f c : Int} (hc : ePz c = -2) (hr : (nuZ N f c (-1) - ePz c * seZ N f c 3) % 32003 = 0) : exZ N f c 6 = seZ N f c 3 ∧ exZ N f c 7 = seZ N f c 2 ∧ exZ N f c 8 = seZ N f c 1 := by
  have r1 := seZ_rng N f c 1
  have r2 := seZ_rng N f c 2
  have r3 := seZ_rng N f c 3
  have h2 : seZ N f c 2 = dvZ (nuZ N f c (-3) - ePz c * seZ N f c 1) (-2) := rfl
  have h3 : seZ N f c 3 = dvZ (nuZ N f c (-2) - ePz c * seZ N f c 2) (-1) := rfl
  have e6 : exZ N f c 6 = dvZ (nuZ N f c (-1) - 0 * exZ N f c 5) (ePz c) := rfl
  have e7 : exZ N f c 7 = dvZ (nuZ N f c (-2) - (-1) * exZ N f c 6) (ePz c) := rfl
  have e8 : exZ N f c 8 = dvZ (nuZ N f c (-3) - (-2) * exZ N f c 7) (ePz c) := rfl
  have g2 := df_m2 (nuZ N f c (-3) - ePz c * seZ N f c 1)
  have g3 := df_m1 (nuZ N f c (-2) - ePz c * seZ N f c 2)
  rw [← h2] at g2
  rw [← h3] at g3
  rw [hc] at hr g2 g3 e6 e7 e8
  have a6 : exZ N f c 6 = seZ N f c 3 := by
    rw [e6]
    exact db_m2 r3 (by omega)
  have a7 : exZ N f c 7 = seZ N f c 2 := by
    rw [e7, a6]
    exact db_m2 r2 (by omega)
  have a8 : exZ N f c 8 = seZ N f c 1 := by
    rw [e8, a7]
    exact db_m2 r1 (by omega)
  exact ⟨a6, a7, a8⟩
theorem ee_m1 {N : Nat → Int} {f c : Int} (hc : ePz c = -1) (hr : (nuZ N f c (-1) - ePz c * seZ N f c 3) % 32003 = 0) : exZ N f c 6 = seZ N f c 3 ∧ exZ N f c 7 = seZ N f c 2 ∧ exZ N f c 8 = seZ N f c 1 := by
  have r1 := seZ_rng N f c 1
  have r2 := seZ_rng N f c 2
  have r3 := seZ_rng N f c 3
  have h2 : seZ N f c 2 = dvZ (nuZ N f c (-3) - ePz c * seZ N f c 1) (-2) := rfl
  have h3 : seZ N f c 3 = dvZ (nuZ N f c (-2) - ePz c * seZ N f c 2) (-1) := rfl
  have e6 : exZ N f c 6 = dvZ (nuZ N f c (-1) - 0 * exZ N f c 5) (ePz c) := rfl
  have e7 : exZ N f c 7 = dvZ (nuZ N f c (-2) - (-1) * exZ N f c 6) (ePz c) := rfl
  have e8 : exZ N f c 8 = dvZ (nuZ N f c (-3) - (-2) * exZ N f c 7) (ePz c) := rfl
  have g2 := df_m2 (nuZ N f c (-3) - ePz c * seZ N f c 1)
  have g3 := df_m1 (nuZ N f c (-2) - ePz c * seZ N f c 2)
  rw [← h2] at g2
  rw [← h3] at g3
  rw [hc] at hr g2 g3 e6 e7 e8
  have a6 : exZ N f c 6 = seZ N f c 3 := by
    rw [e6]
    exact db_m1 r3 (by omega)
  have a7 : exZ N f c 7 = seZ N f c 2 := by
    rw [e7, a6]
    exact db_m1 r2 (by omega)
  have a8 : exZ N f c 8 = seZ N f c 1 := by
    rw [e8, a7]
    exact db_m1 r1 (by omega)
  exact ⟨a6, a7, a8⟩
theorem ee_p1 {N : Nat → Int} {f c : Int} (hc : ePz c = 1) (hr : (nuZ N f c (-1) - ePz c * seZ N f c 3) % 32003 = 0) : exZ N f c 6 = seZ N f c 3 ∧ exZ N f c 7 = seZ N f c 2 ∧ exZ N f c 8 = seZ N f c 1 := by
  have r1 := seZ_rng N f c 1
  have r2 := seZ_rng N f c 2
  have r3 := seZ_rng N f c 3
  have h2 : seZ N f c 2 = dvZ (nuZ N f c (-3) - ePz c * seZ N f c 1) (-2) := rfl
  have h3 : seZ N f c 3 = dvZ (nuZ N f c (-2) - ePz c * seZ N f c 2) (-1) := rfl
  have e6 : exZ N f c 6 = dvZ (nuZ N f c (-1) - 0 * exZ N f c 5) (ePz c) := rfl
  have e7 : exZ N f c 7 = dvZ (nuZ N f c (-2) - (-1) * exZ N f c 6) (ePz c) := rfl
  have e8 : exZ N f c 8 = dvZ (nuZ N f c (-3) - (-2) * exZ N f c 7) (ePz c) := rfl
  have g2 := df_m2 (nuZ N f c (-3) - ePz c * seZ N f c 1)
  have g3 := df_m1 (nuZ N f c (-2) - ePz c * seZ N f c 2)
  rw [← h2] at g2
  rw [← h3] at g3
  rw [hc] at hr g2 g3 e6 e7 e8
  have a6 : exZ N f c 6 = seZ N f c 3 := by
    rw [e6]
    exact db_p1 r3 (by omega)
  have a7 : exZ N f c 7 = seZ N f c 2 := by
    rw [e7, a6]
    exact db_p1 r2 (by omega)
  have a8 : exZ N f c 8 = seZ N f c 1 := by
    rw [e8, a7]
    exact db_p1 r1 (by omega)
  exact ⟨a6, a7, a8⟩
theorem ee_p2 {N : Nat → Int} {f c : Int} (hc : ePz c = 2) (hr : (nuZ N f c (-1) - ePz c * seZ N f c 3) % 32003 = 0) : exZ N f c 6 = seZ N f c 3 ∧ exZ N f c 7 = seZ N f c 2 ∧ exZ N f c 8 = seZ N f c 1 := by
  have r1 := seZ_rng N f c 1
  have r2 := seZ_rng N f c 2
  have r3 := seZ_rng N f c 3
  have h2 : seZ N f c 2 = dvZ (nuZ N f c (-3) - ePz c * seZ N f c 1) (-2) := rfl
  have h3 : seZ N f c 3 = dvZ (nuZ N f c (-2) - ePz c * seZ N f c 2) (-1) := rfl
  have e6 : exZ N f c 6 = dvZ (nuZ N f c (-1) - 0 * exZ N f c 5) (ePz c) := rfl
  have e7 : exZ N f c 7 = dvZ (nuZ N f c (-2) - (-1) * exZ N f c 6) (ePz c) := rfl
  have e8 : exZ N f c 8 = dvZ (nuZ N f c (-3) - (-2) * exZ N f c 7) (ePz c) := rfl
  have g2 := df_m2 (nuZ N f c (-3) - ePz c * seZ N f c 1)
  have g3 := df_m1 (nuZ N f c (-2) - ePz c * seZ N f c 2)
  rw [← h2] at g2
  rw [← h3] at g3
  rw [hc] at hr g2 g3 e6 e7 e8
  have a6 : exZ N f c 6 = seZ N f c 3 := by
    rw [e6]
    exact db_p2 r3 (by omega)
  have a7 : exZ N f c 7 = seZ N f c 2 := by
    rw [e7, a6]
    exact db_p2 r2 (by omega)
  have a8 : exZ N f c 8 = seZ N f c 1 := by
    rw [e8, a7]
    exact db_p2 r1 (by omega)
  exact ⟨a6, a7, a8⟩
theorem ee_all {N : Nat → Int} {f c : Int} (hc : 4 ≤ c ∧ c < 8) (hr : rsZ N f c = 0) : exZ N f c 6 = seZ N f c 3 ∧ exZ N f c 7 = seZ N f c 2 ∧ exZ N f c 8 = seZ N f c 1 := by
  unfold rsZ at hr
  rw [if_neg (by omega)] at hr
  rcases (show c = 4 ∨ c = 5 ∨ c = 6 ∨ c = 7 by omega) with h | h | h | h
  · exact ee_m2 (by rw [h]; decide) hr
  · exact ee_m1 (by rw [h]; decide) hr
  · exact ee_p1 (by rw [h]; decide) hr
  · exact ee_p2 (by rw [h]; decide) hr
theorem hr_zero {N : Nat → Int} {f c : Int} (h : hrZ N f = 0) (hc : 4 ≤ c ∧ c < 8) : rsZ N f c = 0 := by
  unfold hrZ at h
  split at h
  · next h1 =>
    have := h1 (c - 4).toNat (by omega)
    rwa [show (((c - 4).toNat : Nat) : Int) + 4 = c by omega] at this
  · omega
theorem hr_one {N : Nat → Int} {f : Int} (h : hrZ N f = 1) (h1 : ∀ c : Int, 4 ≤ c → c < 8 → rsZ N f c = 0) : False := by
  unfold hrZ at h
  rw [if_pos (fun c hc => h1 _ (by omega) (by omega))] at h
  omega
theorem it_zero {N : Nat → Int} {f : Int} (h : itZ N f = 0) : (∀ c : Int, 0 ≤ c → c < 4 → nuZ N f c 4 = 0) ∧ nuZ N f 3 (-1) = 0 := by
  unfold itZ at h
  split at h
  · next h1 =>
    refine ⟨fun c h2 h3 => ?_, h1.2⟩
    have := h1.1 c.toNat (by omega)
    rwa [Int.toNat_of_nonneg h2] at this
  · omega
theorem it_one {N : Nat → Int} {f : Int} (h : itZ N f = 1) (h1 : ∀ c : Int, 0 ≤ c → c < 4 → nuZ N f c 4 = 0) (h2 : nuZ N f 3 (-1) = 0) : False := by
  unfold itZ at h
  rw [if_pos ⟨fun c hc => h1 c (by omega) (by omega), h2⟩] at h
  omega
/-- a row in the making: the places of P hold the integral's numbers, the others 0 -/
def igR (N : Nat → Int) (f : Int) (P : Int → Int → Bool) (g : Nat → Int) : Prop := ∀ j : Nat, j < 72 → g j = if P (jC j) (jN j) = true then igZ N f (jC j) (jN j) else 0
theorem jr_72 {j : Nat} (h : j < 72) : 0 ≤ jC j ∧ jC j < 8 ∧ -4 ≤ jN j ∧ jN j ≤ 4 ∧ (j : Int) = jC j * 9 + jN j + 4 := by
  unfold jC jN
  omega
theorem igR_step {N : Nat → Int} {f : Int} {P P' : Int → Int → Bool} {g : Nat → Int} {c n x : Int} (h : igR N f P g) (hc : 0 ≤ c ∧ c < 8) (hn : -4 ≤ n ∧ n ≤ 4) (hx : x = igZ N f c n) (hP : ∀ a m : Int, 0 ≤ a → a < 8 → -4 ≤ m → m ≤ 4 → (P' a m = true ↔ (P a m = true ∨ (a = c ∧ m = n)))) : igR N f P' (uZ g (c * 9 + n + 4).toNat x) := by
  intro j hj
  obtain ⟨a1, a2, a3, a4, a5⟩ := jr_72 hj
  have hh := hP _ _ a1 a2 a3 a4
  unfold uZ
  by_cases h2 : j = (c * 9 + n + 4).toNat
  · have e1 : jC j = c := by omega
    have e2 : jN j = n := by omega
    rw [if_pos h2, if_pos (hh.mpr (Or.inr ⟨e1, e2⟩)), e1, e2, hx]
  · rw [if_neg h2, h j hj]
    by_cases h3 : P (jC j) (jN j) = true
    · rw [if_pos h3, if_pos (hh.mpr (Or.inl h3))]
    · rw [if_neg h3, if_neg]
      intro q
      rcases hh.mp q with h4 | ⟨h4, h5⟩
      · exact h3 h4
      · omega
theorem igR_same {N : Nat → Int} {f : Int} {P P' : Int → Int → Bool} {g : Nat → Int} (h : igR N f P g) (hP : ∀ a m : Int, 0 ≤ a → a < 8 → -4 ≤ m → m ≤ 4 → (P a m = true ↔ P' a m = true)) : igR N f P' g := by
  intro j hj
  obtain ⟨a1, a2, a3, a4, a5⟩ := jr_72 hj
  have hh := hP _ _ a1 a2 a3 a4
  rw [h j hj]
  by_cases h3 : P (jC j) (jN j) = true
  · rw [if_pos h3, if_pos (hh.mp h3)]
  · rw [if_neg h3, if_neg (fun q => h3 (hh.mpr q))]
theorem igR_0 {N : Nat → Int} {f : Int} {P : Int → Int → Bool} {g : Nat → Int} (h : ∀ j : Nat, j < 72 → g j = 0) (hP : ∀ a m : Int, 0 ≤ a → a < 8 → -4 ≤ m → m ≤ 4 → P a m = false) : igR N f P g := by
  intro j hj
  obtain ⟨a1, a2, a3, a4, a5⟩ := jr_72 hj
  rw [h j hj, if_neg (by rw [hP _ _ a1 a2 a3 a4]; decide)]
theorem igR_at {N : Nat → Int} {f : Int} {P : Int → Int → Bool} {g : Nat → Int} {c n : Int} (h : igR N f P g) (hc : 0 ≤ c ∧ c < 8) (hn : -4 ≤ n ∧ n ≤ 4) (hp : P c n = true) : g (c * 9 + n + 4).toNat = igZ N f c n := by
  rw [h _ (by omega), jC_at hc.1 hn, jN_at hc.1 hn, if_pos hp]
theorem ig_ex {N : Nat → Int} {f c n x : Int} (hc : 4 ≤ c) (hn : -3 ≤ n) (hx : x = exZ N f c (5 - n).toNat) : x = igZ N f c n := by
  unfold igZ
  rw [if_neg (by omega), if_pos hc, hx]
theorem ig_lg {N : Nat → Int} {f c n : Int} (hc : c < 4) (hn : -3 ≤ n ∧ n ≠ 0) : igZ N f c n = lgZ N f n (4 - c).toNat := by
  unfold igZ
  rw [if_neg (by omega), if_neg (by omega), if_neg hn.2]
theorem ig_c0 {N : Nat → Int} {f c : Int} (hc : 1 ≤ c ∧ c < 4) : igZ N f c 0 = dvZ (nuZ N f (c - 1) (-1)) c := by
  unfold igZ
  rw [if_neg (by omega), if_neg (by omega), if_pos rfl, if_neg (by omega)]
theorem igR_end {N : Nat → Int} {f : Int} {g : Nat → Int} (h : igR N f (fun a q => decide ((4 ≤ a ∧ -3 ≤ q) ∨ (a < 4 ∧ -3 ≤ q ∧ q ≠ 0) ∨ (1 ≤ a ∧ a < 4 ∧ q = 0))) g) : ∀ j : Nat, j < 72 → g j = igZ N f (jC j) (jN j) := by
  intro j hj
  obtain ⟨a1, a2, a3, a4, a5⟩ := jr_72 hj
  rw [h j hj]
  by_cases h3 : decide ((4 ≤ jC j ∧ -3 ≤ jN j) ∨ (jC j < 4 ∧ -3 ≤ jN j ∧ jN j ≠ 0) ∨ (1 ≤ jC j ∧ jC j < 4 ∧ jN j = 0)) = true
  · rw [if_pos h3]
  · rw [if_neg h3]
    simp only [decide_eq_true_eq] at h3
    unfold igZ
    by_cases h4 : jN j = -4
    · rw [if_pos h4]
    · rw [if_neg h4, if_neg (by omega), if_pos (by omega), if_pos (by omega)]
