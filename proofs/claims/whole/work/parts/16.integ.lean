/-- some places of a row of 72 written anew -/
def paZ (F : Nat → Int) (b : Nat) (P : Int → Int → Bool) (v : Int → Int → Int) : Nat → Int := fun j => if (b ≤ j ∧ j < b + 72) ∧ P (jC (j - b)) (jN (j - b)) = true then v (jC (j - b)) (jN (j - b)) else F j
theorem jj_rng {j b : Nat} (h : b ≤ j ∧ j < b + 72) : 0 ≤ jC (j - b) ∧ jC (j - b) < 8 ∧ -4 ≤ jN (j - b) ∧ jN (j - b) ≤ 4 ∧ ((j : Int) = b + jC (j - b) * 9 + jN (j - b) + 4) := by
  unfold jC jN
  omega
theorem pa_0 {F : Nat → Int} {b : Nat} {P : Int → Int → Bool} {v : Int → Int → Int} (h : ∀ c n : Int, 0 ≤ c → c < 8 → -4 ≤ n → n ≤ 4 → P c n = false) : F = paZ F b P v := by
  funext j
  unfold paZ
  rw [if_neg]
  intro ⟨h1, h2⟩
  obtain ⟨a1, a2, a3, a4, -⟩ := jj_rng h1
  rw [h _ _ a1 a2 a3 a4] at h2
  cases h2
theorem pa_step {F : Nat → Int} {b z x : Int} {P P' : Int → Int → Bool} {v : Int → Int → Int} {c n : Int} (hb : 0 ≤ b) (hc : 0 ≤ c ∧ c < 8) (hn : -4 ≤ n ∧ n ≤ 4) (hz : z = b + c * 9 + n + 4) (hx : x = v c n)
    (h : ∀ a m : Int, 0 ≤ a → a < 8 → -4 ≤ m → m ≤ 4 → (P' a m = true ↔ (P a m = true ∨ (a = c ∧ m = n)))) : uZ (paZ F b.toNat P v) z.toNat x = paZ F b.toNat P' v := by
  funext j
  unfold uZ paZ
  by_cases hj : j = z.toNat
  · have hr : b.toNat ≤ j ∧ j < b.toNat + 72 := by omega
    obtain ⟨a1, a2, a3, a4, a5⟩ := jj_rng hr
    have e1 : jC (j - b.toNat) = c := by omega
    have e2 : jN (j - b.toNat) = n := by omega
    rw [if_pos hj, if_pos ⟨hr, by rw [e1, e2]; exact (h c n hc.1 hc.2 hn.1 hn.2).mpr (Or.inr ⟨rfl, rfl⟩)⟩, e1, e2, hx]
  · rw [if_neg hj]
    by_cases hr : b.toNat ≤ j ∧ j < b.toNat + 72
    · obtain ⟨a1, a2, a3, a4, a5⟩ := jj_rng hr
      have hh := h _ _ a1 a2 a3 a4
      by_cases hp : P (jC (j - b.toNat)) (jN (j - b.toNat)) = true
      · rw [if_pos ⟨hr, hp⟩, if_pos ⟨hr, hh.mpr (Or.inl hp)⟩]
      · rw [if_neg (fun q => hp q.2), if_neg]
        intro q
        rcases hh.mp q.2 with h1 | ⟨h1, h2⟩
        · exact hp h1
        · omega
    · rw [if_neg (fun q => hr q.1), if_neg (fun q => hr q.1)]
theorem pa_same {F : Nat → Int} {b : Nat} {P P' : Int → Int → Bool} {v : Int → Int → Int} (h : ∀ a m : Int, 0 ≤ a → a < 8 → -4 ≤ m → m ≤ 4 → (P a m = true ↔ P' a m = true)) : paZ F b P v = paZ F b P' v := by
  funext j
  unfold paZ
  by_cases hr : b ≤ j ∧ j < b + 72
  · obtain ⟨a1, a2, a3, a4, a5⟩ := jj_rng hr
    have hh := h _ _ a1 a2 a3 a4
    by_cases hp : P (jC (j - b)) (jN (j - b)) = true
    · rw [if_pos ⟨hr, hp⟩, if_pos ⟨hr, hh.mp hp⟩]
    · rw [if_neg (fun q => hp q.2), if_neg (fun q => hp (hh.mpr q.2))]
  · rw [if_neg (fun q => hr q.1), if_neg (fun q => hr q.1)]
theorem nu_pa {F : Nat → Int} {b : Nat} {P : Int → Int → Bool} {v : Int → Int → Int} {f c n : Int} (h : (f + 1) * 72 ≤ b) : nuZ (paZ F b P v) f c n = nuZ F f c n := by
  unfold nuZ
  by_cases h1 : 0 ≤ f ∧ f < 60 ∧ 0 ≤ c ∧ c < 8 ∧ -4 ≤ n ∧ n ≤ 4
  · rw [if_pos h1, if_pos h1]
    unfold paZ
    rw [if_neg (by omega)]
  · rw [if_neg h1, if_neg h1]
theorem pa_rng {F : Nat → Int} {b : Nat} {P : Int → Int → Bool} {v : Int → Int → Int} (hF : ∀ j, 0 ≤ F j ∧ F j < 32003) (hv : ∀ c n, 0 ≤ v c n ∧ v c n < 32003) : ∀ j, 0 ≤ paZ F b P v j ∧ paZ F b P v j < 32003 := by
  intro j
  unfold paZ
  split
  · exact hv _ _
  · exact hF _
/-! the integral's numbers -/
def lgZ (F : Nat → Int) (f n : Int) : Nat → Int
  | 0 => 0
  | m + 1 => dvZ (nuZ F f (3 - (m : Int)) (n - 1) - (4 - (m : Int)) * lgZ F f n m) n
theorem lgZ_rng (F : Nat → Int) (f n : Int) (m : Nat) : 0 ≤ lgZ F f n m ∧ lgZ F f n m < 32003 := by
  cases m with
  | zero => exact ⟨Int.le_refl _, by unfold lgZ; omega⟩
  | succ m => exact dvZ_rng _ _
theorem lg_at {F : Nat → Int} {f n c u : Int} (hc : 0 ≤ c ∧ c ≤ 3) (hu : u = lgZ F f n (3 - c).toNat) : dvZ (nuZ F f c (n - 1) - (c + 1) * u) n = lgZ F f n (4 - c).toNat := by
  rw [show (4 - c).toNat = (3 - c).toNat + 1 by omega]
  show _ = dvZ (nuZ F f (3 - (((3 - c).toNat : Nat) : Int)) (n - 1) - (4 - (((3 - c).toNat : Nat) : Int)) * lgZ F f n (3 - c).toNat) n
  rw [show 3 - (((3 - c).toNat : Nat) : Int) = c by omega, show 4 - (((3 - c).toNat : Nat) : Int) = c + 1 by omega, hu]
def exZ (F : Nat → Int) (f c : Int) : Nat → Int
  | 0 => 0
  | m + 1 => dvZ (nuZ F f c (4 - (m : Int)) - (5 - (m : Int)) * exZ F f c m) (ePz c)
theorem exZ_rng (F : Nat → Int) (f c : Int) (m : Nat) : 0 ≤ exZ F f c m ∧ exZ F f c m < 32003 := by
  cases m with
  | zero => exact ⟨Int.le_refl _, by unfold exZ; omega⟩
  | succ m => exact dvZ_rng _ _
theorem ex_at {F : Nat → Int} {f c n u : Int} (hn : n ≤ 4) (hu : u = exZ F f c (4 - n).toNat) : dvZ (nuZ F f c n - (n + 1) * u) (ePz c) = exZ F f c (5 - n).toNat := by
  rw [show (5 - n).toNat = (4 - n).toNat + 1 by omega]
  show _ = dvZ (nuZ F f c (4 - (((4 - n).toNat : Nat) : Int)) - (5 - (((4 - n).toNat : Nat) : Int)) * exZ F f c (4 - n).toNat) (ePz c)
  rw [show 4 - (((4 - n).toNat : Nat) : Int) = n by omega, show 5 - (((4 - n).toNat : Nat) : Int) = n + 1 by omega, hu]
set_option maxHeartbeats 4000000 in
set_option maxRecDepth 100000 in
theorem k_X0_draftLogIntegral (l : Launch) (D : va_G) (o q1 q2 : Nat) (cI : ClassId) (tE tL : Nat) (F G : Nat → Int) (k : Int) (f : Int) (hd : dX o q1 q2) (hF : ∀ j, 0 ≤ F j ∧ F j < 32003) (hk : 0 ≤ k ∧ k < 60) (hf : 0 ≤ f ∧ f < k) : wr_M l yX0_draftLogIntegral cX0_draftLogIntegral 5 none ({ frames := 4, cells := 0, slots := 0, locals := 88 }) [.int (iZ f)] D o q1 q2 cI tE tL F G k none (paZ F (k * 72).toNat (fun c n => decide (c < 4 ∧ -3 ≤ n ∧ n ≠ 0)) (fun c n => lgZ F f n (4 - c).toNat)) G k := by
  refine wr_of (by decide) rfl (Nat.le_of_ble_eq_true rfl) ?_
  intro p e s m below meth c A hAe S hr hlk hP hK hs hA hAn hS ls hl
  obtain ⟨hx, hb, hml, hown, hT⟩ := id S
  obtain ⟨⟨hZE, hTE⟩, hZL, hTL⟩ := id hs
  have hl : lv_has ls 5 [(0, .ref o), (1, .int (iZ f))] := hl
  refine zi_bi hx hb (-3) dX0_draftLogIntegral_0 (by decide) ?_
  refine lv_istore_n (lv' := [(2, .int (iZ (-3))), (0, .ref o), (1, .int (iZ f))]) hx hb dX0_draftLogIntegral_2 rfl hl (by decide) rfl (fun ls hl => ?_)
  refine lp_goX (nL := 5) (α := Int) (fun z => [(0, .ref o), (1, .int (iZ f)), (2, .int (iZ z))]) (fun z => paZ F (k * 72).toNat (fun a q => decide (a < 4 ∧ -3 ≤ q ∧ q ≠ 0 ∧ q < z)) (fun a q => lgZ F f q (4 - a).toNat)) (fun _ => G) (fun _ => k) (fun m3 z => -3 ≤ z ∧ z + (m3 : Int) = 5) ?_ 8 (((-3) : Int)) (by (try dsimp only); omega) _ _ (wP_eq hP (pa_0 (fun a q h1 h2 h3 h4 => by simp only [decide_eq_false_iff_not]; omega)) rfl rfl) hS ls (lv_sub hl [1, 2, 0] rfl)
  intro m3 z1 hI3 ih3 H locs hP hS ls hl
  obtain ⟨n, rfl⟩ : ∃ y : Int, y = z1 := ⟨_, rfl⟩
  have hl : lv_has ls 5 [(0, .ref o), (1, .int (iZ f)), (2, .int (iZ n))] := hl
  have hI3 : -3 ≤ n ∧ n + (m3 : Int) = 5 := hI3
  have hP : va_P D vwCl (wX o q1 q2 cI (paZ F (k * 72).toNat (fun a q => decide (a < 4 ∧ -3 ≤ q ∧ q ≠ 0 ∧ q < n)) (fun a q => lgZ F f q (4 - a).toNat)) G k) H := hP
  obtain ⟨F2, eF2⟩ : ∃ Z : Nat → Int, Z = paZ F (k * 72).toNat (fun a q => decide (a < 4 ∧ -3 ≤ q ∧ q ≠ 0 ∧ q < n)) (fun a q => lgZ F f q (4 - a).toNat) := ⟨_, rfl⟩
  rw [← eF2] at hP
  have hFi : ∀ j, 0 ≤ F2 j ∧ F2 j < 32003 := by
    rw [eF2]
    exact pa_rng hF (fun c n => lgZ_rng _ _ _ _)
  refine lv_iload_n hx hb dX0_draftLogIntegral_3 rfl (lv_at hl 2 rfl) ?_
  refine zi_const hx hb 4 dX0_draftLogIntegral_4 ?_
  refine zi_cgt (tgt := 67) hx hb dX0_draftLogIntegral_5 (by decide) (by omega) (by omega) (fun hc5 => ?_) (fun hc5 => ?_)
  · exact wr_vret hx hb hr hlk (wP_eq hP ((by rw [eF2]; exact pa_same (fun a q h1 h2 h3 h4 => by simp only [decide_eq_true_eq]; omega))) rfl rfl) hS rfl dX0_draftLogIntegral_67
  · refine lv_iload_n hx hb dX0_draftLogIntegral_8 rfl (lv_at hl 2 rfl) ?_
    refine zi_feq (tgt := 61) hx hb dX0_draftLogIntegral_9 (by decide) (by omega) (fun hc9 => ?_) (fun hc9 => ?_)
    · refine zi_inc (lv' := [(2, .int (iZ (n + 1))), (0, .ref o), (1, .int (iZ f))]) hx hb dX0_draftLogIntegral_61 hl (k := 2) rfl (by decide) rfl (fun ls hl => ?_)
      refine lv_goto (tgt := 3) hx hb dX0_draftLogIntegral_64 (by decide) ?_
      exact ih3 (m3 - 1) (n + 1) (by omega) (by (try dsimp only); omega) _ _ (wP_eq hP ((by rw [eF2]; exact pa_same (fun a q h1 h2 h3 h4 => by simp only [decide_eq_true_eq]; omega))) rfl rfl) hS ls (lv_sub hl [1, 2, 0] rfl)
    · refine zi_const hx hb 0 dX0_draftLogIntegral_12 ?_
      refine lv_istore_n (lv' := [(3, .int (iZ 0)), (0, .ref o), (1, .int (iZ f)), (2, .int (iZ n))]) hx hb dX0_draftLogIntegral_13 rfl hl (by decide) rfl (fun ls hl => ?_)
      refine zi_const hx hb 3 dX0_draftLogIntegral_14 ?_
      refine lv_istore (lv' := [(4, .int (iZ 3)), (3, .int (iZ 0)), (0, .ref o), (1, .int (iZ f)), (2, .int (iZ n))]) hx hb dX0_draftLogIntegral_15 hl (by decide) rfl (fun ls hl => ?_)
      refine lp_goX (nL := 5) (α := Int × Int) (fun z => [(0, .ref o), (1, .int (iZ f)), (2, .int (iZ n)), (3, .int (iZ z.1)), (4, .int (iZ z.2))]) (fun z => paZ F (k * 72).toNat (fun a q => decide (a < 4 ∧ -3 ≤ q ∧ q ≠ 0 ∧ (q < n ∨ (q = n ∧ z.2 < a)))) (fun a q => lgZ F f q (4 - a).toNat)) (fun _ => G) (fun _ => k) (fun m17 z => -1 ≤ z.2 ∧ z.2 ≤ 3 ∧ z.2 + 1 = (m17 : Int) ∧ z.1 = lgZ F f n (3 - z.2).toNat) ?_ 4 ((0 : Int), (3 : Int)) (by (try dsimp only); exact ⟨by omega, by omega, by omega, rfl⟩) _ _ (wP_eq hP ((by rw [eF2]; exact pa_same (fun a q h1 h2 h3 h4 => by simp only [decide_eq_true_eq]; omega))) rfl rfl) hS ls (lv_sub hl [2, 3, 4, 1, 0] rfl)
      intro m17 z3 hI17 ih17 H locs hP hS ls hl
      obtain ⟨u, c1⟩ := z3
      have hl : lv_has ls 5 [(0, .ref o), (1, .int (iZ f)), (2, .int (iZ n)), (3, .int (iZ u)), (4, .int (iZ c1))] := hl
      have hI17 : -1 ≤ c1 ∧ c1 ≤ 3 ∧ c1 + 1 = (m17 : Int) ∧ u = lgZ F f n (3 - c1).toNat := hI17
      have hP : va_P D vwCl (wX o q1 q2 cI (paZ F (k * 72).toNat (fun a q => decide (a < 4 ∧ -3 ≤ q ∧ q ≠ 0 ∧ (q < n ∨ (q = n ∧ c1 < a)))) (fun a q => lgZ F f q (4 - a).toNat)) G k) H := hP
      obtain ⟨F4, eF4⟩ : ∃ Z : Nat → Int, Z = paZ F (k * 72).toNat (fun a q => decide (a < 4 ∧ -3 ≤ q ∧ q ≠ 0 ∧ (q < n ∨ (q = n ∧ c1 < a)))) (fun a q => lgZ F f q (4 - a).toNat) := ⟨_, rfl⟩
      rw [← eF4] at hP
      have hFi : ∀ j, 0 ≤ F4 j ∧ F4 j < 32003 := by
        rw [eF4]
        exact pa_rng hF (fun c n => lgZ_rng _ _ _ _)
      have hur := lgZ_rng F f n (3 - c1).toNat
      rw [← hI17.2.2.2] at hur
      have hsm := fun h => sm_mul (a := c1 + 1) h hur
      refine lv_iload hx hb dX0_draftLogIntegral_17 (lv_at hl 4 rfl) ?_
      refine zi_flt (tgt := 61) hx hb dX0_draftLogIntegral_19 (by decide) (by omega) (fun hc19 => ?_) (fun hc19 => ?_)
      · refine zi_inc (lv' := [(2, .int (iZ (n + 1))), (0, .ref o), (1, .int (iZ f)), (3, .int (iZ u)), (4, .int (iZ c1))]) hx hb dX0_draftLogIntegral_61 hl (k := 2) rfl (by decide) rfl (fun ls hl => ?_)
        refine lv_goto (tgt := 3) hx hb dX0_draftLogIntegral_64 (by decide) ?_
        exact ih3 (m3 - 1) (n + 1) (by omega) (by (try dsimp only); omega) _ _ (wP_eq hP ((by rw [eF4]; exact pa_same (fun a q h1 h2 h3 h4 => by simp only [decide_eq_true_eq]; omega))) rfl rfl) hS ls (lv_sub hl [1, 2, 0] rfl)
      · refine lv_aload_n hx hb dX0_draftLogIntegral_22 rfl (lv_at hl 0 rfl) ?_
        refine lv_iload_n hx hb dX0_draftLogIntegral_23 rfl (lv_at hl 1 rfl) ?_
        refine lv_iload hx hb dX0_draftLogIntegral_24 (lv_at hl 4 rfl) ?_
        refine lv_iload_n hx hb dX0_draftLogIntegral_26 rfl (lv_at hl 2 rfl) ?_
        refine zi_const hx hb 1 dX0_draftLogIntegral_27 ?_
        refine zi_sub hx hb dX0_draftLogIntegral_28 ?_
        refine rd_V (As := [.int (iZ f), .int (iZ c1), .int (iZ (n - 1))]) (rest := []) (st1 := [.int (iZ (nuZ F4 f c1 (n - 1)))]) S (k_X0_number l D o q1 q2 cI tE tL F4 G k f c1 (n - 1) (by omega) (by omega) (by omega)) tb_197 tb_199 ts_X0_number tb_1 tb_200 hd_X0_number ⟨rfl, rfl, by decide, by decide⟩ rX_bl (rX_w hP hK rfl hs hS) (va_recv hK hP (ci := 0) (q0 := 0) rfl rfl) rfl hl.1 rfl (Nat.le_of_ble_eq_true rfl) dX0_draftLogIntegral_29 ⟨Nat.zero_le _, Nat.zero_le _⟩ rfl ?_
        have hn32 := nuZ_rng hFi f c1 (n - 1)
        refine zi_i2l hx hb dX0_draftLogIntegral_32 (by omega) ?_
        refine lv_iload hx hb dX0_draftLogIntegral_33 (lv_at hl 4 rfl) ?_
        refine zi_const hx hb 1 dX0_draftLogIntegral_35 ?_
        refine zi_add hx hb dX0_draftLogIntegral_36 ?_
        refine zi_i2l hx hb dX0_draftLogIntegral_37 (by omega) ?_
        refine lv_iload_n hx hb dX0_draftLogIntegral_38 rfl (lv_at hl 3 rfl) ?_
        refine zi_i2l hx hb dX0_draftLogIntegral_39 (by omega) ?_
        refine zl_mul hx hb dX0_draftLogIntegral_40 ?_
        refine zl_sub hx hb dX0_draftLogIntegral_41 ?_
        refine lv_iload_n hx hb dX0_draftLogIntegral_42 rfl (lv_at hl 2 rfl) ?_
        refine rd_S (As := [.long (lZ ((nuZ F4 f c1 (n - 1)) - ((c1 + 1) * u))), .int (iZ n)]) (rest := []) (st1 := [.int (iZ (dvZ ((nuZ F4 f c1 (n - 1)) - ((c1 + 1) * u)) n))]) S (k_X0_divide l ((nuZ F4 f c1 (n - 1)) - ((c1 + 1) * u)) n (by have := hsm (by omega); omega) (by omega)) tb_310 tb_311 tb_1 tb_312 hd_X0_divide ⟨rfl, rfl, by decide, by decide⟩ bl_T (fun _ _ _ => trivial) rfl hl.1 rfl (Nat.le_of_ble_eq_true rfl) dX0_draftLogIntegral_43 ⟨Nat.zero_le _, Nat.zero_le _⟩ rfl ?_
        refine zi_top (fun v5 ev5 => ?_)
        refine lv_istore_n (lv' := [(3, .int (iZ v5)), (0, .ref o), (1, .int (iZ f)), (2, .int (iZ n)), (4, .int (iZ c1))]) hx hb dX0_draftLogIntegral_46 rfl hl (by decide) rfl (fun ls hl => ?_)
        refine lv_aload_n hx hb dX0_draftLogIntegral_47 rfl (lv_at hl 1 rfl) ?_
        refine lv_iload hx hb dX0_draftLogIntegral_48 (lv_at hl 4 rfl) ?_
        refine lv_iload_n hx hb dX0_draftLogIntegral_50 rfl (lv_at hl 3 rfl) ?_
        refine lv_iload_n hx hb dX0_draftLogIntegral_51 rfl (lv_at hl 0 rfl) ?_
        refine wr_V (As := [.int (iZ c1), .int (iZ n), .int (iZ v5)]) (rest := []) (st1 := []) (F' := uZ F4 (k * 72 + c1 * 9 + n + 4).toNat v5) (G' := G) (k' := k) S (k_X0_setDraft l D o q1 q2 cI tE tL F4 G k c1 n v5 hd (by omega) (by omega) (by omega)) tb_147 tb_149 ts_X0_setDraft tb_1 tb_150 hd_X0_setDraft ⟨rfl, rfl, by decide, by decide⟩ hP hK rfl hs hS hA hAn rfl hl.1 rfl (Nat.le_of_ble_eq_true rfl) dX0_draftLogIntegral_52 ⟨Nat.zero_le _, Nat.zero_le _⟩ rfl (fun H locs hP hS _ _ => ?_)
        obtain ⟨F6, eF6⟩ : ∃ Z : Nat → Int, Z = uZ F4 (k * 72 + c1 * 9 + n + 4).toNat v5 := ⟨_, rfl⟩
        rw [← eF6] at hP
        refine zi_inc (lv' := [(4, .int (iZ (c1 + (-1)))), (3, .int (iZ v5)), (0, .ref o), (1, .int (iZ f)), (2, .int (iZ n))]) hx hb dX0_draftLogIntegral_55 hl (k := 4) rfl (by decide) rfl (fun ls hl => ?_)
        refine lv_goto (tgt := 17) hx hb dX0_draftLogIntegral_58 (by decide) ?_
        exact ih17 (m17 - 1) (v5, c1 + (-1)) (by omega) (by (try dsimp only); refine ⟨by omega, by omega, by omega, ?_⟩; rw [show (3 - (c1 + -1)).toNat = (4 - c1).toNat by omega, ev5, eF4, nu_pa (by omega)]; exact lg_at (by omega) hI17.2.2.2) _ _ (wP_eq hP ((by rw [eF6, eF4]; exact pa_step (c := c1) (n := n) (by omega) (by omega) (by omega) (by omega) (by rw [ev5, eF4, nu_pa (by omega)]; exact lg_at (by omega) hI17.2.2.2) (fun a q h1 h2 h3 h4 => by simp only [decide_eq_true_eq]; omega))) rfl rfl) hS ls (lv_sub hl [2, 3, 4, 1, 0] rfl)
set_option maxHeartbeats 4000000 in
set_option maxRecDepth 100000 in
theorem k_X0_draftConstantPowerIntegral (l : Launch) (D : va_G) (o q1 q2 : Nat) (cI : ClassId) (tE tL : Nat) (F G : Nat → Int) (k : Int) (f : Int) (hd : dX o q1 q2) (hF : ∀ j, 0 ≤ F j ∧ F j < 32003) (hk : 0 ≤ k ∧ k < 60) (hf : 0 ≤ f ∧ f < k) : wr_M l yX0_draftConstantPowerIntegral cX0_draftConstantPowerIntegral 3 none ({ frames := 4, cells := 0, slots := 0, locals := 88 }) [.int (iZ f)] D o q1 q2 cI tE tL F G k none (paZ F (k * 72).toNat (fun c n => decide (1 ≤ c ∧ c < 4 ∧ n = 0)) (fun c n => dvZ (nuZ F f (c - 1) (-1)) c)) G k := by
  refine wr_of (by decide) rfl (Nat.le_of_ble_eq_true rfl) ?_
  intro p e s m below meth c A hAe S hr hlk hP hK hs hA hAn hS ls hl
  obtain ⟨hx, hb, hml, hown, hT⟩ := id S
  obtain ⟨⟨hZE, hTE⟩, hZL, hTL⟩ := id hs
  have hl : lv_has ls 3 [(0, .ref o), (1, .int (iZ f))] := hl
  refine zi_const hx hb 1 dX0_draftConstantPowerIntegral_0 ?_
  refine lv_istore_n (lv' := [(2, .int (iZ 1)), (0, .ref o), (1, .int (iZ f))]) hx hb dX0_draftConstantPowerIntegral_1 rfl hl (by decide) rfl (fun ls hl => ?_)
  refine lp_goX (nL := 3) (α := Int) (fun z => [(0, .ref o), (1, .int (iZ f)), (2, .int (iZ z))]) (fun z => paZ F (k * 72).toNat (fun a q => decide (1 ≤ a ∧ a < z ∧ q = 0)) (fun a q => dvZ (nuZ F f (a - 1) (-1)) a)) (fun _ => G) (fun _ => k) (fun m2 z => 1 ≤ z ∧ z + (m2 : Int) = 4) ?_ 3 ((1 : Int)) (by (try dsimp only); omega) _ _ (wP_eq hP (pa_0 (fun a q h1 h2 h3 h4 => by simp only [decide_eq_false_iff_not]; omega)) rfl rfl) hS ls (lv_sub hl [1, 2, 0] rfl)
  intro m2 z1 hI2 ih2 H locs hP hS ls hl
  obtain ⟨c1, rfl⟩ : ∃ y : Int, y = z1 := ⟨_, rfl⟩
  have hl : lv_has ls 3 [(0, .ref o), (1, .int (iZ f)), (2, .int (iZ c1))] := hl
  have hI2 : 1 ≤ c1 ∧ c1 + (m2 : Int) = 4 := hI2
  have hP : va_P D vwCl (wX o q1 q2 cI (paZ F (k * 72).toNat (fun a q => decide (1 ≤ a ∧ a < c1 ∧ q = 0)) (fun a q => dvZ (nuZ F f (a - 1) (-1)) a)) G k) H := hP
  obtain ⟨F2, eF2⟩ : ∃ Z : Nat → Int, Z = paZ F (k * 72).toNat (fun a q => decide (1 ≤ a ∧ a < c1 ∧ q = 0)) (fun a q => dvZ (nuZ F f (a - 1) (-1)) a) := ⟨_, rfl⟩
  rw [← eF2] at hP
  have hFi : ∀ j, 0 ≤ F2 j ∧ F2 j < 32003 := by
    rw [eF2]
    exact pa_rng hF (fun c n => dvZ_rng _ _)
  refine lv_iload_n hx hb dX0_draftConstantPowerIntegral_2 rfl (lv_at hl 2 rfl) ?_
  refine zi_const hx hb 3 dX0_draftConstantPowerIntegral_3 ?_
  refine zi_cgt (tgt := 33) hx hb dX0_draftConstantPowerIntegral_4 (by decide) (by omega) (by omega) (fun hc4 => ?_) (fun hc4 => ?_)
  · exact wr_vret hx hb hr hlk (wP_eq hP ((by rw [eF2]; exact pa_same (fun a q h1 h2 h3 h4 => by simp only [decide_eq_true_eq]; omega))) rfl rfl) hS rfl dX0_draftConstantPowerIntegral_33
  · refine lv_aload_n hx hb dX0_draftConstantPowerIntegral_7 rfl (lv_at hl 0 rfl) ?_
    refine lv_iload_n hx hb dX0_draftConstantPowerIntegral_8 rfl (lv_at hl 2 rfl) ?_
    refine zi_const hx hb 0 dX0_draftConstantPowerIntegral_9 ?_
    refine lv_aload_n hx hb dX0_draftConstantPowerIntegral_10 rfl (lv_at hl 0 rfl) ?_
    refine lv_iload_n hx hb dX0_draftConstantPowerIntegral_11 rfl (lv_at hl 1 rfl) ?_
    refine lv_iload_n hx hb dX0_draftConstantPowerIntegral_12 rfl (lv_at hl 2 rfl) ?_
    refine zi_const hx hb 1 dX0_draftConstantPowerIntegral_13 ?_
    refine zi_sub hx hb dX0_draftConstantPowerIntegral_14 ?_
    refine zi_const hx hb (-1) dX0_draftConstantPowerIntegral_15 ?_
    refine rd_V (As := [.int (iZ f), .int (iZ (c1 - 1)), .int (iZ (-1))]) (rest := [.int (iZ 0), .int (iZ c1), .ref o]) (st1 := [.int (iZ (nuZ F2 f (c1 - 1) (-1))), .int (iZ 0), .int (iZ c1), .ref o]) S (k_X0_number l D o q1 q2 cI tE tL F2 G k f (c1 - 1) (-1) (by omega) (by omega) (by omega)) tb_197 tb_199 ts_X0_number tb_1 tb_200 hd_X0_number ⟨rfl, rfl, by decide, by decide⟩ rX_bl (rX_w hP hK rfl hs hS) (va_recv hK hP (ci := 0) (q0 := 0) rfl rfl) rfl hl.1 rfl (Nat.le_of_ble_eq_true rfl) dX0_draftConstantPowerIntegral_16 ⟨Nat.zero_le _, Nat.zero_le _⟩ rfl ?_
    have hn19 := nuZ_rng hFi f (c1 - 1) (-1)
    refine zi_i2l hx hb dX0_draftConstantPowerIntegral_19 (by omega) ?_
    refine lv_iload_n hx hb dX0_draftConstantPowerIntegral_20 rfl (lv_at hl 2 rfl) ?_
    refine rd_S (As := [.long (lZ (nuZ F2 f (c1 - 1) (-1))), .int (iZ c1)]) (rest := [.int (iZ 0), .int (iZ c1), .ref o]) (st1 := [.int (iZ (dvZ (nuZ F2 f (c1 - 1) (-1)) c1)), .int (iZ 0), .int (iZ c1), .ref o]) S (k_X0_divide l (nuZ F2 f (c1 - 1) (-1)) c1 (by omega) (by omega)) tb_310 tb_311 tb_1 tb_312 hd_X0_divide ⟨rfl, rfl, by decide, by decide⟩ bl_T (fun _ _ _ => trivial) rfl hl.1 rfl (Nat.le_of_ble_eq_true rfl) dX0_draftConstantPowerIntegral_21 ⟨Nat.zero_le _, Nat.zero_le _⟩ rfl ?_
    refine wr_V (As := [.int (iZ c1), .int (iZ 0), .int (iZ (dvZ (nuZ F2 f (c1 - 1) (-1)) c1))]) (rest := []) (st1 := []) (F' := uZ F2 (k * 72 + c1 * 9 + 0 + 4).toNat (dvZ (nuZ F2 f (c1 - 1) (-1)) c1)) (G' := G) (k' := k) S (k_X0_setDraft l D o q1 q2 cI tE tL F2 G k c1 0 (dvZ (nuZ F2 f (c1 - 1) (-1)) c1) hd (by omega) (by omega) (by omega)) tb_147 tb_149 ts_X0_setDraft tb_1 tb_150 hd_X0_setDraft ⟨rfl, rfl, by decide, by decide⟩ hP hK rfl hs hS hA hAn rfl hl.1 rfl (Nat.le_of_ble_eq_true rfl) dX0_draftConstantPowerIntegral_24 ⟨Nat.zero_le _, Nat.zero_le _⟩ rfl (fun H locs hP hS _ _ => ?_)
    obtain ⟨F3, eF3⟩ : ∃ Z : Nat → Int, Z = uZ F2 (k * 72 + c1 * 9 + 0 + 4).toNat (dvZ (nuZ F2 f (c1 - 1) (-1)) c1) := ⟨_, rfl⟩
    rw [← eF3] at hP
    refine zi_inc (lv' := [(2, .int (iZ (c1 + 1))), (0, .ref o), (1, .int (iZ f))]) hx hb dX0_draftConstantPowerIntegral_27 hl (k := 2) rfl (by decide) rfl (fun ls hl => ?_)
    refine lv_goto (tgt := 2) hx hb dX0_draftConstantPowerIntegral_30 (by decide) ?_
    exact ih2 (m2 - 1) (c1 + 1) (by omega) (by (try dsimp only); omega) _ _ (wP_eq hP ((by rw [eF3, eF2]; exact pa_step (c := c1) (n := 0) (by omega) (by omega) (by omega) (by omega) (by rw [nu_pa (by omega)]) (fun a q h1 h2 h3 h4 => by simp only [decide_eq_true_eq]; omega))) rfl rfl) hS ls (lv_sub hl [1, 2, 0] rfl)
set_option maxHeartbeats 4000000 in
set_option maxRecDepth 100000 in
theorem k_X0_draftExponentialIntegral (l : Launch) (D : va_G) (o q1 q2 : Nat) (cI : ClassId) (tE tL : Nat) (F G : Nat → Int) (k : Int) (f : Int) (hd : dX o q1 q2) (hF : ∀ j, 0 ≤ F j ∧ F j < 32003) (hk : 0 ≤ k ∧ k < 60) (hf : 0 ≤ f ∧ f < k) : wr_M l yX0_draftExponentialIntegral cX0_draftExponentialIntegral 5 none ({ frames := 4, cells := 0, slots := 0, locals := 88 }) [.int (iZ f)] D o q1 q2 cI tE tL F G k none (paZ F (k * 72).toNat (fun c n => decide (4 ≤ c ∧ -3 ≤ n)) (fun c n => exZ F f c (5 - n).toNat)) G k := by
  refine wr_of (by decide) rfl (Nat.le_of_ble_eq_true rfl) ?_
  intro p e s m below meth c A hAe S hr hlk hP hK hs hA hAn hS ls hl
  obtain ⟨hx, hb, hml, hown, hT⟩ := id S
  obtain ⟨⟨hZE, hTE⟩, hZL, hTL⟩ := id hs
  have hl : lv_has ls 5 [(0, .ref o), (1, .int (iZ f))] := hl
  refine zi_const hx hb 4 dX0_draftExponentialIntegral_0 ?_
  refine lv_istore_n (lv' := [(2, .int (iZ 4)), (0, .ref o), (1, .int (iZ f))]) hx hb dX0_draftExponentialIntegral_1 rfl hl (by decide) rfl (fun ls hl => ?_)
  refine lp_goX (nL := 5) (α := Int) (fun z => [(0, .ref o), (1, .int (iZ f)), (2, .int (iZ z))]) (fun z => paZ F (k * 72).toNat (fun a q => decide (4 ≤ a ∧ -3 ≤ q ∧ a < z)) (fun a q => exZ F f a (5 - q).toNat)) (fun _ => G) (fun _ => k) (fun m2 z => 4 ≤ z ∧ z + (m2 : Int) = 8) ?_ 4 ((4 : Int)) (by (try dsimp only); omega) _ _ (wP_eq hP (pa_0 (fun a q h1 h2 h3 h4 => by simp only [decide_eq_false_iff_not]; omega)) rfl rfl) hS ls (lv_sub hl [1, 2, 0] rfl)
  intro m2 z1 hI2 ih2 H locs hP hS ls hl
  obtain ⟨c1, rfl⟩ : ∃ y : Int, y = z1 := ⟨_, rfl⟩
  have hl : lv_has ls 5 [(0, .ref o), (1, .int (iZ f)), (2, .int (iZ c1))] := hl
  have hI2 : 4 ≤ c1 ∧ c1 + (m2 : Int) = 8 := hI2
  have hP : va_P D vwCl (wX o q1 q2 cI (paZ F (k * 72).toNat (fun a q => decide (4 ≤ a ∧ -3 ≤ q ∧ a < c1)) (fun a q => exZ F f a (5 - q).toNat)) G k) H := hP
  obtain ⟨F2, eF2⟩ : ∃ Z : Nat → Int, Z = paZ F (k * 72).toNat (fun a q => decide (4 ≤ a ∧ -3 ≤ q ∧ a < c1)) (fun a q => exZ F f a (5 - q).toNat) := ⟨_, rfl⟩
  rw [← eF2] at hP
  have hFi : ∀ j, 0 ≤ F2 j ∧ F2 j < 32003 := by
    rw [eF2]
    exact pa_rng hF (fun c n => exZ_rng _ _ _ _)
  refine lv_iload_n hx hb dX0_draftExponentialIntegral_2 rfl (lv_at hl 2 rfl) ?_
  refine zi_bi hx hb 8 dX0_draftExponentialIntegral_3 (by decide) ?_
  refine zi_cge (tgt := 66) hx hb dX0_draftExponentialIntegral_5 (by decide) (by omega) (by omega) (fun hc5 => ?_) (fun hc5 => ?_)
  · exact wr_vret hx hb hr hlk (wP_eq hP ((by rw [eF2]; exact pa_same (fun a q h1 h2 h3 h4 => by simp only [decide_eq_true_eq]; omega))) rfl rfl) hS rfl dX0_draftExponentialIntegral_66
  · refine zi_const hx hb 0 dX0_draftExponentialIntegral_8 ?_
    refine lv_istore_n (lv' := [(3, .int (iZ 0)), (0, .ref o), (1, .int (iZ f)), (2, .int (iZ c1))]) hx hb dX0_draftExponentialIntegral_9 rfl hl (by decide) rfl (fun ls hl => ?_)
    refine zi_const hx hb 4 dX0_draftExponentialIntegral_10 ?_
    refine lv_istore (lv' := [(4, .int (iZ 4)), (3, .int (iZ 0)), (0, .ref o), (1, .int (iZ f)), (2, .int (iZ c1))]) hx hb dX0_draftExponentialIntegral_11 hl (by decide) rfl (fun ls hl => ?_)
    refine lp_goX (nL := 5) (α := Int × Int) (fun z => [(0, .ref o), (1, .int (iZ f)), (2, .int (iZ c1)), (3, .int (iZ z.1)), (4, .int (iZ z.2))]) (fun z => paZ F (k * 72).toNat (fun a q => decide (4 ≤ a ∧ -3 ≤ q ∧ (a < c1 ∨ (a = c1 ∧ z.2 < q)))) (fun a q => exZ F f a (5 - q).toNat)) (fun _ => G) (fun _ => k) (fun m13 z => -4 ≤ z.2 ∧ z.2 ≤ 4 ∧ z.2 + 4 = (m13 : Int) ∧ z.1 = exZ F f c1 (4 - z.2).toNat) ?_ 8 ((0 : Int), (4 : Int)) (by (try dsimp only); exact ⟨by omega, by omega, by omega, rfl⟩) _ _ (wP_eq hP ((by rw [eF2]; exact pa_same (fun a q h1 h2 h3 h4 => by simp only [decide_eq_true_eq]; omega))) rfl rfl) hS ls (lv_sub hl [2, 3, 4, 1, 0] rfl)
    intro m13 z3 hI13 ih13 H locs hP hS ls hl
    obtain ⟨u, n⟩ := z3
    have hl : lv_has ls 5 [(0, .ref o), (1, .int (iZ f)), (2, .int (iZ c1)), (3, .int (iZ u)), (4, .int (iZ n))] := hl
    have hI13 : -4 ≤ n ∧ n ≤ 4 ∧ n + 4 = (m13 : Int) ∧ u = exZ F f c1 (4 - n).toNat := hI13
    have hP : va_P D vwCl (wX o q1 q2 cI (paZ F (k * 72).toNat (fun a q => decide (4 ≤ a ∧ -3 ≤ q ∧ (a < c1 ∨ (a = c1 ∧ n < q)))) (fun a q => exZ F f a (5 - q).toNat)) G k) H := hP
    obtain ⟨F4, eF4⟩ : ∃ Z : Nat → Int, Z = paZ F (k * 72).toNat (fun a q => decide (4 ≤ a ∧ -3 ≤ q ∧ (a < c1 ∨ (a = c1 ∧ n < q)))) (fun a q => exZ F f a (5 - q).toNat) := ⟨_, rfl⟩
    rw [← eF4] at hP
    have hFi : ∀ j, 0 ≤ F4 j ∧ F4 j < 32003 := by
      rw [eF4]
      exact pa_rng hF (fun c n => exZ_rng _ _ _ _)
    have hur := exZ_rng F f c1 (4 - n).toNat
    rw [← hI13.2.2.2] at hur
    have hsm := fun h => sm_mul (a := n + 1) h hur
    have hee := ePz_rng c1
    refine lv_iload hx hb dX0_draftExponentialIntegral_13 (lv_at hl 4 rfl) ?_
    refine zi_bi hx hb (-4) dX0_draftExponentialIntegral_15 (by decide) ?_
    refine zi_cle (tgt := 60) hx hb dX0_draftExponentialIntegral_17 (by decide) (by omega) (by omega) (fun hc17 => ?_) (fun hc17 => ?_)
    · refine zi_inc (lv' := [(2, .int (iZ (c1 + 1))), (0, .ref o), (1, .int (iZ f)), (3, .int (iZ u)), (4, .int (iZ n))]) hx hb dX0_draftExponentialIntegral_60 hl (k := 2) rfl (by decide) rfl (fun ls hl => ?_)
      refine lv_goto (tgt := 2) hx hb dX0_draftExponentialIntegral_63 (by decide) ?_
      exact ih2 (m2 - 1) (c1 + 1) (by omega) (by (try dsimp only); omega) _ _ (wP_eq hP ((by rw [eF4]; exact pa_same (fun a q h1 h2 h3 h4 => by simp only [decide_eq_true_eq]; omega))) rfl rfl) hS ls (lv_sub hl [1, 2, 0] rfl)
    · refine lv_aload_n hx hb dX0_draftExponentialIntegral_20 rfl (lv_at hl 0 rfl) ?_
      refine lv_iload_n hx hb dX0_draftExponentialIntegral_21 rfl (lv_at hl 1 rfl) ?_
      refine lv_iload_n hx hb dX0_draftExponentialIntegral_22 rfl (lv_at hl 2 rfl) ?_
      refine lv_iload hx hb dX0_draftExponentialIntegral_23 (lv_at hl 4 rfl) ?_
      refine rd_V (As := [.int (iZ f), .int (iZ c1), .int (iZ n)]) (rest := []) (st1 := [.int (iZ (nuZ F4 f c1 n))]) S (k_X0_number l D o q1 q2 cI tE tL F4 G k f c1 n (by omega) (by omega) (by omega)) tb_197 tb_199 ts_X0_number tb_1 tb_200 hd_X0_number ⟨rfl, rfl, by decide, by decide⟩ rX_bl (rX_w hP hK rfl hs hS) (va_recv hK hP (ci := 0) (q0 := 0) rfl rfl) rfl hl.1 rfl (Nat.le_of_ble_eq_true rfl) dX0_draftExponentialIntegral_25 ⟨Nat.zero_le _, Nat.zero_le _⟩ rfl ?_
      have hn28 := nuZ_rng hFi f c1 n
      refine zi_i2l hx hb dX0_draftExponentialIntegral_28 (by omega) ?_
      refine lv_iload hx hb dX0_draftExponentialIntegral_29 (lv_at hl 4 rfl) ?_
      refine zi_const hx hb 1 dX0_draftExponentialIntegral_31 ?_
      refine zi_add hx hb dX0_draftExponentialIntegral_32 ?_
      refine zi_i2l hx hb dX0_draftExponentialIntegral_33 (by omega) ?_
      refine lv_iload_n hx hb dX0_draftExponentialIntegral_34 rfl (lv_at hl 3 rfl) ?_
      refine zi_i2l hx hb dX0_draftExponentialIntegral_35 (by omega) ?_
      refine zl_mul hx hb dX0_draftExponentialIntegral_36 ?_
      refine zl_sub hx hb dX0_draftExponentialIntegral_37 ?_
      refine lv_iload_n hx hb dX0_draftExponentialIntegral_38 rfl (lv_at hl 2 rfl) ?_
      refine rd_S (As := [.int (iZ c1)]) (rest := [.long (lZ ((nuZ F4 f c1 n) - ((n + 1) * u)))]) (st1 := [.int (iZ (ePz c1)), .long (lZ ((nuZ F4 f c1 n) - ((n + 1) * u)))]) S (k_X0_exponentialPower l tE tL c1 (by omega)) tb_239 tb_240 tb_1 tb_241 hd_X0_exponentialPower ⟨rfl, rfl, by decide, by decide⟩ sB_bl (sB_w hs hS) rfl hl.1 rfl (Nat.le_of_ble_eq_true rfl) dX0_draftExponentialIntegral_39 ⟨Nat.zero_le _, Nat.zero_le _⟩ rfl ?_
      refine rd_S (As := [.long (lZ ((nuZ F4 f c1 n) - ((n + 1) * u))), .int (iZ (ePz c1))]) (rest := []) (st1 := [.int (iZ (dvZ ((nuZ F4 f c1 n) - ((n + 1) * u)) (ePz c1)))]) S (k_X0_divide l ((nuZ F4 f c1 n) - ((n + 1) * u)) (ePz c1) (by have := hsm (by omega); omega) (by omega)) tb_310 tb_311 tb_1 tb_312 hd_X0_divide ⟨rfl, rfl, by decide, by decide⟩ bl_T (fun _ _ _ => trivial) rfl hl.1 rfl (Nat.le_of_ble_eq_true rfl) dX0_draftExponentialIntegral_42 ⟨Nat.zero_le _, Nat.zero_le _⟩ rfl ?_
      refine zi_top (fun v5 ev5 => ?_)
      refine lv_istore_n (lv' := [(3, .int (iZ v5)), (0, .ref o), (1, .int (iZ f)), (2, .int (iZ c1)), (4, .int (iZ n))]) hx hb dX0_draftExponentialIntegral_45 rfl hl (by decide) rfl (fun ls hl => ?_)
      refine lv_aload_n hx hb dX0_draftExponentialIntegral_46 rfl (lv_at hl 1 rfl) ?_
      refine lv_iload_n hx hb dX0_draftExponentialIntegral_47 rfl (lv_at hl 3 rfl) ?_
      refine lv_iload hx hb dX0_draftExponentialIntegral_48 (lv_at hl 4 rfl) ?_
      refine lv_iload_n hx hb dX0_draftExponentialIntegral_50 rfl (lv_at hl 0 rfl) ?_
      refine wr_V (As := [.int (iZ c1), .int (iZ n), .int (iZ v5)]) (rest := []) (st1 := []) (F' := uZ F4 (k * 72 + c1 * 9 + n + 4).toNat v5) (G' := G) (k' := k) S (k_X0_setDraft l D o q1 q2 cI tE tL F4 G k c1 n v5 hd (by omega) (by omega) (by omega)) tb_147 tb_149 ts_X0_setDraft tb_1 tb_150 hd_X0_setDraft ⟨rfl, rfl, by decide, by decide⟩ hP hK rfl hs hS hA hAn rfl hl.1 rfl (Nat.le_of_ble_eq_true rfl) dX0_draftExponentialIntegral_51 ⟨Nat.zero_le _, Nat.zero_le _⟩ rfl (fun H locs hP hS _ _ => ?_)
      obtain ⟨F6, eF6⟩ : ∃ Z : Nat → Int, Z = uZ F4 (k * 72 + c1 * 9 + n + 4).toNat v5 := ⟨_, rfl⟩
      rw [← eF6] at hP
      refine zi_inc (lv' := [(4, .int (iZ (n + (-1)))), (3, .int (iZ v5)), (0, .ref o), (1, .int (iZ f)), (2, .int (iZ c1))]) hx hb dX0_draftExponentialIntegral_54 hl (k := 4) rfl (by decide) rfl (fun ls hl => ?_)
      refine lv_goto (tgt := 13) hx hb dX0_draftExponentialIntegral_57 (by decide) ?_
      exact ih13 (m13 - 1) (v5, n + (-1)) (by omega) (by (try dsimp only); refine ⟨by omega, by omega, by omega, ?_⟩; rw [show (4 - (n + -1)).toNat = (5 - n).toNat by omega, ev5, eF4, nu_pa (by omega)]; exact ex_at (by omega) hI13.2.2.2) _ _ (wP_eq hP ((by rw [eF6, eF4]; exact pa_step (c := c1) (n := n) (by omega) (by omega) (by omega) (by omega) (by rw [ev5, eF4, nu_pa (by omega)]; exact ex_at (by omega) hI13.2.2.2) (fun a q h1 h2 h3 h4 => by simp only [decide_eq_true_eq]; omega))) rfl rfl) hS ls (lv_sub hl [2, 3, 4, 1, 0] rfl)
