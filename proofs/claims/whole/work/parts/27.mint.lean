theorem sm_ex {N : Nat → Int} {f c : Int} {g : Nat → Int} (hc : 4 ≤ c ∧ c < 8) (hr : rsZ N f c = 0) (h1 : ∀ m : Nat, m < 3 → g m = seZ N f c (m + 1)) (h2 : ∀ i : Int, -1 < i → i ≤ 4 → g (i + 3).toNat = exZ N f c (5 - i).toNat) : ∀ n : Int, -3 ≤ n → n ≤ 4 → g (n + 3).toNat = exZ N f c (5 - n).toNat := by
  intro n h3 h4
  obtain ⟨a6, a7, a8⟩ := ee_all hc hr
  by_cases h5 : -1 < n
  · exact h2 n h5 h4
  · rw [h1 _ (by omega)]
    rcases (show n = -3 ∨ n = -2 ∨ n = -1 by omega) with h | h | h <;> rw [h]
    · exact a8.symm
    · exact a7.symm
    · exact a6.symm
set_option maxHeartbeats 4000000 in
set_option maxRecDepth 100000 in
theorem k_X1_integrate (l : Launch) (D : va_G) (mo : Nat) (na : Nat → Nat) (cI cJ : ClassId) (c0 k : Int) (V : Nat → Nat → Int) (f : Int) (hd : dM mo na) (hN : ∀ j, 0 ≤ V 0 j ∧ V 0 j < 32003) (hk : 0 ≤ k ∧ k < 60) (hf : 0 ≤ f ∧ f < k) (hh : hrZ (V 0) f = 0) (hi : itZ (V 0) f = 0) : wm_M l yX1_integrate cX1_integrate 6 (some .int) ({ frames := 3, cells := 0, slots := 0, locals := 74 }) [.int (iZ f)] D mo na cI cJ c0 k V (some (.int (iZ k))) 0 (k + 1) (fun Z => (∀ j : Nat, j < 72 → Z 0 ((k * 72).toNat + j) = igZ (V 0) f (jC j) (jN j)) ∧ ∀ j : Nat, (j : Int) < k * 72 ∨ k * 72 + 72 ≤ (j : Int) → Z 0 j = V 0 j) := by
  refine wm_of (by decide) rfl (Nat.le_of_ble_eq_true rfl) ?_
  intro p e s m below meth c A hAe S hr hlk hP hK hA hAn hS ls hl
  obtain ⟨hx, hb, hml, hown, hT⟩ := id S
  have hl : lv_has ls 6 [(0, .ref mo), (1, .int (iZ f))] := hl
  refine lv_aload_n hx hb dX1_integrate_0 rfl (lv_at hl 0 rfl) ?_
  refine lv_iload_n hx hb dX1_integrate_1 rfl (lv_at hl 1 rfl) ?_
  refine lv_iload_n hx hb dX1_integrate_2 rfl (lv_at hl 1 rfl) ?_
  refine wm_V (As := [.int (iZ f), .int (iZ f)]) (rest := []) (st1 := [.int (iZ 1)]) (c1 := 0) (k1 := k) S (k_X1_may l D mo na cI cJ c0 k V f f hd hN (by omega) (by omega) (by omega)) tb_462 tb_464 ts_X1_may tb_2 tb_465 hd_X1_may ⟨rfl, rfl, by decide, by decide⟩ hP hK hS hA hAn rfl hl.1 rfl (Nat.le_of_ble_eq_true rfl) dX1_integrate_3 ⟨Nat.zero_le _, Nat.zero_le _⟩ rfl (fun V1 H locs hRV1 hP hS _ _ => ?_)
  refine zi_fne (tgt := 11) hx hb dX1_integrate_6 (by decide) (by omega) (fun hc6 => ?_) (fun hc6 => ?_)
  · refine zi_const hx hb 0 dX1_integrate_11 ?_
    refine lv_istore_n (lv' := [(2, .int (iZ 0)), (0, .ref mo), (1, .int (iZ f))]) hx hb dX1_integrate_12 rfl hl (by decide) rfl (fun ls hl => ?_)
    refine lp_goM (nL := 6) (α := (Nat → Nat → Int) × Int) (fun z => [(0, .ref mo), (1, .int (iZ f)), (2, .int (iZ z.2))]) (fun _ => 0) (fun _ => k) (fun z => z.1) (fun m13 z => 0 ≤ z.2 ∧ z.2 + (m13 : Int) = 72 ∧ (∀ j : Nat, (j : Int) < z.2 → z.1 1 j = 0) ∧ ∀ b, b ≠ 1 → z.1 b = V1 b) ?_ 72 (V1, (0 : Int)) (by (try dsimp only); exact ⟨by omega, by omega, fun j hj => by omega, fun b _ => rfl⟩) _ _ hP hS ls (lv_sub hl [1, 2, 0] rfl)
    intro m13 z2 hI13 ih13 H locs hP hS ls hl
    obtain ⟨Y, i⟩ := z2
    have hl : lv_has ls 6 [(0, .ref mo), (1, .int (iZ f)), (2, .int (iZ i))] := hl
    have hI13 : 0 ≤ i ∧ i + (m13 : Int) = 72 ∧ (∀ j : Nat, (j : Int) < i → Y 1 j = 0) ∧ ∀ b, b ≠ 1 → Y b = V1 b := hI13
    have hP : va_P D vwCl (mX mo na cI cJ 0 k Y) H := hP
    refine lv_iload_n hx hb dX1_integrate_13 rfl (lv_at hl 2 rfl) ?_
    refine zi_bi hx hb 72 dX1_integrate_14 (by decide) ?_
    refine zi_cge (tgt := 32) hx hb dX1_integrate_16 (by decide) (by omega) (by omega) (fun hc16 => ?_) (fun hc16 => ?_)
    · refine zi_const hx hb 4 dX1_integrate_32 ?_
      refine lv_istore_n (lv' := [(2, .int (iZ 4)), (0, .ref mo), (1, .int (iZ f))]) hx hb dX1_integrate_33 rfl hl (by decide) rfl (fun ls hl => ?_)
      refine lp_goM (nL := 6) (α := (Nat → Nat → Int) × Int) (fun z => [(0, .ref mo), (1, .int (iZ f)), (2, .int (iZ z.2))]) (fun _ => 0) (fun _ => k) (fun z => z.1) (fun m34 z => 4 ≤ z.2 ∧ z.2 + (m34 : Int) = 8 ∧ igR (V 0) f (fun a q => decide (4 ≤ a ∧ -3 ≤ q ∧ a < z.2)) (z.1 1) ∧ (∀ c : Int, 4 ≤ c → c < z.2 → rsZ (V 0) f c = 0) ∧ z.1 2 = V1 2 ∧ z.1 0 = V 0) ?_ 4 (Y, (4 : Int)) (by (try dsimp only); exact ⟨by omega, by omega, igR_0 (fun j hj => hI13.2.2.1 j (by omega)) (fun a q h1 h2 h3 h4 => by simp only [decide_eq_false_iff_not]; omega), fun c h1 h2 => by omega, hI13.2.2.2 2 (by decide), (hI13.2.2.2 0 (by decide)).trans hRV1.2.2⟩) _ _ hP hS ls (lv_sub hl [1, 2, 0] rfl)
      intro m34 z3 hI34 ih34 H locs hP hS ls hl
      obtain ⟨X, c1⟩ := z3
      have hl : lv_has ls 6 [(0, .ref mo), (1, .int (iZ f)), (2, .int (iZ c1))] := hl
      have hI34 : 4 ≤ c1 ∧ c1 + (m34 : Int) = 8 ∧ igR (V 0) f (fun a q => decide (4 ≤ a ∧ -3 ≤ q ∧ a < c1)) (X 1) ∧ (∀ c : Int, 4 ≤ c → c < c1 → rsZ (V 0) f c = 0) ∧ X 2 = V1 2 ∧ X 0 = V 0 := hI34
      have hP : va_P D vwCl (mX mo na cI cJ 0 k X) H := hP
      have hpX : ∀ j : Nat, j < 72 → X 2 j = V 0 ((f * 72).toNat + j) := fun j hj => by rw [hI34.2.2.2.2.1]; exact hRV1.1 j hj
      refine lv_iload_n hx hb dX1_integrate_34 rfl (lv_at hl 2 rfl) ?_
      refine zi_bi hx hb 8 dX1_integrate_35 (by decide) ?_
      refine zi_cge (tgt := 90) hx hb dX1_integrate_37 (by decide) (by omega) (by omega) (fun hc37 => ?_) (fun hc37 => ?_)
      · refine zi_const hx hb 0 dX1_integrate_90 ?_
        refine lv_istore_n (lv' := [(2, .int (iZ 0)), (0, .ref mo), (1, .int (iZ f))]) hx hb dX1_integrate_91 rfl hl (by decide) rfl (fun ls hl => ?_)
        refine lp_go (nL := 6) (α := Int) (fun z => [(0, .ref mo), (1, .int (iZ f)), (2, .int (iZ z))]) (fun m92 z => 0 ≤ z ∧ z + (m92 : Int) = 4 ∧ ∀ c : Int, 0 ≤ c → c < z → nuZ (V 0) f c 4 = 0) ?_ 4 ((0 : Int)) (by (try dsimp only); exact ⟨by omega, by omega, fun c h1 h2 => by omega⟩) ls (lv_sub hl [1, 2, 0] rfl)
        intro m92 z4 hI92 ih92 ls hl
        obtain ⟨c2, rfl⟩ : ∃ y : Int, y = z4 := ⟨_, rfl⟩
        have hl : lv_has ls 6 [(0, .ref mo), (1, .int (iZ f)), (2, .int (iZ c2))] := hl
        have hI92 : 0 ≤ c2 ∧ c2 + (m92 : Int) = 4 ∧ ∀ c : Int, 0 ≤ c → c < c2 → nuZ (V 0) f c 4 = 0 := hI92
        refine lv_iload_n hx hb dX1_integrate_92 rfl (lv_at hl 2 rfl) ?_
        refine zi_const hx hb 4 dX1_integrate_93 ?_
        refine zi_cge (tgt := 124) hx hb dX1_integrate_94 (by decide) (by omega) (by omega) (fun hc94 => ?_) (fun hc94 => ?_)
        · have hpx : X 2 (3 * 9 + (-1) + 4 : Int).toNat = nuZ (V 0) f 3 (-1) := pn_at (by omega) hpX (by omega) (by omega)
          have hq1 := nuZ_rng hN f 3 (-1)
          rw [← hpx] at hq1
          refine lv_aload_n hx hb dX1_integrate_124 rfl (lv_at hl 0 rfl) ?_
          refine va_get (D := D) (ci := 1) (C := RX1) (T := TX1) (N := 8) hx hb hT inX1 hown hK hP 0 rfl rfl 4 (by decide) (hT _ tb_406) (fun _ h9 => h9) rfl dX1_integrate_125 ?_
          refine zi_const hx hb 3 dX1_integrate_128 ?_
          refine zi_const hx hb (-1) dX1_integrate_129 ?_
          refine rd_S (As := [.int (iZ 3), .int (iZ (-1))]) (rest := [.ref (na 2)]) (st1 := [.int (iZ (3 * 9 + (-1) + 4)), .ref (na 2)]) S (k_X1_place l 3 (-1)) tb_442 tb_443 tb_2 tb_444 hd_X1_place ⟨rfl, rfl, by decide, by decide⟩ bl_T (fun _ _ _ => trivial) rfl hl.1 rfl (Nat.le_of_ble_eq_true rfl) dX1_integrate_130 ⟨Nat.zero_le _, Nat.zero_le _⟩ rfl ?_
          refine va_lald hx hb hK hP 3 1 rfl rfl (iZ_in (by omega) (by omega) (by decide)) dX1_integrate_133 ?_
          refine zl_as (a := X 2 ((3 * 9 + (-1) + 4).toNat)) (by rw [iZ_cl (by omega) (by omega)]) ?_
          refine zl_const hx hb 0 dX1_integrate_134 (by decide) ?_
          refine zl_ceq (tgt := 145) hx hb dX1_integrate_135 dX1_integrate_136 (by decide) (by omega) (by omega) (fun hc135 => ?_) (fun hc135 => ?_)
          · refine zi_bi hx hb (-4) dX1_integrate_145 (by decide) ?_
            refine lv_istore_n (lv' := [(2, .int (iZ (-4))), (0, .ref mo), (1, .int (iZ f))]) hx hb dX1_integrate_147 rfl hl (by decide) rfl (fun ls hl => ?_)
            refine lp_goM (nL := 6) (α := (Nat → Nat → Int) × Int) (fun z => [(0, .ref mo), (1, .int (iZ f)), (2, .int (iZ z.2))]) (fun _ => 0) (fun _ => k) (fun z => z.1) (fun m148 z => -4 ≤ z.2 ∧ z.2 + (m148 : Int) = 4 ∧ igR (V 0) f (fun a q => decide ((4 ≤ a ∧ -3 ≤ q) ∨ (a < 4 ∧ -3 ≤ q ∧ q ≠ 0 ∧ q ≤ z.2))) (z.1 1) ∧ z.1 2 = V1 2 ∧ z.1 0 = V 0) ?_ 8 (X, ((-4) : Int)) (by (try dsimp only); exact ⟨by omega, by omega, igR_same hI34.2.2.1 (fun a q h1 h2 h3 h4 => by simp only [decide_eq_true_eq]; omega), hI34.2.2.2.2⟩) _ _ hP hS ls (lv_sub hl [1, 2, 0] rfl)
            intro m148 z5 hI148 ih148 H locs hP hS ls hl
            obtain ⟨Q, n⟩ := z5
            have hl : lv_has ls 6 [(0, .ref mo), (1, .int (iZ f)), (2, .int (iZ n))] := hl
            have hI148 : -4 ≤ n ∧ n + (m148 : Int) = 4 ∧ igR (V 0) f (fun a q => decide ((4 ≤ a ∧ -3 ≤ q) ∨ (a < 4 ∧ -3 ≤ q ∧ q ≠ 0 ∧ q ≤ n))) (Q 1) ∧ Q 2 = V1 2 ∧ Q 0 = V 0 := hI148
            have hP : va_P D vwCl (mX mo na cI cJ 0 k Q) H := hP
            refine lv_iload_n hx hb dX1_integrate_148 rfl (lv_at hl 2 rfl) ?_
            refine zi_const hx hb 4 dX1_integrate_149 ?_
            refine zi_cge (tgt := 246) hx hb dX1_integrate_150 (by decide) (by omega) (by omega) (fun hc150 => ?_) (fun hc150 => ?_)
            · refine zi_const hx hb 0 dX1_integrate_246 ?_
              refine lv_istore_n (lv' := [(2, .int (iZ 0)), (0, .ref mo), (1, .int (iZ f))]) hx hb dX1_integrate_247 rfl hl (by decide) rfl (fun ls hl => ?_)
              refine lp_goM (nL := 6) (α := (Nat → Nat → Int) × Int) (fun z => [(0, .ref mo), (1, .int (iZ f)), (2, .int (iZ z.2))]) (fun _ => 0) (fun _ => k) (fun z => z.1) (fun m248 z => 0 ≤ z.2 ∧ z.2 + (m248 : Int) = 3 ∧ igR (V 0) f (fun a q => decide ((4 ≤ a ∧ -3 ≤ q) ∨ (a < 4 ∧ -3 ≤ q ∧ q ≠ 0) ∨ (1 ≤ a ∧ a < z.2 + 1 ∧ q = 0))) (z.1 1) ∧ z.1 2 = V1 2 ∧ z.1 0 = V 0) ?_ 3 (Q, (0 : Int)) (by (try dsimp only); exact ⟨by omega, by omega, igR_same hI148.2.2.1 (fun a q h1 h2 h3 h4 => by simp only [decide_eq_true_eq]; omega), hI148.2.2.2⟩) _ _ hP hS ls (lv_sub hl [1, 2, 0] rfl)
              intro m248 z6 hI248 ih248 H locs hP hS ls hl
              obtain ⟨R, c4⟩ := z6
              have hl : lv_has ls 6 [(0, .ref mo), (1, .int (iZ f)), (2, .int (iZ c4))] := hl
              have hI248 : 0 ≤ c4 ∧ c4 + (m248 : Int) = 3 ∧ igR (V 0) f (fun a q => decide ((4 ≤ a ∧ -3 ≤ q) ∨ (a < 4 ∧ -3 ≤ q ∧ q ≠ 0) ∨ (1 ≤ a ∧ a < c4 + 1 ∧ q = 0))) (R 1) ∧ R 2 = V1 2 ∧ R 0 = V 0 := hI248
              have hP : va_P D vwCl (mX mo na cI cJ 0 k R) H := hP
              refine lv_iload_n hx hb dX1_integrate_248 rfl (lv_at hl 2 rfl) ?_
              refine zi_const hx hb 3 dX1_integrate_249 ?_
              refine zi_cge (tgt := 293) hx hb dX1_integrate_250 (by decide) (by omega) (by omega) (fun hc250 => ?_) (fun hc250 => ?_)
              · refine lv_aload_n hx hb dX1_integrate_293 rfl (lv_at hl 0 rfl) ?_
                refine wm_V (As := []) (rest := []) (st1 := [.int (iZ k)]) (c1 := 0) (k1 := k + 1) S (k_X1_keep l D mo na cI cJ 0 k R  hd (by omega)) tb_449 tb_451 ts_X1_keep tb_2 tb_452 hd_X1_keep ⟨rfl, rfl, by decide, by decide⟩ hP hK hS hA hAn rfl hl.1 rfl (Nat.le_of_ble_eq_true rfl) dX1_integrate_294 ⟨Nat.zero_le _, Nat.zero_le _⟩ rfl (fun V7 H locs hRV7 hP hS _ _ => ?_)
                exact wm_iret hx hb hr hlk hP (⟨fun j hj => by rw [hRV7.1 j hj]; exact igR_end (igR_same hI248.2.2.1 (fun a q h1 h2 h3 h4 => by simp only [decide_eq_true_eq]; omega)) j hj, fun j hj => by rw [hRV7.2 j hj]; exact congrFun hI248.2.2.2.2 j⟩) rfl rfl hS (congrArg (fun z => some (Value.int (iZ z))) (show (k : Int) = k from rfl)) dX1_integrate_297
              · have hpR : ∀ j : Nat, j < 72 → R 2 j = V 0 ((f * 72).toNat + j) := fun j hj => by rw [hI248.2.2.2.1]; exact hRV1.1 j hj
                have hpx : R 2 (c4 * 9 + (-1) + 4).toNat = nuZ (V 0) f c4 (-1) := pn_at (by omega) hpR (by omega) (by omega)
                have hq1 := nuZ_rng hN f c4 (-1)
                rw [← hpx] at hq1
                have hiv := pwP_rng ((c4 + 1) % 32003) 32001
                have hpr := mul_rng hq1 hiv
                refine lv_aload_n hx hb dX1_integrate_253 rfl (lv_at hl 0 rfl) ?_
                refine va_get (D := D) (ci := 1) (C := RX1) (T := TX1) (N := 8) hx hb hT inX1 hown hK hP 0 rfl rfl 3 (by decide) (hT _ tb_405) (fun _ h9 => h9) rfl dX1_integrate_254 ?_
                refine lv_iload_n hx hb dX1_integrate_257 rfl (lv_at hl 2 rfl) ?_
                refine zi_const hx hb 1 dX1_integrate_258 ?_
                refine zi_add hx hb dX1_integrate_259 ?_
                refine zi_const hx hb 0 dX1_integrate_260 ?_
                refine rd_S (As := [.int (iZ (c4 + 1)), .int (iZ 0)]) (rest := [.ref (na 1)]) (st1 := [.int (iZ ((c4 + 1) * 9 + 0 + 4)), .ref (na 1)]) S (k_X1_place l (c4 + 1) 0) tb_442 tb_443 tb_2 tb_444 hd_X1_place ⟨rfl, rfl, by decide, by decide⟩ bl_T (fun _ _ _ => trivial) rfl hl.1 rfl (Nat.le_of_ble_eq_true rfl) dX1_integrate_261 ⟨Nat.zero_le _, Nat.zero_le _⟩ rfl ?_
                refine lv_aload_n hx hb dX1_integrate_264 rfl (lv_at hl 0 rfl) ?_
                refine va_get (D := D) (ci := 1) (C := RX1) (T := TX1) (N := 8) hx hb hT inX1 hown hK hP 0 rfl rfl 4 (by decide) (hT _ tb_406) (fun _ h9 => h9) rfl dX1_integrate_265 ?_
                refine lv_iload_n hx hb dX1_integrate_268 rfl (lv_at hl 2 rfl) ?_
                refine zi_const hx hb (-1) dX1_integrate_269 ?_
                refine rd_S (As := [.int (iZ c4), .int (iZ (-1))]) (rest := [.ref (na 2), .int (iZ ((c4 + 1) * 9 + 0 + 4)), .ref (na 1)]) (st1 := [.int (iZ (c4 * 9 + (-1) + 4)), .ref (na 2), .int (iZ ((c4 + 1) * 9 + 0 + 4)), .ref (na 1)]) S (k_X1_place l c4 (-1)) tb_442 tb_443 tb_2 tb_444 hd_X1_place ⟨rfl, rfl, by decide, by decide⟩ bl_T (fun _ _ _ => trivial) rfl hl.1 rfl (Nat.le_of_ble_eq_true rfl) dX1_integrate_270 ⟨Nat.zero_le _, Nat.zero_le _⟩ rfl ?_
                refine va_lald hx hb hK hP 3 1 rfl rfl (iZ_in (by omega) (by omega) (by decide)) dX1_integrate_273 ?_
                refine zl_as (a := R 2 ((c4 * 9 + (-1) + 4).toNat)) (by rw [iZ_cl (by omega) (by omega)]) ?_
                refine lv_iload_n hx hb dX1_integrate_274 rfl (lv_at hl 2 rfl) ?_
                refine zi_const hx hb 1 dX1_integrate_275 ?_
                refine zi_add hx hb dX1_integrate_276 ?_
                refine zi_i2l hx hb dX1_integrate_277 (by omega) ?_
                refine rd_S (As := [.long (lZ (c4 + 1))]) (rest := [.long (lZ (R 2 (c4 * 9 + (-1) + 4).toNat)), .int (iZ ((c4 + 1) * 9 + 0 + 4)), .ref (na 1)]) (st1 := [.long (lZ (pwP ((c4 + 1) % 32003) 32001)), .long (lZ (R 2 (c4 * 9 + (-1) + 4).toNat)), .int (iZ ((c4 + 1) * 9 + 0 + 4)), .ref (na 1)]) S (k_X1_inverse l (c4 + 1) (by omega)) tb_513 tb_514 tb_2 tb_515 hd_X1_inverse ⟨rfl, rfl, by decide, by decide⟩ bl_T (fun _ _ _ => trivial) rfl hl.1 rfl (Nat.le_of_ble_eq_true rfl) dX1_integrate_278 ⟨Nat.zero_le _, Nat.zero_le _⟩ rfl ?_
                have hip281 := pwP_rng ((c4 + 1) % 32003) 32001
                refine zl_mul hx hb dX1_integrate_281 ?_
                refine zl_ldc hx hb 32003 hown (hT _ tb_448) (by decide) dX1_integrate_282 ?_
                refine zl_rem hx hb dX1_integrate_285 (by omega) (by omega) ?_
                have hst : (Int.tmod ((R 2 (c4 * 9 + (-1) + 4).toNat) * (pwP ((c4 + 1) % 32003) 32001)) 32003 : Int) = igZ (V 0) f (c4 + 1) 0 := by
                  rw [tmP (by omega), hpx, ig_c0 (by omega), show c4 + 1 - 1 = c4 by omega]
                  rw [hpx] at hq1
                  unfold dvZ
                  rw [Int.emod_eq_of_lt hq1.1 hq1.2]
                refine mm_l hx hb hK hP hd hA hS 1 72 rfl (fun g => rfl) (by omega) dX1_integrate_286 (fun H locs hP hS => ?_)
                obtain ⟨V8, eV8⟩ : ∃ Z : Nat → Nat → Int, Z = sV R 1 (uZ (R 1) ((c4 + 1) * 9 + 0 + 4).toNat (Int.tmod ((R 2 (c4 * 9 + (-1) + 4).toNat) * (pwP ((c4 + 1) % 32003) 32001)) 32003)) := ⟨_, rfl⟩
                rw [← eV8] at hP
                refine zi_inc (lv' := [(2, .int (iZ (c4 + 1))), (0, .ref mo), (1, .int (iZ f))]) hx hb dX1_integrate_287 hl (k := 2) rfl (by decide) rfl (fun ls hl => ?_)
                refine lv_goto (tgt := 248) hx hb dX1_integrate_290 (by decide) ?_
                exact ih248 (m248 - 1) (V8, c4 + 1) (by omega) (by (try dsimp only); exact ⟨by omega, by omega, by rw [eV8, sV_a]; exact igR_step (c := c4 + 1) (n := 0) hI248.2.2.1 (by omega) (by omega) hst (fun a q h1 h2 h3 h4 => by simp only [decide_eq_true_eq]; omega), by rw [eV8, sV_b (by decide)]; exact hI248.2.2.2.1, by rw [eV8, sV_b (by decide)]; exact hI248.2.2.2.2⟩) _ _ hP hS ls (lv_sub hl [1, 2, 0] rfl)
            · refine zi_const hx hb 3 dX1_integrate_153 ?_
              refine lv_istore_n (lv' := [(3, .int (iZ 3)), (0, .ref mo), (1, .int (iZ f)), (2, .int (iZ n))]) hx hb dX1_integrate_154 rfl hl (by decide) rfl (fun ls hl => ?_)
              refine lp_goM (nL := 6) (α := (Nat → Nat → Int) × Int) (fun z => [(0, .ref mo), (1, .int (iZ f)), (2, .int (iZ n)), (3, .int (iZ z.2))]) (fun _ => 0) (fun _ => k) (fun z => z.1) (fun m155 z => -1 ≤ z.2 ∧ z.2 ≤ 3 ∧ z.2 + 1 = (m155 : Int) ∧ igR (V 0) f (fun a q => decide ((4 ≤ a ∧ -3 ≤ q) ∨ (a < 4 ∧ -3 ≤ q ∧ q ≠ 0 ∧ (q ≤ n ∨ (q = n + 1 ∧ z.2 < a))))) (z.1 1) ∧ z.1 2 = V1 2 ∧ z.1 0 = V 0) ?_ 4 (Q, (3 : Int)) (by (try dsimp only); exact ⟨by omega, by omega, by omega, igR_same hI148.2.2.1 (fun a q h1 h2 h3 h4 => by simp only [decide_eq_true_eq]; omega), hI148.2.2.2⟩) _ _ hP hS ls (lv_sub hl [1, 2, 3, 0] rfl)
              intro m155 z9 hI155 ih155 H locs hP hS ls hl
              obtain ⟨T, c3⟩ := z9
              have hl : lv_has ls 6 [(0, .ref mo), (1, .int (iZ f)), (2, .int (iZ n)), (3, .int (iZ c3))] := hl
              have hI155 : -1 ≤ c3 ∧ c3 ≤ 3 ∧ c3 + 1 = (m155 : Int) ∧ igR (V 0) f (fun a q => decide ((4 ≤ a ∧ -3 ≤ q) ∨ (a < 4 ∧ -3 ≤ q ∧ q ≠ 0 ∧ (q ≤ n ∨ (q = n + 1 ∧ c3 < a))))) (T 1) ∧ T 2 = V1 2 ∧ T 0 = V 0 := hI155
              have hP : va_P D vwCl (mX mo na cI cJ 0 k T) H := hP
              refine lv_iload_n hx hb dX1_integrate_155 rfl (lv_at hl 3 rfl) ?_
              refine zi_flt (tgt := 240) hx hb dX1_integrate_156 (by decide) (by omega) (fun hc156 => ?_) (fun hc156 => ?_)
              · refine zi_inc (lv' := [(2, .int (iZ (n + 1))), (0, .ref mo), (1, .int (iZ f)), (3, .int (iZ c3))]) hx hb dX1_integrate_240 hl (k := 2) rfl (by decide) rfl (fun ls hl => ?_)
                refine lv_goto (tgt := 148) hx hb dX1_integrate_243 (by decide) ?_
                exact ih148 (m148 - 1) (T, n + 1) (by omega) (by (try dsimp only); exact ⟨by omega, by omega, igR_same hI155.2.2.2.1 (fun a q h1 h2 h3 h4 => by simp only [decide_eq_true_eq]; omega), hI155.2.2.2.2⟩) _ _ hP hS ls (lv_sub hl [1, 2, 0] rfl)
              · refine lv_iload_n hx hb dX1_integrate_159 rfl (lv_at hl 2 rfl) ?_
                refine zi_const hx hb (-1) dX1_integrate_160 ?_
                refine zi_ceq (tgt := 240) hx hb dX1_integrate_161 (by decide) (by omega) (by omega) (fun hc161 => ?_) (fun hc161 => ?_)
                · refine zi_inc (lv' := [(2, .int (iZ (n + 1))), (0, .ref mo), (1, .int (iZ f)), (3, .int (iZ c3))]) hx hb dX1_integrate_240 hl (k := 2) rfl (by decide) rfl (fun ls hl => ?_)
                  refine lv_goto (tgt := 148) hx hb dX1_integrate_243 (by decide) ?_
                  exact ih148 (m148 - 1) (T, n + 1) (by omega) (by (try dsimp only); exact ⟨by omega, by omega, igR_same hI155.2.2.2.1 (fun a q h1 h2 h3 h4 => by simp only [decide_eq_true_eq]; omega), hI155.2.2.2.2⟩) _ _ hP hS ls (lv_sub hl [1, 2, 0] rfl)
                · have hpT : ∀ j : Nat, j < 72 → T 2 j = V 0 ((f * 72).toNat + j) := fun j hj => by rw [hI155.2.2.2.2.1]; exact hRV1.1 j hj
                  have hpx : T 2 (c3 * 9 + n + 4).toNat = nuZ (V 0) f c3 n := pn_at (by omega) hpT (by omega) (by omega)
                  have hq1 := nuZ_rng hN f c3 n
                  rw [← hpx] at hq1
                  have hlr := lgZ_rng (V 0) f (n + 1) (3 - c3).toNat
                  have hsm := sm_mul (a := c3 + 1) (by omega) hlr
                  have hiv := pwP_rng ((n + 1) % 32003) 32001
                  refine lv_aload_n hx hb dX1_integrate_164 rfl (lv_at hl 0 rfl) ?_
                  refine va_get (D := D) (ci := 1) (C := RX1) (T := TX1) (N := 8) hx hb hT inX1 hown hK hP 0 rfl rfl 4 (by decide) (hT _ tb_406) (fun _ h9 => h9) rfl dX1_integrate_165 ?_
                  refine lv_iload_n hx hb dX1_integrate_168 rfl (lv_at hl 3 rfl) ?_
                  refine lv_iload_n hx hb dX1_integrate_169 rfl (lv_at hl 2 rfl) ?_
                  refine rd_S (As := [.int (iZ c3), .int (iZ n)]) (rest := [.ref (na 2)]) (st1 := [.int (iZ (c3 * 9 + n + 4)), .ref (na 2)]) S (k_X1_place l c3 n) tb_442 tb_443 tb_2 tb_444 hd_X1_place ⟨rfl, rfl, by decide, by decide⟩ bl_T (fun _ _ _ => trivial) rfl hl.1 rfl (Nat.le_of_ble_eq_true rfl) dX1_integrate_170 ⟨Nat.zero_le _, Nat.zero_le _⟩ rfl ?_
                  refine va_lald hx hb hK hP 3 1 rfl rfl (iZ_in (by omega) (by omega) (by decide)) dX1_integrate_173 ?_
                  refine zl_as (a := T 2 ((c3 * 9 + n + 4).toNat)) (by rw [iZ_cl (by omega) (by omega)]) ?_
                  refine lv_iload_n hx hb dX1_integrate_174 rfl (lv_at hl 3 rfl) ?_
                  refine zi_const hx hb 3 dX1_integrate_175 ?_
                  refine zi_cge (tgt := 201) hx hb dX1_integrate_176 (by decide) (by omega) (by omega) (fun hc176 => ?_) (fun hc176 => ?_)
                  · refine zl_const hx hb 0 dX1_integrate_201 (by decide) ?_
                    refine zl_top (fun u10 eu10 => ?_)
                    have hu : u10 = (c3 + 1) * lgZ (V 0) f (n + 1) (3 - c3).toNat := by
                      rw [eu10, show (3 - c3).toNat = 0 by omega]
                      exact (Int.mul_zero _).symm
                    refine zl_sub hx hb dX1_integrate_202 ?_
                    refine zl_top (fun v11 ev11 => ?_)
                    refine lv_lstore (lv' := [(4, .long (lZ v11)), (0, .ref mo), (1, .int (iZ f)), (2, .int (iZ n)), (3, .int (iZ c3))]) hx hb dX1_integrate_203 hl (by decide) rfl (fun ls hl => ?_)
                    have hpr := mul_rng (a := v11 % 32003) (by omega) hiv
                    refine lv_aload_n hx hb dX1_integrate_205 rfl (lv_at hl 1 rfl) ?_
                    refine va_get (D := D) (ci := 1) (C := RX1) (T := TX1) (N := 8) hx hb hT inX1 hown hK hP 0 rfl rfl 3 (by decide) (hT _ tb_405) (fun _ h9 => h9) rfl dX1_integrate_206 ?_
                    refine lv_iload_n hx hb dX1_integrate_209 rfl (lv_at hl 4 rfl) ?_
                    refine lv_iload_n hx hb dX1_integrate_210 rfl (lv_at hl 3 rfl) ?_
                    refine zi_const hx hb 1 dX1_integrate_211 ?_
                    refine zi_add hx hb dX1_integrate_212 ?_
                    refine rd_S (As := [.int (iZ c3), .int (iZ (n + 1))]) (rest := [.ref (na 1)]) (st1 := [.int (iZ (c3 * 9 + (n + 1) + 4)), .ref (na 1)]) S (k_X1_place l c3 (n + 1)) tb_442 tb_443 tb_2 tb_444 hd_X1_place ⟨rfl, rfl, by decide, by decide⟩ bl_T (fun _ _ _ => trivial) rfl hl.1 rfl (Nat.le_of_ble_eq_true rfl) dX1_integrate_213 ⟨Nat.zero_le _, Nat.zero_le _⟩ rfl ?_
                    refine lv_lload hx hb dX1_integrate_216 (lv_at hl 0 rfl) ?_
                    refine rd_S (As := [.long (lZ v11)]) (rest := [.int (iZ (c3 * 9 + (n + 1) + 4)), .ref (na 1)]) (st1 := [.long (lZ (v11 % 32003)), .int (iZ (c3 * 9 + (n + 1) + 4)), .ref (na 1)]) S (k_X1_modulo l v11 (by omega)) tb_445 tb_446 tb_2 tb_447 hd_X1_modulo ⟨rfl, rfl, by decide, by decide⟩ bl_T (fun _ _ _ => trivial) rfl hl.1 rfl (Nat.le_of_ble_eq_true rfl) dX1_integrate_218 ⟨Nat.zero_le _, Nat.zero_le _⟩ rfl ?_
                    refine lv_iload_n hx hb dX1_integrate_221 rfl (lv_at hl 3 rfl) ?_
                    refine zi_const hx hb 1 dX1_integrate_222 ?_
                    refine zi_add hx hb dX1_integrate_223 ?_
                    refine zi_i2l hx hb dX1_integrate_224 (by omega) ?_
                    refine rd_S (As := [.long (lZ (n + 1))]) (rest := [.long (lZ (v11 % 32003)), .int (iZ (c3 * 9 + (n + 1) + 4)), .ref (na 1)]) (st1 := [.long (lZ (pwP ((n + 1) % 32003) 32001)), .long (lZ (v11 % 32003)), .int (iZ (c3 * 9 + (n + 1) + 4)), .ref (na 1)]) S (k_X1_inverse l (n + 1) (by omega)) tb_513 tb_514 tb_2 tb_515 hd_X1_inverse ⟨rfl, rfl, by decide, by decide⟩ bl_T (fun _ _ _ => trivial) rfl hl.1 rfl (Nat.le_of_ble_eq_true rfl) dX1_integrate_225 ⟨Nat.zero_le _, Nat.zero_le _⟩ rfl ?_
                    have hip228 := pwP_rng ((n + 1) % 32003) 32001
                    refine zl_mul hx hb dX1_integrate_228 ?_
                    refine zl_ldc hx hb 32003 hown (hT _ tb_448) (by decide) dX1_integrate_229 ?_
                    refine zl_rem hx hb dX1_integrate_232 (by omega) (by omega) ?_
                    have hst : (Int.tmod ((v11 % 32003) * (pwP ((n + 1) % 32003) 32001)) 32003 : Int) = igZ (V 0) f c3 (n + 1) := by
                      have h9 := lg_at (F := V 0) (f := f) (n := n + 1) (c := c3) (by omega) rfl
                      rw [show n + 1 - 1 = n by omega] at h9
                      rw [tmP (by omega), ev11, hpx, hu, ig_lg (by omega) (by omega)]
                      exact h9
                    refine mm_l hx hb hK hP hd hA hS 1 72 rfl (fun g => rfl) (by omega) dX1_integrate_233 (fun H locs hP hS => ?_)
                    obtain ⟨V12, eV12⟩ : ∃ Z : Nat → Nat → Int, Z = sV T 1 (uZ (T 1) (c3 * 9 + (n + 1) + 4).toNat (Int.tmod ((v11 % 32003) * (pwP ((n + 1) % 32003) 32001)) 32003)) := ⟨_, rfl⟩
                    rw [← eV12] at hP
                    refine zi_inc (lv' := [(3, .int (iZ (c3 + (-1)))), (4, .long (lZ v11)), (0, .ref mo), (1, .int (iZ f)), (2, .int (iZ n))]) hx hb dX1_integrate_234 hl (k := 4) rfl (by decide) rfl (fun ls hl => ?_)
                    refine lv_goto (tgt := 155) hx hb dX1_integrate_237 (by decide) ?_
                    exact ih155 (m155 - 1) (V12, c3 + (-1)) (by omega) (by (try dsimp only); exact ⟨by omega, by omega, by omega, by rw [eV12, sV_a]; exact igR_step (c := c3) (n := n + 1) hI155.2.2.2.1 (by omega) (by omega) hst (fun a q h1 h2 h3 h4 => by simp only [decide_eq_true_eq]; omega), by rw [eV12, sV_b (by decide)]; exact hI155.2.2.2.2.1, by rw [eV12, sV_b (by decide)]; exact hI155.2.2.2.2.2⟩) _ _ hP hS ls (lv_sub hl [2, 3, 4, 0] rfl)
                  · refine lv_iload_n hx hb dX1_integrate_179 rfl (lv_at hl 3 rfl) ?_
                    refine zi_const hx hb 1 dX1_integrate_180 ?_
                    refine zi_add hx hb dX1_integrate_181 ?_
                    refine zi_i2l hx hb dX1_integrate_182 (by omega) ?_
                    refine lv_aload_n hx hb dX1_integrate_183 rfl (lv_at hl 0 rfl) ?_
                    refine va_get (D := D) (ci := 1) (C := RX1) (T := TX1) (N := 8) hx hb hT inX1 hown hK hP 0 rfl rfl 3 (by decide) (hT _ tb_405) (fun _ h9 => h9) rfl dX1_integrate_184 ?_
                    refine lv_iload_n hx hb dX1_integrate_187 rfl (lv_at hl 3 rfl) ?_
                    refine zi_const hx hb 1 dX1_integrate_188 ?_
                    refine zi_add hx hb dX1_integrate_189 ?_
                    refine lv_iload_n hx hb dX1_integrate_190 rfl (lv_at hl 2 rfl) ?_
                    refine zi_const hx hb 1 dX1_integrate_191 ?_
                    refine zi_add hx hb dX1_integrate_192 ?_
                    refine rd_S (As := [.int (iZ (c3 + 1)), .int (iZ (n + 1))]) (rest := [.ref (na 1), .long (lZ (c3 + 1)), .long (lZ (T 2 (c3 * 9 + n + 4).toNat))]) (st1 := [.int (iZ ((c3 + 1) * 9 + (n + 1) + 4)), .ref (na 1), .long (lZ (c3 + 1)), .long (lZ (T 2 (c3 * 9 + n + 4).toNat))]) S (k_X1_place l (c3 + 1) (n + 1)) tb_442 tb_443 tb_2 tb_444 hd_X1_place ⟨rfl, rfl, by decide, by decide⟩ bl_T (fun _ _ _ => trivial) rfl hl.1 rfl (Nat.le_of_ble_eq_true rfl) dX1_integrate_193 ⟨Nat.zero_le _, Nat.zero_le _⟩ rfl ?_
                    refine va_lald hx hb hK hP 2 1 rfl rfl (iZ_in (by omega) (by omega) (by decide)) dX1_integrate_196 ?_
                    refine zl_as (a := T 1 (((c3 + 1) * 9 + (n + 1) + 4).toNat)) (by rw [iZ_cl (by omega) (by omega)]) ?_
                    refine zl_mul hx hb dX1_integrate_197 ?_
                    refine lv_goto (tgt := 202) hx hb dX1_integrate_198 (by decide) ?_
                    refine zl_top (fun u13 eu13 => ?_)
                    have hu : u13 = (c3 + 1) * lgZ (V 0) f (n + 1) (3 - c3).toNat := by
                      rw [eu13, igR_at (c := c3 + 1) (n := n + 1) hI155.2.2.2.1 (by omega) (by omega) (decide_eq_true (Or.inr ⟨by omega, by omega, by omega, Or.inr ⟨rfl, by omega⟩⟩)), ig_lg (by omega) (by omega), show (4 - (c3 + 1)).toNat = (3 - c3).toNat by omega]
                    refine zl_sub hx hb dX1_integrate_202 ?_
                    refine zl_top (fun v14 ev14 => ?_)
                    refine lv_lstore (lv' := [(4, .long (lZ v14)), (0, .ref mo), (1, .int (iZ f)), (2, .int (iZ n)), (3, .int (iZ c3))]) hx hb dX1_integrate_203 hl (by decide) rfl (fun ls hl => ?_)
                    have hpr := mul_rng (a := v14 % 32003) (by omega) hiv
                    refine lv_aload_n hx hb dX1_integrate_205 rfl (lv_at hl 1 rfl) ?_
                    refine va_get (D := D) (ci := 1) (C := RX1) (T := TX1) (N := 8) hx hb hT inX1 hown hK hP 0 rfl rfl 3 (by decide) (hT _ tb_405) (fun _ h9 => h9) rfl dX1_integrate_206 ?_
                    refine lv_iload_n hx hb dX1_integrate_209 rfl (lv_at hl 4 rfl) ?_
                    refine lv_iload_n hx hb dX1_integrate_210 rfl (lv_at hl 3 rfl) ?_
                    refine zi_const hx hb 1 dX1_integrate_211 ?_
                    refine zi_add hx hb dX1_integrate_212 ?_
                    refine rd_S (As := [.int (iZ c3), .int (iZ (n + 1))]) (rest := [.ref (na 1)]) (st1 := [.int (iZ (c3 * 9 + (n + 1) + 4)), .ref (na 1)]) S (k_X1_place l c3 (n + 1)) tb_442 tb_443 tb_2 tb_444 hd_X1_place ⟨rfl, rfl, by decide, by decide⟩ bl_T (fun _ _ _ => trivial) rfl hl.1 rfl (Nat.le_of_ble_eq_true rfl) dX1_integrate_213 ⟨Nat.zero_le _, Nat.zero_le _⟩ rfl ?_
                    refine lv_lload hx hb dX1_integrate_216 (lv_at hl 0 rfl) ?_
                    refine rd_S (As := [.long (lZ v14)]) (rest := [.int (iZ (c3 * 9 + (n + 1) + 4)), .ref (na 1)]) (st1 := [.long (lZ (v14 % 32003)), .int (iZ (c3 * 9 + (n + 1) + 4)), .ref (na 1)]) S (k_X1_modulo l v14 (by omega)) tb_445 tb_446 tb_2 tb_447 hd_X1_modulo ⟨rfl, rfl, by decide, by decide⟩ bl_T (fun _ _ _ => trivial) rfl hl.1 rfl (Nat.le_of_ble_eq_true rfl) dX1_integrate_218 ⟨Nat.zero_le _, Nat.zero_le _⟩ rfl ?_
                    refine lv_iload_n hx hb dX1_integrate_221 rfl (lv_at hl 3 rfl) ?_
                    refine zi_const hx hb 1 dX1_integrate_222 ?_
                    refine zi_add hx hb dX1_integrate_223 ?_
                    refine zi_i2l hx hb dX1_integrate_224 (by omega) ?_
                    refine rd_S (As := [.long (lZ (n + 1))]) (rest := [.long (lZ (v14 % 32003)), .int (iZ (c3 * 9 + (n + 1) + 4)), .ref (na 1)]) (st1 := [.long (lZ (pwP ((n + 1) % 32003) 32001)), .long (lZ (v14 % 32003)), .int (iZ (c3 * 9 + (n + 1) + 4)), .ref (na 1)]) S (k_X1_inverse l (n + 1) (by omega)) tb_513 tb_514 tb_2 tb_515 hd_X1_inverse ⟨rfl, rfl, by decide, by decide⟩ bl_T (fun _ _ _ => trivial) rfl hl.1 rfl (Nat.le_of_ble_eq_true rfl) dX1_integrate_225 ⟨Nat.zero_le _, Nat.zero_le _⟩ rfl ?_
                    have hip228 := pwP_rng ((n + 1) % 32003) 32001
                    refine zl_mul hx hb dX1_integrate_228 ?_
                    refine zl_ldc hx hb 32003 hown (hT _ tb_448) (by decide) dX1_integrate_229 ?_
                    refine zl_rem hx hb dX1_integrate_232 (by omega) (by omega) ?_
                    have hst : (Int.tmod ((v14 % 32003) * (pwP ((n + 1) % 32003) 32001)) 32003 : Int) = igZ (V 0) f c3 (n + 1) := by
                      have h9 := lg_at (F := V 0) (f := f) (n := n + 1) (c := c3) (by omega) rfl
                      rw [show n + 1 - 1 = n by omega] at h9
                      rw [tmP (by omega), ev14, hpx, hu, ig_lg (by omega) (by omega)]
                      exact h9
                    refine mm_l hx hb hK hP hd hA hS 1 72 rfl (fun g => rfl) (by omega) dX1_integrate_233 (fun H locs hP hS => ?_)
                    obtain ⟨V15, eV15⟩ : ∃ Z : Nat → Nat → Int, Z = sV T 1 (uZ (T 1) (c3 * 9 + (n + 1) + 4).toNat (Int.tmod ((v14 % 32003) * (pwP ((n + 1) % 32003) 32001)) 32003)) := ⟨_, rfl⟩
                    rw [← eV15] at hP
                    refine zi_inc (lv' := [(3, .int (iZ (c3 + (-1)))), (4, .long (lZ v14)), (0, .ref mo), (1, .int (iZ f)), (2, .int (iZ n))]) hx hb dX1_integrate_234 hl (k := 4) rfl (by decide) rfl (fun ls hl => ?_)
                    refine lv_goto (tgt := 155) hx hb dX1_integrate_237 (by decide) ?_
                    exact ih155 (m155 - 1) (V15, c3 + (-1)) (by omega) (by (try dsimp only); exact ⟨by omega, by omega, by omega, by rw [eV15, sV_a]; exact igR_step (c := c3) (n := n + 1) hI155.2.2.2.1 (by omega) (by omega) hst (fun a q h1 h2 h3 h4 => by simp only [decide_eq_true_eq]; omega), by rw [eV15, sV_b (by decide)]; exact hI155.2.2.2.2.1, by rw [eV15, sV_b (by decide)]; exact hI155.2.2.2.2.2⟩) _ _ hP hS ls (lv_sub hl [2, 3, 4, 0] rfl)
          · exact absurd (hpx.trans (it_zero hi).2) hc135
        · have hpx : X 2 (c2 * 9 + 4 + 4).toNat = nuZ (V 0) f c2 4 := pn_at (by omega) hpX (by omega) (by omega)
          have hq1 := nuZ_rng hN f c2 4
          rw [← hpx] at hq1
          refine lv_aload_n hx hb dX1_integrate_97 rfl (lv_at hl 0 rfl) ?_
          refine va_get (D := D) (ci := 1) (C := RX1) (T := TX1) (N := 8) hx hb hT inX1 hown hK hP 0 rfl rfl 4 (by decide) (hT _ tb_406) (fun _ h9 => h9) rfl dX1_integrate_98 ?_
          refine lv_iload_n hx hb dX1_integrate_101 rfl (lv_at hl 2 rfl) ?_
          refine zi_const hx hb 4 dX1_integrate_102 ?_
          refine rd_S (As := [.int (iZ c2), .int (iZ 4)]) (rest := [.ref (na 2)]) (st1 := [.int (iZ (c2 * 9 + 4 + 4)), .ref (na 2)]) S (k_X1_place l c2 4) tb_442 tb_443 tb_2 tb_444 hd_X1_place ⟨rfl, rfl, by decide, by decide⟩ bl_T (fun _ _ _ => trivial) rfl hl.1 rfl (Nat.le_of_ble_eq_true rfl) dX1_integrate_103 ⟨Nat.zero_le _, Nat.zero_le _⟩ rfl ?_
          refine va_lald hx hb hK hP 3 1 rfl rfl (iZ_in (by omega) (by omega) (by decide)) dX1_integrate_106 ?_
          refine zl_as (a := X 2 ((c2 * 9 + 4 + 4).toNat)) (by rw [iZ_cl (by omega) (by omega)]) ?_
          refine zl_const hx hb 0 dX1_integrate_107 (by decide) ?_
          refine zl_ceq (tgt := 118) hx hb dX1_integrate_108 dX1_integrate_109 (by decide) (by omega) (by omega) (fun hc108 => ?_) (fun hc108 => ?_)
          · refine zi_inc (lv' := [(2, .int (iZ (c2 + 1))), (0, .ref mo), (1, .int (iZ f))]) hx hb dX1_integrate_118 hl (k := 2) rfl (by decide) rfl (fun ls hl => ?_)
            refine lv_goto (tgt := 92) hx hb dX1_integrate_121 (by decide) ?_
            exact ih92 (m92 - 1) (c2 + 1) (by omega) (by (try dsimp only); exact ⟨by omega, by omega, fun c h1 h2 => (by rcases (show c < c2 ∨ c = c2 by omega) with h9 | h9; exact hI92.2.2 c h1 h9; rw [h9, ← hpx]; exact hc108)⟩) ls (lv_sub hl [1, 2, 0] rfl)
          · exact absurd (hpx.trans ((it_zero hi).1 c2 (by omega) (by omega))) hc108
      · refine lv_aload_n hx hb dX1_integrate_40 rfl (lv_at hl 0 rfl) ?_
        refine lv_iload_n hx hb dX1_integrate_41 rfl (lv_at hl 2 rfl) ?_
        refine wm_V (As := [.int (iZ c1)]) (rest := []) (st1 := [.long (lZ (rsZ (V 0) f c1))]) (c1 := 0) (k1 := k) S (k_X1_restOf l D mo na cI cJ 0 k X (V 0) f c1 hd hN (by omega) hpX (by omega)) tb_509 tb_511 ts_X1_restOf tb_2 tb_512 hd_X1_restOf ⟨rfl, rfl, by decide, by decide⟩ hP hK hS hA hAn rfl hl.1 rfl (Nat.le_of_ble_eq_true rfl) dX1_integrate_42 ⟨Nat.zero_le _, Nat.zero_le _⟩ rfl (fun V16 H locs hRV16 hP hS _ _ => ?_)
        have hrr : 0 ≤ rsZ (V 0) f c1 ∧ rsZ (V 0) f c1 < 32003 := by unfold rsZ; split <;> omega
        refine zl_const hx hb 0 dX1_integrate_45 (by decide) ?_
        refine zl_ceq (tgt := 52) hx hb dX1_integrate_46 dX1_integrate_47 (by decide) (by omega) (by omega) (fun hc46 => ?_) (fun hc46 => ?_)
        · refine zi_bi hx hb (-3) dX1_integrate_52 (by decide) ?_
          refine lv_istore_n (lv' := [(3, .int (iZ (-3))), (0, .ref mo), (1, .int (iZ f)), (2, .int (iZ c1))]) hx hb dX1_integrate_54 rfl hl (by decide) rfl (fun ls hl => ?_)
          have hsx := sm_ex (by omega) hc46 hRV16.1 hRV16.2.1
          refine lp_goM (nL := 6) (α := (Nat → Nat → Int) × Int) (fun z => [(0, .ref mo), (1, .int (iZ f)), (2, .int (iZ c1)), (3, .int (iZ z.2))]) (fun _ => 0) (fun _ => k) (fun z => z.1) (fun m55 z => -3 ≤ z.2 ∧ z.2 + (m55 : Int) = 5 ∧ igR (V 0) f (fun a q => decide (4 ≤ a ∧ -3 ≤ q ∧ (a < c1 ∨ (a = c1 ∧ q < z.2)))) (z.1 1) ∧ z.1 5 = V16 5 ∧ z.1 2 = V1 2 ∧ z.1 0 = V 0) ?_ 8 (V16, ((-3) : Int)) (by (try dsimp only); exact ⟨by omega, by omega, by rw [hRV16.2.2 1 (by decide)]; exact igR_same hI34.2.2.1 (fun a q h1 h2 h3 h4 => by simp only [decide_eq_true_eq]; omega), rfl, (hRV16.2.2 2 (by decide)).trans hI34.2.2.2.2.1, (hRV16.2.2 0 (by decide)).trans hI34.2.2.2.2.2⟩) _ _ hP hS ls (lv_sub hl [1, 2, 3, 0] rfl)
          intro m55 z17 hI55 ih55 H locs hP hS ls hl
          obtain ⟨U, n⟩ := z17
          have hl : lv_has ls 6 [(0, .ref mo), (1, .int (iZ f)), (2, .int (iZ c1)), (3, .int (iZ n))] := hl
          have hI55 : -3 ≤ n ∧ n + (m55 : Int) = 5 ∧ igR (V 0) f (fun a q => decide (4 ≤ a ∧ -3 ≤ q ∧ (a < c1 ∨ (a = c1 ∧ q < n)))) (U 1) ∧ U 5 = V16 5 ∧ U 2 = V1 2 ∧ U 0 = V 0 := hI55
          have hP : va_P D vwCl (mX mo na cI cJ 0 k U) H := hP
          refine lv_iload_n hx hb dX1_integrate_55 rfl (lv_at hl 3 rfl) ?_
          refine zi_const hx hb 4 dX1_integrate_56 ?_
          refine zi_cgt (tgt := 84) hx hb dX1_integrate_57 (by decide) (by omega) (by omega) (fun hc57 => ?_) (fun hc57 => ?_)
          · refine zi_inc (lv' := [(2, .int (iZ (c1 + 1))), (0, .ref mo), (1, .int (iZ f)), (3, .int (iZ n))]) hx hb dX1_integrate_84 hl (k := 2) rfl (by decide) rfl (fun ls hl => ?_)
            refine lv_goto (tgt := 34) hx hb dX1_integrate_87 (by decide) ?_
            exact ih34 (m34 - 1) (U, c1 + 1) (by omega) (by (try dsimp only); exact ⟨by omega, by omega, igR_same hI55.2.2.1 (fun a q h1 h2 h3 h4 => by simp only [decide_eq_true_eq]; omega), fun c h1 h2 => (by rcases (show c < c1 ∨ c = c1 by omega) with h9 | h9; exact hI34.2.2.2.1 c h1 h9; rw [h9]; exact hc46), hI55.2.2.2.2.1, hI55.2.2.2.2.2⟩) _ _ hP hS ls (lv_sub hl [1, 2, 0] rfl)
          · refine lv_aload_n hx hb dX1_integrate_60 rfl (lv_at hl 0 rfl) ?_
            refine va_get (D := D) (ci := 1) (C := RX1) (T := TX1) (N := 8) hx hb hT inX1 hown hK hP 0 rfl rfl 3 (by decide) (hT _ tb_405) (fun _ h9 => h9) rfl dX1_integrate_61 ?_
            refine lv_iload_n hx hb dX1_integrate_64 rfl (lv_at hl 2 rfl) ?_
            refine lv_iload_n hx hb dX1_integrate_65 rfl (lv_at hl 3 rfl) ?_
            refine rd_S (As := [.int (iZ c1), .int (iZ n)]) (rest := [.ref (na 1)]) (st1 := [.int (iZ (c1 * 9 + n + 4)), .ref (na 1)]) S (k_X1_place l c1 n) tb_442 tb_443 tb_2 tb_444 hd_X1_place ⟨rfl, rfl, by decide, by decide⟩ bl_T (fun _ _ _ => trivial) rfl hl.1 rfl (Nat.le_of_ble_eq_true rfl) dX1_integrate_66 ⟨Nat.zero_le _, Nat.zero_le _⟩ rfl ?_
            refine lv_aload_n hx hb dX1_integrate_69 rfl (lv_at hl 0 rfl) ?_
            refine va_get (D := D) (ci := 1) (C := RX1) (T := TX1) (N := 8) hx hb hT inX1 hown hK hP 0 rfl rfl 7 (by decide) (hT _ tb_409) (fun _ h9 => h9) rfl dX1_integrate_70 ?_
            refine lv_iload_n hx hb dX1_integrate_73 rfl (lv_at hl 3 rfl) ?_
            refine zi_const hx hb 3 dX1_integrate_74 ?_
            refine zi_add hx hb dX1_integrate_75 ?_
            refine va_lald hx hb hK hP 6 1 rfl rfl (iZ_in (by omega) (by omega) (by decide)) dX1_integrate_76 ?_
            refine zl_as (a := U 5 ((n + 3).toNat)) (by rw [iZ_cl (by omega) (by omega)]) ?_
            refine mm_l hx hb hK hP hd hA hS 1 72 rfl (fun g => rfl) (by omega) dX1_integrate_77 (fun H locs hP hS => ?_)
            obtain ⟨V18, eV18⟩ : ∃ Z : Nat → Nat → Int, Z = sV U 1 (uZ (U 1) (c1 * 9 + n + 4).toNat (U 5 (n + 3).toNat)) := ⟨_, rfl⟩
            rw [← eV18] at hP
            refine zi_inc (lv' := [(3, .int (iZ (n + 1))), (0, .ref mo), (1, .int (iZ f)), (2, .int (iZ c1))]) hx hb dX1_integrate_78 hl (k := 3) rfl (by decide) rfl (fun ls hl => ?_)
            refine lv_goto (tgt := 55) hx hb dX1_integrate_81 (by decide) ?_
            exact ih55 (m55 - 1) (V18, n + 1) (by omega) (by (try dsimp only); exact ⟨by omega, by omega, by rw [eV18, sV_a]; exact igR_step (c := c1) (n := n) hI55.2.2.1 (by omega) (by omega) (by rw [hI55.2.2.2.1, hsx n (by omega) (by omega)]; exact ig_ex (by omega) (by omega) rfl) (fun a q h1 h2 h3 h4 => by simp only [decide_eq_true_eq]; omega), by rw [eV18, sV_b (by decide)]; exact hI55.2.2.2.1, by rw [eV18, sV_b (by decide)]; exact hI55.2.2.2.2.1, by rw [eV18, sV_b (by decide)]; exact hI55.2.2.2.2.2⟩) _ _ hP hS ls (lv_sub hl [1, 2, 3, 0] rfl)
        · exact absurd (hr_zero hh (by omega)) hc46
    · refine lv_aload_n hx hb dX1_integrate_19 rfl (lv_at hl 0 rfl) ?_
      refine va_get (D := D) (ci := 1) (C := RX1) (T := TX1) (N := 8) hx hb hT inX1 hown hK hP 0 rfl rfl 3 (by decide) (hT _ tb_405) (fun _ h9 => h9) rfl dX1_integrate_20 ?_
      refine lv_iload_n hx hb dX1_integrate_23 rfl (lv_at hl 2 rfl) ?_
      refine zl_const hx hb 0 dX1_integrate_24 (by decide) ?_
      refine mm_l hx hb hK hP hd hA hS 1 72 rfl (fun g => rfl) (by omega) dX1_integrate_25 (fun H locs hP hS => ?_)
      obtain ⟨V19, eV19⟩ : ∃ Z : Nat → Nat → Int, Z = sV Y 1 (uZ (Y 1) (i).toNat 0) := ⟨_, rfl⟩
      rw [← eV19] at hP
      refine zi_inc (lv' := [(2, .int (iZ (i + 1))), (0, .ref mo), (1, .int (iZ f))]) hx hb dX1_integrate_26 hl (k := 2) rfl (by decide) rfl (fun ls hl => ?_)
      refine lv_goto (tgt := 13) hx hb dX1_integrate_29 (by decide) ?_
      exact ih13 (m13 - 1) (V19, i + 1) (by omega) (by (try dsimp only); exact ⟨by omega, by omega, by rw [eV19, sV_a]; exact st_lt (P := fun _ => 0) hI13.2.2.1 hI13.1 rfl, fun b hb9 => by rw [eV19, sV_b hb9]; exact hI13.2.2.2 b hb9⟩) _ _ hP hS ls (lv_sub hl [1, 2, 0] rfl)
  · exfalso
    omega
set_option maxHeartbeats 4000000 in
set_option maxRecDepth 100000 in
theorem k0_X1_integrate (l : Launch) (D : va_G) (mo : Nat) (na : Nat → Nat) (cI cJ : ClassId) (c0 k : Int) (V : Nat → Nat → Int) (f : Int) (hd : dM mo na) (hN : ∀ j, 0 ≤ V 0 j ∧ V 0 j < 32003) (hk : 0 ≤ k ∧ k < 60) (hf : 0 ≤ f ∧ f < k) (hh : hrZ (V 0) f = 1) : wm_M l yX1_integrate cX1_integrate 6 (some .int) ({ frames := 3, cells := 0, slots := 0, locals := 74 }) [.int (iZ f)] D mo na cI cJ c0 k V (some (.int (iZ (-1)))) 0 k (fun Z => Z 0 = V 0) := by
  refine wm_of (by decide) rfl (Nat.le_of_ble_eq_true rfl) ?_
  intro p e s m below meth c A hAe S hr hlk hP hK hA hAn hS ls hl
  obtain ⟨hx, hb, hml, hown, hT⟩ := id S
  have hl : lv_has ls 6 [(0, .ref mo), (1, .int (iZ f))] := hl
  refine lv_aload_n hx hb dX1_integrate_0 rfl (lv_at hl 0 rfl) ?_
  refine lv_iload_n hx hb dX1_integrate_1 rfl (lv_at hl 1 rfl) ?_
  refine lv_iload_n hx hb dX1_integrate_2 rfl (lv_at hl 1 rfl) ?_
  refine wm_V (As := [.int (iZ f), .int (iZ f)]) (rest := []) (st1 := [.int (iZ 1)]) (c1 := 0) (k1 := k) S (k_X1_may l D mo na cI cJ c0 k V f f hd hN (by omega) (by omega) (by omega)) tb_462 tb_464 ts_X1_may tb_2 tb_465 hd_X1_may ⟨rfl, rfl, by decide, by decide⟩ hP hK hS hA hAn rfl hl.1 rfl (Nat.le_of_ble_eq_true rfl) dX1_integrate_3 ⟨Nat.zero_le _, Nat.zero_le _⟩ rfl (fun V1 H locs hRV1 hP hS _ _ => ?_)
  refine zi_fne (tgt := 11) hx hb dX1_integrate_6 (by decide) (by omega) (fun hc6 => ?_) (fun hc6 => ?_)
  · refine zi_const hx hb 0 dX1_integrate_11 ?_
    refine lv_istore_n (lv' := [(2, .int (iZ 0)), (0, .ref mo), (1, .int (iZ f))]) hx hb dX1_integrate_12 rfl hl (by decide) rfl (fun ls hl => ?_)
    refine lp_goM (nL := 6) (α := (Nat → Nat → Int) × Int) (fun z => [(0, .ref mo), (1, .int (iZ f)), (2, .int (iZ z.2))]) (fun _ => 0) (fun _ => k) (fun z => z.1) (fun m13 z => 0 ≤ z.2 ∧ z.2 + (m13 : Int) = 72 ∧ (∀ j : Nat, (j : Int) < z.2 → z.1 1 j = 0) ∧ ∀ b, b ≠ 1 → z.1 b = V1 b) ?_ 72 (V1, (0 : Int)) (by (try dsimp only); exact ⟨by omega, by omega, fun j hj => by omega, fun b _ => rfl⟩) _ _ hP hS ls (lv_sub hl [1, 2, 0] rfl)
    intro m13 z2 hI13 ih13 H locs hP hS ls hl
    obtain ⟨Y, i⟩ := z2
    have hl : lv_has ls 6 [(0, .ref mo), (1, .int (iZ f)), (2, .int (iZ i))] := hl
    have hI13 : 0 ≤ i ∧ i + (m13 : Int) = 72 ∧ (∀ j : Nat, (j : Int) < i → Y 1 j = 0) ∧ ∀ b, b ≠ 1 → Y b = V1 b := hI13
    have hP : va_P D vwCl (mX mo na cI cJ 0 k Y) H := hP
    refine lv_iload_n hx hb dX1_integrate_13 rfl (lv_at hl 2 rfl) ?_
    refine zi_bi hx hb 72 dX1_integrate_14 (by decide) ?_
    refine zi_cge (tgt := 32) hx hb dX1_integrate_16 (by decide) (by omega) (by omega) (fun hc16 => ?_) (fun hc16 => ?_)
    · refine zi_const hx hb 4 dX1_integrate_32 ?_
      refine lv_istore_n (lv' := [(2, .int (iZ 4)), (0, .ref mo), (1, .int (iZ f))]) hx hb dX1_integrate_33 rfl hl (by decide) rfl (fun ls hl => ?_)
      refine lp_goM (nL := 6) (α := (Nat → Nat → Int) × Int) (fun z => [(0, .ref mo), (1, .int (iZ f)), (2, .int (iZ z.2))]) (fun _ => 0) (fun _ => k) (fun z => z.1) (fun m34 z => 4 ≤ z.2 ∧ z.2 + (m34 : Int) = 8 ∧ True ∧ (∀ c : Int, 4 ≤ c → c < z.2 → rsZ (V 0) f c = 0) ∧ z.1 2 = V1 2 ∧ z.1 0 = V 0) ?_ 4 (Y, (4 : Int)) (by (try dsimp only); exact ⟨by omega, by omega, trivial, fun c h1 h2 => by omega, hI13.2.2.2 2 (by decide), (hI13.2.2.2 0 (by decide)).trans hRV1.2.2⟩) _ _ hP hS ls (lv_sub hl [1, 2, 0] rfl)
      intro m34 z3 hI34 ih34 H locs hP hS ls hl
      obtain ⟨X, c1⟩ := z3
      have hl : lv_has ls 6 [(0, .ref mo), (1, .int (iZ f)), (2, .int (iZ c1))] := hl
      have hI34 : 4 ≤ c1 ∧ c1 + (m34 : Int) = 8 ∧ True ∧ (∀ c : Int, 4 ≤ c → c < c1 → rsZ (V 0) f c = 0) ∧ X 2 = V1 2 ∧ X 0 = V 0 := hI34
      have hP : va_P D vwCl (mX mo na cI cJ 0 k X) H := hP
      have hpX : ∀ j : Nat, j < 72 → X 2 j = V 0 ((f * 72).toNat + j) := fun j hj => by rw [hI34.2.2.2.2.1]; exact hRV1.1 j hj
      refine lv_iload_n hx hb dX1_integrate_34 rfl (lv_at hl 2 rfl) ?_
      refine zi_bi hx hb 8 dX1_integrate_35 (by decide) ?_
      refine zi_cge (tgt := 90) hx hb dX1_integrate_37 (by decide) (by omega) (by omega) (fun hc37 => ?_) (fun hc37 => ?_)
      · exfalso
        exact hr_one hh (fun c h1 h2 => hI34.2.2.2.1 c h1 (by omega))
      · refine lv_aload_n hx hb dX1_integrate_40 rfl (lv_at hl 0 rfl) ?_
        refine lv_iload_n hx hb dX1_integrate_41 rfl (lv_at hl 2 rfl) ?_
        refine wm_V (As := [.int (iZ c1)]) (rest := []) (st1 := [.long (lZ (rsZ (V 0) f c1))]) (c1 := 0) (k1 := k) S (k_X1_restOf l D mo na cI cJ 0 k X (V 0) f c1 hd hN (by omega) hpX (by omega)) tb_509 tb_511 ts_X1_restOf tb_2 tb_512 hd_X1_restOf ⟨rfl, rfl, by decide, by decide⟩ hP hK hS hA hAn rfl hl.1 rfl (Nat.le_of_ble_eq_true rfl) dX1_integrate_42 ⟨Nat.zero_le _, Nat.zero_le _⟩ rfl (fun V4 H locs hRV4 hP hS _ _ => ?_)
        have hrr : 0 ≤ rsZ (V 0) f c1 ∧ rsZ (V 0) f c1 < 32003 := by unfold rsZ; split <;> omega
        refine zl_const hx hb 0 dX1_integrate_45 (by decide) ?_
        refine zl_ceq (tgt := 52) hx hb dX1_integrate_46 dX1_integrate_47 (by decide) (by omega) (by omega) (fun hc46 => ?_) (fun hc46 => ?_)
        · refine zi_bi hx hb (-3) dX1_integrate_52 (by decide) ?_
          refine lv_istore_n (lv' := [(3, .int (iZ (-3))), (0, .ref mo), (1, .int (iZ f)), (2, .int (iZ c1))]) hx hb dX1_integrate_54 rfl hl (by decide) rfl (fun ls hl => ?_)
          refine lp_goM (nL := 6) (α := (Nat → Nat → Int) × Int) (fun z => [(0, .ref mo), (1, .int (iZ f)), (2, .int (iZ c1)), (3, .int (iZ z.2))]) (fun _ => 0) (fun _ => k) (fun z => z.1) (fun m55 z => -3 ≤ z.2 ∧ z.2 + (m55 : Int) = 5 ∧ True ∧ z.1 5 = V4 5 ∧ z.1 2 = V1 2 ∧ z.1 0 = V 0) ?_ 8 (V4, ((-3) : Int)) (by (try dsimp only); exact ⟨by omega, by omega, trivial, rfl, (hRV4.2.2 2 (by decide)).trans hI34.2.2.2.2.1, (hRV4.2.2 0 (by decide)).trans hI34.2.2.2.2.2⟩) _ _ hP hS ls (lv_sub hl [1, 2, 3, 0] rfl)
          intro m55 z5 hI55 ih55 H locs hP hS ls hl
          obtain ⟨U, n⟩ := z5
          have hl : lv_has ls 6 [(0, .ref mo), (1, .int (iZ f)), (2, .int (iZ c1)), (3, .int (iZ n))] := hl
          have hI55 : -3 ≤ n ∧ n + (m55 : Int) = 5 ∧ True ∧ U 5 = V4 5 ∧ U 2 = V1 2 ∧ U 0 = V 0 := hI55
          have hP : va_P D vwCl (mX mo na cI cJ 0 k U) H := hP
          refine lv_iload_n hx hb dX1_integrate_55 rfl (lv_at hl 3 rfl) ?_
          refine zi_const hx hb 4 dX1_integrate_56 ?_
          refine zi_cgt (tgt := 84) hx hb dX1_integrate_57 (by decide) (by omega) (by omega) (fun hc57 => ?_) (fun hc57 => ?_)
          · refine zi_inc (lv' := [(2, .int (iZ (c1 + 1))), (0, .ref mo), (1, .int (iZ f)), (3, .int (iZ n))]) hx hb dX1_integrate_84 hl (k := 2) rfl (by decide) rfl (fun ls hl => ?_)
            refine lv_goto (tgt := 34) hx hb dX1_integrate_87 (by decide) ?_
            exact ih34 (m34 - 1) (U, c1 + 1) (by omega) (by (try dsimp only); exact ⟨by omega, by omega, trivial, fun c h1 h2 => (by rcases (show c < c1 ∨ c = c1 by omega) with h9 | h9; exact hI34.2.2.2.1 c h1 h9; rw [h9]; exact hc46), hI55.2.2.2.2.1, hI55.2.2.2.2.2⟩) _ _ hP hS ls (lv_sub hl [1, 2, 0] rfl)
          · refine lv_aload_n hx hb dX1_integrate_60 rfl (lv_at hl 0 rfl) ?_
            refine va_get (D := D) (ci := 1) (C := RX1) (T := TX1) (N := 8) hx hb hT inX1 hown hK hP 0 rfl rfl 3 (by decide) (hT _ tb_405) (fun _ h9 => h9) rfl dX1_integrate_61 ?_
            refine lv_iload_n hx hb dX1_integrate_64 rfl (lv_at hl 2 rfl) ?_
            refine lv_iload_n hx hb dX1_integrate_65 rfl (lv_at hl 3 rfl) ?_
            refine rd_S (As := [.int (iZ c1), .int (iZ n)]) (rest := [.ref (na 1)]) (st1 := [.int (iZ (c1 * 9 + n + 4)), .ref (na 1)]) S (k_X1_place l c1 n) tb_442 tb_443 tb_2 tb_444 hd_X1_place ⟨rfl, rfl, by decide, by decide⟩ bl_T (fun _ _ _ => trivial) rfl hl.1 rfl (Nat.le_of_ble_eq_true rfl) dX1_integrate_66 ⟨Nat.zero_le _, Nat.zero_le _⟩ rfl ?_
            refine lv_aload_n hx hb dX1_integrate_69 rfl (lv_at hl 0 rfl) ?_
            refine va_get (D := D) (ci := 1) (C := RX1) (T := TX1) (N := 8) hx hb hT inX1 hown hK hP 0 rfl rfl 7 (by decide) (hT _ tb_409) (fun _ h9 => h9) rfl dX1_integrate_70 ?_
            refine lv_iload_n hx hb dX1_integrate_73 rfl (lv_at hl 3 rfl) ?_
            refine zi_const hx hb 3 dX1_integrate_74 ?_
            refine zi_add hx hb dX1_integrate_75 ?_
            refine va_lald hx hb hK hP 6 1 rfl rfl (iZ_in (by omega) (by omega) (by decide)) dX1_integrate_76 ?_
            refine zl_as (a := U 5 ((n + 3).toNat)) (by rw [iZ_cl (by omega) (by omega)]) ?_
            refine mm_l hx hb hK hP hd hA hS 1 72 rfl (fun g => rfl) (by omega) dX1_integrate_77 (fun H locs hP hS => ?_)
            obtain ⟨V6, eV6⟩ : ∃ Z : Nat → Nat → Int, Z = sV U 1 (uZ (U 1) (c1 * 9 + n + 4).toNat (U 5 (n + 3).toNat)) := ⟨_, rfl⟩
            rw [← eV6] at hP
            refine zi_inc (lv' := [(3, .int (iZ (n + 1))), (0, .ref mo), (1, .int (iZ f)), (2, .int (iZ c1))]) hx hb dX1_integrate_78 hl (k := 3) rfl (by decide) rfl (fun ls hl => ?_)
            refine lv_goto (tgt := 55) hx hb dX1_integrate_81 (by decide) ?_
            exact ih55 (m55 - 1) (V6, n + 1) (by omega) (by (try dsimp only); exact ⟨by omega, by omega, trivial, by rw [eV6, sV_b (by decide)]; exact hI55.2.2.2.1, by rw [eV6, sV_b (by decide)]; exact hI55.2.2.2.2.1, by rw [eV6, sV_b (by decide)]; exact hI55.2.2.2.2.2⟩) _ _ hP hS ls (lv_sub hl [1, 2, 3, 0] rfl)
        · refine zi_const hx hb (-1) dX1_integrate_50 ?_
          exact wm_iret hx hb hr hlk hP ((show V4 0 = V 0 from (hRV4.2.2 0 (by decide)).trans hI34.2.2.2.2.2)) rfl rfl hS (congrArg (fun z => some (Value.int (iZ z))) (show ((-1) : Int) = (-1) from rfl)) dX1_integrate_51
    · refine lv_aload_n hx hb dX1_integrate_19 rfl (lv_at hl 0 rfl) ?_
      refine va_get (D := D) (ci := 1) (C := RX1) (T := TX1) (N := 8) hx hb hT inX1 hown hK hP 0 rfl rfl 3 (by decide) (hT _ tb_405) (fun _ h9 => h9) rfl dX1_integrate_20 ?_
      refine lv_iload_n hx hb dX1_integrate_23 rfl (lv_at hl 2 rfl) ?_
      refine zl_const hx hb 0 dX1_integrate_24 (by decide) ?_
      refine mm_l hx hb hK hP hd hA hS 1 72 rfl (fun g => rfl) (by omega) dX1_integrate_25 (fun H locs hP hS => ?_)
      obtain ⟨V7, eV7⟩ : ∃ Z : Nat → Nat → Int, Z = sV Y 1 (uZ (Y 1) (i).toNat 0) := ⟨_, rfl⟩
      rw [← eV7] at hP
      refine zi_inc (lv' := [(2, .int (iZ (i + 1))), (0, .ref mo), (1, .int (iZ f))]) hx hb dX1_integrate_26 hl (k := 2) rfl (by decide) rfl (fun ls hl => ?_)
      refine lv_goto (tgt := 13) hx hb dX1_integrate_29 (by decide) ?_
      exact ih13 (m13 - 1) (V7, i + 1) (by omega) (by (try dsimp only); exact ⟨by omega, by omega, by rw [eV7, sV_a]; exact st_lt (P := fun _ => 0) hI13.2.2.1 hI13.1 rfl, fun b hb9 => by rw [eV7, sV_b hb9]; exact hI13.2.2.2 b hb9⟩) _ _ hP hS ls (lv_sub hl [1, 2, 0] rfl)
  · exfalso
    omega
set_option maxHeartbeats 4000000 in
set_option maxRecDepth 100000 in
theorem kF_X1_integrate (l : Launch) (D : va_G) (mo : Nat) (na : Nat → Nat) (cI cJ : ClassId) (c0 k : Int) (V : Nat → Nat → Int) (f : Int) (hd : dM mo na) (hN : ∀ j, 0 ≤ V 0 j ∧ V 0 j < 32003) (hk : 0 ≤ k ∧ k < 60) (hf : 0 ≤ f ∧ f < k) (hh : hrZ (V 0) f = 0) (hi : itZ (V 0) f = 1) : wm_M l yX1_integrate cX1_integrate 6 (some .int) ({ frames := 3, cells := 0, slots := 0, locals := 74 }) [.int (iZ f)] D mo na cI cJ c0 k V (some (.int (iZ 0))) 2 k (fun Z => Z 0 = V 0) := by
  refine wm_of (by decide) rfl (Nat.le_of_ble_eq_true rfl) ?_
  intro p e s m below meth c A hAe S hr hlk hP hK hA hAn hS ls hl
  obtain ⟨hx, hb, hml, hown, hT⟩ := id S
  have hl : lv_has ls 6 [(0, .ref mo), (1, .int (iZ f))] := hl
  refine lv_aload_n hx hb dX1_integrate_0 rfl (lv_at hl 0 rfl) ?_
  refine lv_iload_n hx hb dX1_integrate_1 rfl (lv_at hl 1 rfl) ?_
  refine lv_iload_n hx hb dX1_integrate_2 rfl (lv_at hl 1 rfl) ?_
  refine wm_V (As := [.int (iZ f), .int (iZ f)]) (rest := []) (st1 := [.int (iZ 1)]) (c1 := 0) (k1 := k) S (k_X1_may l D mo na cI cJ c0 k V f f hd hN (by omega) (by omega) (by omega)) tb_462 tb_464 ts_X1_may tb_2 tb_465 hd_X1_may ⟨rfl, rfl, by decide, by decide⟩ hP hK hS hA hAn rfl hl.1 rfl (Nat.le_of_ble_eq_true rfl) dX1_integrate_3 ⟨Nat.zero_le _, Nat.zero_le _⟩ rfl (fun V1 H locs hRV1 hP hS _ _ => ?_)
  refine zi_fne (tgt := 11) hx hb dX1_integrate_6 (by decide) (by omega) (fun hc6 => ?_) (fun hc6 => ?_)
  · refine zi_const hx hb 0 dX1_integrate_11 ?_
    refine lv_istore_n (lv' := [(2, .int (iZ 0)), (0, .ref mo), (1, .int (iZ f))]) hx hb dX1_integrate_12 rfl hl (by decide) rfl (fun ls hl => ?_)
    refine lp_goM (nL := 6) (α := (Nat → Nat → Int) × Int) (fun z => [(0, .ref mo), (1, .int (iZ f)), (2, .int (iZ z.2))]) (fun _ => 0) (fun _ => k) (fun z => z.1) (fun m13 z => 0 ≤ z.2 ∧ z.2 + (m13 : Int) = 72 ∧ (∀ j : Nat, (j : Int) < z.2 → z.1 1 j = 0) ∧ ∀ b, b ≠ 1 → z.1 b = V1 b) ?_ 72 (V1, (0 : Int)) (by (try dsimp only); exact ⟨by omega, by omega, fun j hj => by omega, fun b _ => rfl⟩) _ _ hP hS ls (lv_sub hl [1, 2, 0] rfl)
    intro m13 z2 hI13 ih13 H locs hP hS ls hl
    obtain ⟨Y, i⟩ := z2
    have hl : lv_has ls 6 [(0, .ref mo), (1, .int (iZ f)), (2, .int (iZ i))] := hl
    have hI13 : 0 ≤ i ∧ i + (m13 : Int) = 72 ∧ (∀ j : Nat, (j : Int) < i → Y 1 j = 0) ∧ ∀ b, b ≠ 1 → Y b = V1 b := hI13
    have hP : va_P D vwCl (mX mo na cI cJ 0 k Y) H := hP
    refine lv_iload_n hx hb dX1_integrate_13 rfl (lv_at hl 2 rfl) ?_
    refine zi_bi hx hb 72 dX1_integrate_14 (by decide) ?_
    refine zi_cge (tgt := 32) hx hb dX1_integrate_16 (by decide) (by omega) (by omega) (fun hc16 => ?_) (fun hc16 => ?_)
    · refine zi_const hx hb 4 dX1_integrate_32 ?_
      refine lv_istore_n (lv' := [(2, .int (iZ 4)), (0, .ref mo), (1, .int (iZ f))]) hx hb dX1_integrate_33 rfl hl (by decide) rfl (fun ls hl => ?_)
      refine lp_goM (nL := 6) (α := (Nat → Nat → Int) × Int) (fun z => [(0, .ref mo), (1, .int (iZ f)), (2, .int (iZ z.2))]) (fun _ => 0) (fun _ => k) (fun z => z.1) (fun m34 z => 4 ≤ z.2 ∧ z.2 + (m34 : Int) = 8 ∧ True ∧ (∀ c : Int, 4 ≤ c → c < z.2 → rsZ (V 0) f c = 0) ∧ z.1 2 = V1 2 ∧ z.1 0 = V 0) ?_ 4 (Y, (4 : Int)) (by (try dsimp only); exact ⟨by omega, by omega, trivial, fun c h1 h2 => by omega, hI13.2.2.2 2 (by decide), (hI13.2.2.2 0 (by decide)).trans hRV1.2.2⟩) _ _ hP hS ls (lv_sub hl [1, 2, 0] rfl)
      intro m34 z3 hI34 ih34 H locs hP hS ls hl
      obtain ⟨X, c1⟩ := z3
      have hl : lv_has ls 6 [(0, .ref mo), (1, .int (iZ f)), (2, .int (iZ c1))] := hl
      have hI34 : 4 ≤ c1 ∧ c1 + (m34 : Int) = 8 ∧ True ∧ (∀ c : Int, 4 ≤ c → c < c1 → rsZ (V 0) f c = 0) ∧ X 2 = V1 2 ∧ X 0 = V 0 := hI34
      have hP : va_P D vwCl (mX mo na cI cJ 0 k X) H := hP
      have hpX : ∀ j : Nat, j < 72 → X 2 j = V 0 ((f * 72).toNat + j) := fun j hj => by rw [hI34.2.2.2.2.1]; exact hRV1.1 j hj
      refine lv_iload_n hx hb dX1_integrate_34 rfl (lv_at hl 2 rfl) ?_
      refine zi_bi hx hb 8 dX1_integrate_35 (by decide) ?_
      refine zi_cge (tgt := 90) hx hb dX1_integrate_37 (by decide) (by omega) (by omega) (fun hc37 => ?_) (fun hc37 => ?_)
      · refine zi_const hx hb 0 dX1_integrate_90 ?_
        refine lv_istore_n (lv' := [(2, .int (iZ 0)), (0, .ref mo), (1, .int (iZ f))]) hx hb dX1_integrate_91 rfl hl (by decide) rfl (fun ls hl => ?_)
        refine lp_go (nL := 6) (α := Int) (fun z => [(0, .ref mo), (1, .int (iZ f)), (2, .int (iZ z))]) (fun m92 z => 0 ≤ z ∧ z + (m92 : Int) = 4 ∧ ∀ c : Int, 0 ≤ c → c < z → nuZ (V 0) f c 4 = 0) ?_ 4 ((0 : Int)) (by (try dsimp only); exact ⟨by omega, by omega, fun c h1 h2 => by omega⟩) ls (lv_sub hl [1, 2, 0] rfl)
        intro m92 z4 hI92 ih92 ls hl
        obtain ⟨c2, rfl⟩ : ∃ y : Int, y = z4 := ⟨_, rfl⟩
        have hl : lv_has ls 6 [(0, .ref mo), (1, .int (iZ f)), (2, .int (iZ c2))] := hl
        have hI92 : 0 ≤ c2 ∧ c2 + (m92 : Int) = 4 ∧ ∀ c : Int, 0 ≤ c → c < c2 → nuZ (V 0) f c 4 = 0 := hI92
        refine lv_iload_n hx hb dX1_integrate_92 rfl (lv_at hl 2 rfl) ?_
        refine zi_const hx hb 4 dX1_integrate_93 ?_
        refine zi_cge (tgt := 124) hx hb dX1_integrate_94 (by decide) (by omega) (by omega) (fun hc94 => ?_) (fun hc94 => ?_)
        · have hpx : X 2 (3 * 9 + (-1) + 4 : Int).toNat = nuZ (V 0) f 3 (-1) := pn_at (by omega) hpX (by omega) (by omega)
          have hq1 := nuZ_rng hN f 3 (-1)
          rw [← hpx] at hq1
          refine lv_aload_n hx hb dX1_integrate_124 rfl (lv_at hl 0 rfl) ?_
          refine va_get (D := D) (ci := 1) (C := RX1) (T := TX1) (N := 8) hx hb hT inX1 hown hK hP 0 rfl rfl 4 (by decide) (hT _ tb_406) (fun _ h9 => h9) rfl dX1_integrate_125 ?_
          refine zi_const hx hb 3 dX1_integrate_128 ?_
          refine zi_const hx hb (-1) dX1_integrate_129 ?_
          refine rd_S (As := [.int (iZ 3), .int (iZ (-1))]) (rest := [.ref (na 2)]) (st1 := [.int (iZ (3 * 9 + (-1) + 4)), .ref (na 2)]) S (k_X1_place l 3 (-1)) tb_442 tb_443 tb_2 tb_444 hd_X1_place ⟨rfl, rfl, by decide, by decide⟩ bl_T (fun _ _ _ => trivial) rfl hl.1 rfl (Nat.le_of_ble_eq_true rfl) dX1_integrate_130 ⟨Nat.zero_le _, Nat.zero_le _⟩ rfl ?_
          refine va_lald hx hb hK hP 3 1 rfl rfl (iZ_in (by omega) (by omega) (by decide)) dX1_integrate_133 ?_
          refine zl_as (a := X 2 ((3 * 9 + (-1) + 4).toNat)) (by rw [iZ_cl (by omega) (by omega)]) ?_
          refine zl_const hx hb 0 dX1_integrate_134 (by decide) ?_
          refine zl_ceq (tgt := 145) hx hb dX1_integrate_135 dX1_integrate_136 (by decide) (by omega) (by omega) (fun hc135 => ?_) (fun hc135 => ?_)
          · exfalso
            exact it_one hi (fun c h1 h2 => hI92.2.2 c h1 (by omega)) (hpx.symm.trans hc135)
          · refine lv_aload_n hx hb dX1_integrate_139 rfl (lv_at hl 0 rfl) ?_
            refine zi_const hx hb 2 dX1_integrate_140 ?_
            refine wm_V (As := [.int (iZ 2)]) (rest := []) (st1 := [.int (iZ 0)]) (c1 := 2) (k1 := k) S (k_X1_raise l D mo na cI cJ 0 k X 2 hd ) tb_483 tb_485 ts_X1_raise tb_2 tb_486 hd_X1_raise ⟨rfl, rfl, by decide, by decide⟩ hP hK hS hA hAn rfl hl.1 rfl (Nat.le_of_ble_eq_true rfl) dX1_integrate_141 ⟨Nat.zero_le _, Nat.zero_le _⟩ rfl (fun V5 H locs hRV5 hP hS _ _ => ?_)
            exact wm_iret hx hb hr hlk hP ((show V5 0 = V 0 from (congrFun hRV5 0).trans hI34.2.2.2.2.2)) rfl rfl hS (congrArg (fun z => some (Value.int (iZ z))) (show (0 : Int) = 0 from rfl)) dX1_integrate_144
        · have hpx : X 2 (c2 * 9 + 4 + 4).toNat = nuZ (V 0) f c2 4 := pn_at (by omega) hpX (by omega) (by omega)
          have hq1 := nuZ_rng hN f c2 4
          rw [← hpx] at hq1
          refine lv_aload_n hx hb dX1_integrate_97 rfl (lv_at hl 0 rfl) ?_
          refine va_get (D := D) (ci := 1) (C := RX1) (T := TX1) (N := 8) hx hb hT inX1 hown hK hP 0 rfl rfl 4 (by decide) (hT _ tb_406) (fun _ h9 => h9) rfl dX1_integrate_98 ?_
          refine lv_iload_n hx hb dX1_integrate_101 rfl (lv_at hl 2 rfl) ?_
          refine zi_const hx hb 4 dX1_integrate_102 ?_
          refine rd_S (As := [.int (iZ c2), .int (iZ 4)]) (rest := [.ref (na 2)]) (st1 := [.int (iZ (c2 * 9 + 4 + 4)), .ref (na 2)]) S (k_X1_place l c2 4) tb_442 tb_443 tb_2 tb_444 hd_X1_place ⟨rfl, rfl, by decide, by decide⟩ bl_T (fun _ _ _ => trivial) rfl hl.1 rfl (Nat.le_of_ble_eq_true rfl) dX1_integrate_103 ⟨Nat.zero_le _, Nat.zero_le _⟩ rfl ?_
          refine va_lald hx hb hK hP 3 1 rfl rfl (iZ_in (by omega) (by omega) (by decide)) dX1_integrate_106 ?_
          refine zl_as (a := X 2 ((c2 * 9 + 4 + 4).toNat)) (by rw [iZ_cl (by omega) (by omega)]) ?_
          refine zl_const hx hb 0 dX1_integrate_107 (by decide) ?_
          refine zl_ceq (tgt := 118) hx hb dX1_integrate_108 dX1_integrate_109 (by decide) (by omega) (by omega) (fun hc108 => ?_) (fun hc108 => ?_)
          · refine zi_inc (lv' := [(2, .int (iZ (c2 + 1))), (0, .ref mo), (1, .int (iZ f))]) hx hb dX1_integrate_118 hl (k := 2) rfl (by decide) rfl (fun ls hl => ?_)
            refine lv_goto (tgt := 92) hx hb dX1_integrate_121 (by decide) ?_
            exact ih92 (m92 - 1) (c2 + 1) (by omega) (by (try dsimp only); exact ⟨by omega, by omega, fun c h1 h2 => (by rcases (show c < c2 ∨ c = c2 by omega) with h9 | h9; exact hI92.2.2 c h1 h9; rw [h9, ← hpx]; exact hc108)⟩) ls (lv_sub hl [1, 2, 0] rfl)
          · refine lv_aload_n hx hb dX1_integrate_112 rfl (lv_at hl 0 rfl) ?_
            refine zi_const hx hb 2 dX1_integrate_113 ?_
            refine wm_V (As := [.int (iZ 2)]) (rest := []) (st1 := [.int (iZ 0)]) (c1 := 2) (k1 := k) S (k_X1_raise l D mo na cI cJ 0 k X 2 hd ) tb_483 tb_485 ts_X1_raise tb_2 tb_486 hd_X1_raise ⟨rfl, rfl, by decide, by decide⟩ hP hK hS hA hAn rfl hl.1 rfl (Nat.le_of_ble_eq_true rfl) dX1_integrate_114 ⟨Nat.zero_le _, Nat.zero_le _⟩ rfl (fun V6 H locs hRV6 hP hS _ _ => ?_)
            exact wm_iret hx hb hr hlk hP ((show V6 0 = V 0 from (congrFun hRV6 0).trans hI34.2.2.2.2.2)) rfl rfl hS (congrArg (fun z => some (Value.int (iZ z))) (show (0 : Int) = 0 from rfl)) dX1_integrate_117
      · refine lv_aload_n hx hb dX1_integrate_40 rfl (lv_at hl 0 rfl) ?_
        refine lv_iload_n hx hb dX1_integrate_41 rfl (lv_at hl 2 rfl) ?_
        refine wm_V (As := [.int (iZ c1)]) (rest := []) (st1 := [.long (lZ (rsZ (V 0) f c1))]) (c1 := 0) (k1 := k) S (k_X1_restOf l D mo na cI cJ 0 k X (V 0) f c1 hd hN (by omega) hpX (by omega)) tb_509 tb_511 ts_X1_restOf tb_2 tb_512 hd_X1_restOf ⟨rfl, rfl, by decide, by decide⟩ hP hK hS hA hAn rfl hl.1 rfl (Nat.le_of_ble_eq_true rfl) dX1_integrate_42 ⟨Nat.zero_le _, Nat.zero_le _⟩ rfl (fun V7 H locs hRV7 hP hS _ _ => ?_)
        have hrr : 0 ≤ rsZ (V 0) f c1 ∧ rsZ (V 0) f c1 < 32003 := by unfold rsZ; split <;> omega
        refine zl_const hx hb 0 dX1_integrate_45 (by decide) ?_
        refine zl_ceq (tgt := 52) hx hb dX1_integrate_46 dX1_integrate_47 (by decide) (by omega) (by omega) (fun hc46 => ?_) (fun hc46 => ?_)
        · refine zi_bi hx hb (-3) dX1_integrate_52 (by decide) ?_
          refine lv_istore_n (lv' := [(3, .int (iZ (-3))), (0, .ref mo), (1, .int (iZ f)), (2, .int (iZ c1))]) hx hb dX1_integrate_54 rfl hl (by decide) rfl (fun ls hl => ?_)
          refine lp_goM (nL := 6) (α := (Nat → Nat → Int) × Int) (fun z => [(0, .ref mo), (1, .int (iZ f)), (2, .int (iZ c1)), (3, .int (iZ z.2))]) (fun _ => 0) (fun _ => k) (fun z => z.1) (fun m55 z => -3 ≤ z.2 ∧ z.2 + (m55 : Int) = 5 ∧ True ∧ z.1 5 = V7 5 ∧ z.1 2 = V1 2 ∧ z.1 0 = V 0) ?_ 8 (V7, ((-3) : Int)) (by (try dsimp only); exact ⟨by omega, by omega, trivial, rfl, (hRV7.2.2 2 (by decide)).trans hI34.2.2.2.2.1, (hRV7.2.2 0 (by decide)).trans hI34.2.2.2.2.2⟩) _ _ hP hS ls (lv_sub hl [1, 2, 3, 0] rfl)
          intro m55 z8 hI55 ih55 H locs hP hS ls hl
          obtain ⟨U, n⟩ := z8
          have hl : lv_has ls 6 [(0, .ref mo), (1, .int (iZ f)), (2, .int (iZ c1)), (3, .int (iZ n))] := hl
          have hI55 : -3 ≤ n ∧ n + (m55 : Int) = 5 ∧ True ∧ U 5 = V7 5 ∧ U 2 = V1 2 ∧ U 0 = V 0 := hI55
          have hP : va_P D vwCl (mX mo na cI cJ 0 k U) H := hP
          refine lv_iload_n hx hb dX1_integrate_55 rfl (lv_at hl 3 rfl) ?_
          refine zi_const hx hb 4 dX1_integrate_56 ?_
          refine zi_cgt (tgt := 84) hx hb dX1_integrate_57 (by decide) (by omega) (by omega) (fun hc57 => ?_) (fun hc57 => ?_)
          · refine zi_inc (lv' := [(2, .int (iZ (c1 + 1))), (0, .ref mo), (1, .int (iZ f)), (3, .int (iZ n))]) hx hb dX1_integrate_84 hl (k := 2) rfl (by decide) rfl (fun ls hl => ?_)
            refine lv_goto (tgt := 34) hx hb dX1_integrate_87 (by decide) ?_
            exact ih34 (m34 - 1) (U, c1 + 1) (by omega) (by (try dsimp only); exact ⟨by omega, by omega, trivial, fun c h1 h2 => (by rcases (show c < c1 ∨ c = c1 by omega) with h9 | h9; exact hI34.2.2.2.1 c h1 h9; rw [h9]; exact hc46), hI55.2.2.2.2.1, hI55.2.2.2.2.2⟩) _ _ hP hS ls (lv_sub hl [1, 2, 0] rfl)
          · refine lv_aload_n hx hb dX1_integrate_60 rfl (lv_at hl 0 rfl) ?_
            refine va_get (D := D) (ci := 1) (C := RX1) (T := TX1) (N := 8) hx hb hT inX1 hown hK hP 0 rfl rfl 3 (by decide) (hT _ tb_405) (fun _ h9 => h9) rfl dX1_integrate_61 ?_
            refine lv_iload_n hx hb dX1_integrate_64 rfl (lv_at hl 2 rfl) ?_
            refine lv_iload_n hx hb dX1_integrate_65 rfl (lv_at hl 3 rfl) ?_
            refine rd_S (As := [.int (iZ c1), .int (iZ n)]) (rest := [.ref (na 1)]) (st1 := [.int (iZ (c1 * 9 + n + 4)), .ref (na 1)]) S (k_X1_place l c1 n) tb_442 tb_443 tb_2 tb_444 hd_X1_place ⟨rfl, rfl, by decide, by decide⟩ bl_T (fun _ _ _ => trivial) rfl hl.1 rfl (Nat.le_of_ble_eq_true rfl) dX1_integrate_66 ⟨Nat.zero_le _, Nat.zero_le _⟩ rfl ?_
            refine lv_aload_n hx hb dX1_integrate_69 rfl (lv_at hl 0 rfl) ?_
            refine va_get (D := D) (ci := 1) (C := RX1) (T := TX1) (N := 8) hx hb hT inX1 hown hK hP 0 rfl rfl 7 (by decide) (hT _ tb_409) (fun _ h9 => h9) rfl dX1_integrate_70 ?_
            refine lv_iload_n hx hb dX1_integrate_73 rfl (lv_at hl 3 rfl) ?_
            refine zi_const hx hb 3 dX1_integrate_74 ?_
            refine zi_add hx hb dX1_integrate_75 ?_
            refine va_lald hx hb hK hP 6 1 rfl rfl (iZ_in (by omega) (by omega) (by decide)) dX1_integrate_76 ?_
            refine zl_as (a := U 5 ((n + 3).toNat)) (by rw [iZ_cl (by omega) (by omega)]) ?_
            refine mm_l hx hb hK hP hd hA hS 1 72 rfl (fun g => rfl) (by omega) dX1_integrate_77 (fun H locs hP hS => ?_)
            obtain ⟨V9, eV9⟩ : ∃ Z : Nat → Nat → Int, Z = sV U 1 (uZ (U 1) (c1 * 9 + n + 4).toNat (U 5 (n + 3).toNat)) := ⟨_, rfl⟩
            rw [← eV9] at hP
            refine zi_inc (lv' := [(3, .int (iZ (n + 1))), (0, .ref mo), (1, .int (iZ f)), (2, .int (iZ c1))]) hx hb dX1_integrate_78 hl (k := 3) rfl (by decide) rfl (fun ls hl => ?_)
            refine lv_goto (tgt := 55) hx hb dX1_integrate_81 (by decide) ?_
            exact ih55 (m55 - 1) (V9, n + 1) (by omega) (by (try dsimp only); exact ⟨by omega, by omega, trivial, by rw [eV9, sV_b (by decide)]; exact hI55.2.2.2.1, by rw [eV9, sV_b (by decide)]; exact hI55.2.2.2.2.1, by rw [eV9, sV_b (by decide)]; exact hI55.2.2.2.2.2⟩) _ _ hP hS ls (lv_sub hl [1, 2, 3, 0] rfl)
        · exact absurd (hr_zero hh (by omega)) hc46
    · refine lv_aload_n hx hb dX1_integrate_19 rfl (lv_at hl 0 rfl) ?_
      refine va_get (D := D) (ci := 1) (C := RX1) (T := TX1) (N := 8) hx hb hT inX1 hown hK hP 0 rfl rfl 3 (by decide) (hT _ tb_405) (fun _ h9 => h9) rfl dX1_integrate_20 ?_
      refine lv_iload_n hx hb dX1_integrate_23 rfl (lv_at hl 2 rfl) ?_
      refine zl_const hx hb 0 dX1_integrate_24 (by decide) ?_
      refine mm_l hx hb hK hP hd hA hS 1 72 rfl (fun g => rfl) (by omega) dX1_integrate_25 (fun H locs hP hS => ?_)
      obtain ⟨V10, eV10⟩ : ∃ Z : Nat → Nat → Int, Z = sV Y 1 (uZ (Y 1) (i).toNat 0) := ⟨_, rfl⟩
      rw [← eV10] at hP
      refine zi_inc (lv' := [(2, .int (iZ (i + 1))), (0, .ref mo), (1, .int (iZ f))]) hx hb dX1_integrate_26 hl (k := 2) rfl (by decide) rfl (fun ls hl => ?_)
      refine lv_goto (tgt := 13) hx hb dX1_integrate_29 (by decide) ?_
      exact ih13 (m13 - 1) (V10, i + 1) (by omega) (by (try dsimp only); exact ⟨by omega, by omega, by rw [eV10, sV_a]; exact st_lt (P := fun _ => 0) hI13.2.2.1 hI13.1 rfl, fun b hb9 => by rw [eV10, sV_b hb9]; exact hI13.2.2.2 b hb9⟩) _ _ hP hS ls (lv_sub hl [1, 2, 0] rfl)
  · exfalso
    omega
