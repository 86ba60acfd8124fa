set_option maxHeartbeats 4000000 in
set_option maxRecDepth 100000 in
theorem k_X0_exponentialPower (l : Launch) (tE tL : Nat) (a : Int) (ha : -2147483648 ≤ a ∧ a ≤ 2147483647) : rd_M l yX0_exponentialPower cX0_exponentialPower 1 (some .int) ({ frames := 1, cells := 0, slots := 0, locals := 20 }) [.int (iZ a)] (sB tE tL) (some (.int (iZ (ePz a)))) := by
  refine rd_of RX0 (by decide) rfl (Nat.le_of_ble_eq_true rfl) ?_
  intro p e s m below meth c S hr hlk hB ls hl
  obtain ⟨hx, hb, hml, hown, hT⟩ := id S
  have hl : lv_has ls 1 [(0, .int (iZ a))] := hl
  obtain ⟨⟨hZE, hTE⟩, hZL, hTL⟩ := id hB
  refine lv_iload_n hx hb dX0_exponentialPower_0 rfl (lv_at hl 0 rfl) ?_
  refine rd_S (As := [.int (iZ a)]) (rest := []) (st1 := [.int (iZ (kdZ a))]) S (k_X0_isKind l a (by omega)) tb_45 tb_46 tb_1 tb_47 hd_X0_isKind ⟨rfl, rfl, by decide, by decide⟩ bl_T (fun _ _ _ => trivial) rfl hl.1 rfl (Nat.le_of_ble_eq_true rfl) dX0_exponentialPower_1 ⟨Nat.zero_le _, Nat.zero_le _⟩ rfl ?_
  have hf4 := kdZ_or a
  refine zi_feq (tgt := 15) hx hb dX0_exponentialPower_4 (by decide) (by omega) (fun hc4 => ?_) (fun hc4 => ?_)
  · refine zi_const hx hb 0 dX0_exponentialPower_15 ?_
    exact rd_iret hx hb hr hlk (congrArg (fun z => some (Value.int (iZ z))) (show (ePz a : Int) = 0 from by unfold ePz; repeat rw [if_neg (by omega)])) dX0_exponentialPower_16
  · refine va_gets hx hb hZE va_S.rf hown (hT _ tb_242) (fun _ h9 => h9) dX0_exponentialPower_7 ?_
    refine lv_iload_n hx hb dX0_exponentialPower_10 rfl (lv_at hl 0 rfl) ?_
    refine va_ti hx hb hTE va_S.rf (iZ_in (by omega) (by omega) (by decide)) (eP_at (z := a) (by omega)) dX0_exponentialPower_11 ?_
    refine lv_goto (tgt := 16) hx hb dX0_exponentialPower_12 (by decide) ?_
    exact rd_iret hx hb hr hlk (congrArg (fun z => some (Value.int (iZ z))) (show (ePz a : Int) = ePz a from rfl)) dX0_exponentialPower_16
set_option maxHeartbeats 4000000 in
set_option maxRecDepth 100000 in
theorem k_X0_logPower (l : Launch) (tE tL : Nat) (a : Int) (ha : -2147483648 ≤ a ∧ a ≤ 2147483647) : rd_M l yX0_logPower cX0_logPower 1 (some .int) ({ frames := 1, cells := 0, slots := 0, locals := 20 }) [.int (iZ a)] (sB tE tL) (some (.int (iZ (lPz a)))) := by
  refine rd_of RX0 (by decide) rfl (Nat.le_of_ble_eq_true rfl) ?_
  intro p e s m below meth c S hr hlk hB ls hl
  obtain ⟨hx, hb, hml, hown, hT⟩ := id S
  have hl : lv_has ls 1 [(0, .int (iZ a))] := hl
  obtain ⟨⟨hZE, hTE⟩, hZL, hTL⟩ := id hB
  refine lv_iload_n hx hb dX0_logPower_0 rfl (lv_at hl 0 rfl) ?_
  refine rd_S (As := [.int (iZ a)]) (rest := []) (st1 := [.int (iZ (kdZ a))]) S (k_X0_isKind l a (by omega)) tb_45 tb_46 tb_1 tb_47 hd_X0_isKind ⟨rfl, rfl, by decide, by decide⟩ bl_T (fun _ _ _ => trivial) rfl hl.1 rfl (Nat.le_of_ble_eq_true rfl) dX0_logPower_1 ⟨Nat.zero_le _, Nat.zero_le _⟩ rfl ?_
  have hf4 := kdZ_or a
  refine zi_feq (tgt := 15) hx hb dX0_logPower_4 (by decide) (by omega) (fun hc4 => ?_) (fun hc4 => ?_)
  · refine zi_const hx hb 0 dX0_logPower_15 ?_
    exact rd_iret hx hb hr hlk (congrArg (fun z => some (Value.int (iZ z))) (show (lPz a : Int) = 0 from by unfold lPz; repeat rw [if_neg (by omega)])) dX0_logPower_16
  · refine va_gets hx hb hZL va_S.rf hown (hT _ tb_247) (fun _ h9 => h9) dX0_logPower_7 ?_
    refine lv_iload_n hx hb dX0_logPower_10 rfl (lv_at hl 0 rfl) ?_
    refine va_ti hx hb hTL va_S.rf (iZ_in (by omega) (by omega) (by decide)) (lP_at (z := a) (by omega)) dX0_logPower_11 ?_
    refine lv_goto (tgt := 16) hx hb dX0_logPower_12 (by decide) ?_
    exact rd_iret hx hb hr hlk (congrArg (fun z => some (Value.int (iZ z))) (show (lPz a : Int) = lPz a from rfl)) dX0_logPower_16
theorem wkZ_rng (a b : Int) : 0 ≤ wkZ a b ∧ wkZ a b ≤ 14 := by
  have h1 := ePz_rng a
  have h2 := ePz_rng b
  have h3 := lPz_rng a
  have h4 := lPz_rng b
  unfold wkZ
  split <;> (try split) <;> omega
set_option maxHeartbeats 4000000 in
set_option maxRecDepth 100000 in
theorem k_X0_wideKind (l : Launch) (tE tL : Nat) (a b : Int) (ha : 0 ≤ a ∧ a < 8) (hb1 : 0 ≤ b ∧ b < 8) : rd_M l yX0_wideKind cX0_wideKind 3 (some .int) ({ frames := 2, cells := 0, slots := 0, locals := 40 }) [.int (iZ a), .int (iZ b)] (sB tE tL) (some (.int (iZ (wkZ a b)))) := by
  refine rd_of RX0 (by decide) rfl (Nat.le_of_ble_eq_true rfl) ?_
  intro p e s m below meth c S hr hlk hB ls hl
  obtain ⟨hx, hb, hml, hown, hT⟩ := id S
  have hl : lv_has ls 3 [(0, .int (iZ a)), (1, .int (iZ b))] := hl
  obtain ⟨⟨hZE, hTE⟩, hZL, hTL⟩ := id hB
  have h1 := ePz_rng a
  have h2 := ePz_rng b
  have h3 := lPz_rng a
  have h4 := lPz_rng b
  have h5 : True := trivial
  refine lv_iload_n hx hb dX0_wideKind_0 rfl (lv_at hl 0 rfl) ?_
  refine rd_S (As := [.int (iZ a)]) (rest := []) (st1 := [.int (iZ (ePz a))]) S (k_X0_exponentialPower l tE tL a (by omega)) tb_239 tb_240 tb_1 tb_241 hd_X0_exponentialPower ⟨rfl, rfl, by decide, by decide⟩ sB_bl (sB_mv hB) rfl hl.1 rfl (Nat.le_of_ble_eq_true rfl) dX0_wideKind_1 ⟨Nat.zero_le _, Nat.zero_le _⟩ rfl ?_
  refine lv_iload_n hx hb dX0_wideKind_4 rfl (lv_at hl 1 rfl) ?_
  refine rd_S (As := [.int (iZ b)]) (rest := [.int (iZ (ePz a))]) (st1 := [.int (iZ (ePz b)), .int (iZ (ePz a))]) S (k_X0_exponentialPower l tE tL b (by omega)) tb_239 tb_240 tb_1 tb_241 hd_X0_exponentialPower ⟨rfl, rfl, by decide, by decide⟩ sB_bl (sB_mv hB) rfl hl.1 rfl (Nat.le_of_ble_eq_true rfl) dX0_wideKind_5 ⟨Nat.zero_le _, Nat.zero_le _⟩ rfl ?_
  refine zi_add hx hb dX0_wideKind_8 ?_
  refine zi_top (fun v1 ev1 => ?_)
  refine lv_istore_n (lv' := [(2, .int (iZ v1)), (0, .int (iZ a)), (1, .int (iZ b))]) hx hb dX0_wideKind_9 rfl hl (by decide) rfl (fun ls hl => ?_)
  refine lv_iload_n hx hb dX0_wideKind_10 rfl (lv_at hl 0 rfl) ?_
  refine zi_fne (tgt := 24) hx hb dX0_wideKind_11 (by decide) (by omega) (fun hc11 => ?_) (fun hc11 => ?_)
  · refine zi_bi hx hb 7 dX0_wideKind_24 (by decide) ?_
    refine lv_iload_n hx hb dX0_wideKind_26 rfl (lv_at hl 0 rfl) ?_
    refine zi_add hx hb dX0_wideKind_27 ?_
    refine zi_bi hx hb (-4) dX0_wideKind_28 (by decide) ?_
    refine zi_sub hx hb dX0_wideKind_30 ?_
    refine lv_iload_n hx hb dX0_wideKind_31 rfl (lv_at hl 0 rfl) ?_
    refine zi_fle (tgt := 39) hx hb dX0_wideKind_32 (by decide) (by omega) (fun hc32 => ?_) (fun hc32 => ?_)
    · refine zi_const hx hb 0 dX0_wideKind_39 ?_
      refine zi_sub hx hb dX0_wideKind_40 ?_
      exact rd_iret hx hb hr hlk (congrArg (fun z => some (Value.int (iZ z))) (show (wkZ a b : Int) = ((7 + v1) - (-4)) - 0 from by unfold wkZ; (first | rw [if_pos (by omega)] | (rw [if_neg (by omega)]; (first | rw [if_pos (by omega)] | rw [if_neg (by omega)]); omega)))) dX0_wideKind_41
    · refine zi_const hx hb 1 dX0_wideKind_35 ?_
      refine lv_goto (tgt := 40) hx hb dX0_wideKind_36 (by decide) ?_
      refine zi_sub hx hb dX0_wideKind_40 ?_
      exact rd_iret hx hb hr hlk (congrArg (fun z => some (Value.int (iZ z))) (show (wkZ a b : Int) = ((7 + v1) - (-4)) - 1 from by unfold wkZ; (first | rw [if_pos (by omega)] | (rw [if_neg (by omega)]; (first | rw [if_pos (by omega)] | rw [if_neg (by omega)]); omega)))) dX0_wideKind_41
  · refine lv_iload_n hx hb dX0_wideKind_14 rfl (lv_at hl 1 rfl) ?_
    refine rd_S (As := [.int (iZ a)]) (rest := []) (st1 := [.int (iZ (lPz a))]) S (k_X0_logPower l tE tL a (by omega)) tb_244 tb_245 tb_1 tb_246 hd_X0_logPower ⟨rfl, rfl, by decide, by decide⟩ sB_bl (sB_mv hB) rfl hl.1 rfl (Nat.le_of_ble_eq_true rfl) dX0_wideKind_15 ⟨Nat.zero_le _, Nat.zero_le _⟩ rfl ?_
    refine lv_iload_n hx hb dX0_wideKind_18 rfl (lv_at hl 2 rfl) ?_
    refine rd_S (As := [.int (iZ b)]) (rest := [.int (iZ (lPz a))]) (st1 := [.int (iZ (lPz b)), .int (iZ (lPz a))]) S (k_X0_logPower l tE tL b (by omega)) tb_244 tb_245 tb_1 tb_246 hd_X0_logPower ⟨rfl, rfl, by decide, by decide⟩ sB_bl (sB_mv hB) rfl hl.1 rfl (Nat.le_of_ble_eq_true rfl) dX0_wideKind_19 ⟨Nat.zero_le _, Nat.zero_le _⟩ rfl ?_
    refine zi_add hx hb dX0_wideKind_22 ?_
    exact rd_iret hx hb hr hlk (congrArg (fun z => some (Value.int (iZ z))) (show (wkZ a b : Int) = (lPz a) + (lPz b) from by unfold wkZ; (first | rw [if_pos (by omega)] | (rw [if_neg (by omega)]; (first | rw [if_pos (by omega)] | rw [if_neg (by omega)]); omega)))) dX0_wideKind_23
def knZ (c : Int) : Int := if c < 4 ∨ (8 < c ∧ c < 13) then (if 0 ≤ c then 1 else 0) else 0
theorem wk_0 : ∀ k : Nat, k < 8 → wkZ k 0 = (if k < 4 then (k : Int) else k + 5) := by decide
theorem wk_0z {z : Int} (h : 0 ≤ z ∧ z < 8) : wkZ z 0 = (if z < 4 then z else z + 5) := by
  obtain ⟨k, rfl⟩ : ∃ k : Nat, z = k := ⟨z.toNat, by omega⟩
  rw [wk_0 k (by omega)]
  split <;> split <;> omega
theorem knZ_or (c : Int) : (knZ c = 1 ∧ 0 ≤ c ∧ (c < 4 ∨ (8 < c ∧ c < 13))) ∨ (knZ c = 0 ∧ ¬ (0 ≤ c ∧ (c < 4 ∨ (8 < c ∧ c < 13)))) := by
  unfold knZ
  split <;> (try split) <;> omega
theorem kn_yes {c k : Int} (hk : 0 ≤ k ∧ k < 8) (h : wkZ k 0 = c) : knZ c = 1 := by
  rw [wk_0z hk] at h
  have h1 := knZ_or c
  split at h <;> omega
theorem kn_no {c : Int} (h : ∀ i : Int, 0 ≤ i → i < 8 → wkZ i 0 ≠ c) : knZ c = 0 := by
  rcases knZ_or c with h1 | h1
  · exfalso
    by_cases hc : c < 4
    · have h2 := h c (by omega) (by omega)
      rw [wk_0z (by omega), if_pos hc] at h2
      exact h2 rfl
    · have h2 := h (c - 5) (by omega) (by omega)
      rw [wk_0z (by omega), if_neg (by omega)] at h2
      omega
  · exact h1.1
set_option maxHeartbeats 4000000 in
set_option maxRecDepth 100000 in
theorem k_X0_isKnownWideKind (l : Launch) (tE tL : Nat) (c1 : Int) (h0 : 0 ≤ c1 ∧ c1 < 15) : rd_M l yX0_isKnownWideKind cX0_isKnownWideKind 2 (some .boolean) ({ frames := 3, cells := 0, slots := 0, locals := 62 }) [.int (iZ c1)] (sB tE tL) (some (.int (iZ (knZ c1)))) := by
  refine rd_of RX0 (by decide) rfl (Nat.le_of_ble_eq_true rfl) ?_
  intro p e s m below meth c S hr hlk hB ls hl
  obtain ⟨hx, hb, hml, hown, hT⟩ := id S
  have hl : lv_has ls 2 [(0, .int (iZ c1))] := hl
  refine zi_const hx hb 0 dX0_isKnownWideKind_0 ?_
  refine lv_istore_n (lv' := [(1, .int (iZ 0)), (0, .int (iZ c1))]) hx hb dX0_isKnownWideKind_1 rfl hl (by decide) rfl (fun ls hl => ?_)
  refine lp_go (nL := 2) (α := Int) (fun z => [(0, .int (iZ c1)), (1, .int (iZ z))]) (fun m2 z => 0 ≤ z ∧ z ≤ 8 ∧ (z : Int) + m2 = 8 ∧ ∀ i : Int, 0 ≤ i → i < z → wkZ i 0 ≠ c1) ?_ 8 ((0 : Int)) (by (try dsimp only); refine ⟨by omega, by omega, by omega, ?_⟩; intro i h1 h2; omega) ls (lv_sub hl [1, 0] rfl)
  intro m2 z1 hI2 ih2 ls hl
  obtain ⟨k, rfl⟩ : ∃ y : Int, y = z1 := ⟨_, rfl⟩
  have hl : lv_has ls 2 [(0, .int (iZ c1)), (1, .int (iZ k))] := hl
  have hI2 : 0 ≤ k ∧ k ≤ 8 ∧ (k : Int) + m2 = 8 ∧ ∀ i : Int, 0 ≤ i → i < k → wkZ i 0 ≠ c1 := hI2
  have hwz := fun h => wk_0z (z := k) h
  refine lv_iload_n hx hb dX0_isKnownWideKind_2 rfl (lv_at hl 1 rfl) ?_
  refine zi_bi hx hb 8 dX0_isKnownWideKind_3 (by decide) ?_
  refine zi_cge (tgt := 25) hx hb dX0_isKnownWideKind_5 (by decide) (by omega) (by omega) (fun hc5 => ?_) (fun hc5 => ?_)
  · refine zi_const hx hb 0 dX0_isKnownWideKind_25 ?_
    exact rd_zret hx hb hr hlk (congrArg (fun z => some (Value.int (iZ z))) (show (knZ c1 : Int) = 0 from kn_no (fun i h1 h2 => hI2.2.2.2 i h1 (by omega)))) (by decide) dX0_isKnownWideKind_26
  · refine lv_iload_n hx hb dX0_isKnownWideKind_8 rfl (lv_at hl 1 rfl) ?_
    refine zi_const hx hb 0 dX0_isKnownWideKind_9 ?_
    refine rd_S (As := [.int (iZ k), .int (iZ 0)]) (rest := []) (st1 := [.int (iZ (wkZ k 0))]) S (k_X0_wideKind l tE tL k 0 (by omega) (by omega)) tb_236 tb_237 tb_1 tb_238 hd_X0_wideKind ⟨rfl, rfl, by decide, by decide⟩ sB_bl (sB_mv hB) rfl hl.1 rfl (Nat.le_of_ble_eq_true rfl) dX0_isKnownWideKind_10 ⟨Nat.zero_le _, Nat.zero_le _⟩ rfl ?_
    have hw13 := wkZ_rng k 0
    refine lv_iload_n hx hb dX0_isKnownWideKind_13 rfl (lv_at hl 0 rfl) ?_
    refine zi_cne (tgt := 19) hx hb dX0_isKnownWideKind_14 (by decide) (by omega) (by omega) (fun hc14 => ?_) (fun hc14 => ?_)
    · refine zi_inc (lv' := [(1, .int (iZ (k + 1))), (0, .int (iZ c1))]) hx hb dX0_isKnownWideKind_19 hl (k := 1) rfl (by decide) rfl (fun ls hl => ?_)
      refine lv_goto (tgt := 2) hx hb dX0_isKnownWideKind_22 (by decide) ?_
      exact ih2 (m2 - 1) (k + 1) (by omega) (by (try dsimp only); refine ⟨by omega, by omega, by omega, ?_⟩; intro i h1 h2; rcases Int.lt_or_eq_of_le (show i ≤ k by omega) with h3 | h3; exact hI2.2.2.2 i h1 h3; rw [h3]; omega) ls (lv_sub hl [1, 0] rfl)
    · refine zi_const hx hb 1 dX0_isKnownWideKind_17 ?_
      exact rd_zret hx hb hr hlk (congrArg (fun z => some (Value.int (iZ z))) (show (knZ c1 : Int) = 1 from kn_yes (k := k) (by omega) (by omega))) (by decide) dX0_isKnownWideKind_18
