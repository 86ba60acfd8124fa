/-! ===== numbers modulo 32003 ===== -/
def kdZ (k : Int) : Int := if 0 ≤ k ∧ k < 8 then 1 else 0
def pwZ (n : Int) : Int := if -4 ≤ n ∧ n ≤ 4 then 1 else 0
def wdZ (k n : Int) : Int := if 0 ≤ k ∧ k < 15 ∧ -8 ≤ n ∧ n ≤ 8 then 1 else 0
def pwP (b : Int) (x : Nat) : Int := b ^ x % 32003
theorem pwP_rng (b : Int) (x : Nat) : 0 ≤ pwP b x ∧ pwP b x < 32003 := by unfold pwP; omega
def dvZ (z d : Int) : Int := (z % 32003) * pwP (d % 32003) 32001 % 32003
def wkZ (a b : Int) : Int := if ePz a + ePz b = 0 then lPz a + lPz b else 11 + (ePz a + ePz b) - (if 0 < ePz a + ePz b then 1 else 0)
theorem mul_rng {a b : Int} (ha : 0 ≤ a ∧ a < 32003) (hb : 0 ≤ b ∧ b < 32003) : 0 ≤ a * b ∧ a * b ≤ 1024128004 := by
  refine ⟨Int.mul_nonneg ha.1 hb.1, ?_⟩
  have h1 : a * b ≤ 32002 * b := Int.mul_le_mul_of_nonneg_right (by omega) hb.1
  omega
theorem tmod_fix (z : Int) : (if Int.tmod z 32003 < 0 then Int.tmod z 32003 + 32003 else Int.tmod z 32003) = z % 32003 := by
  have h := Int.tmod_eq_emod (a := z) (b := 32003)
  split at h <;> split <;> omega
theorem tmod_bd (z : Int) : -32003 < Int.tmod z 32003 ∧ Int.tmod z 32003 < 32003 := by
  have h := Int.tmod_eq_emod (a := z) (b := 32003)
  split at h <;> omega
theorem pwP_mul (b : Int) (x y : Nat) : pwP b x * pwP b y % 32003 = pwP b (x + y) := by
  unfold pwP
  rw [Int.pow_add, ← Int.mul_emod]
theorem pwP_one {b : Int} (h : 0 ≤ b ∧ b < 32003) : pwP b 1 = b := by unfold pwP; rw [Int.pow_succ, Int.pow_zero, Int.one_mul]; omega
theorem pwP_zero (b : Int) : pwP b 0 = 1 := by unfold pwP; rw [Int.pow_zero]; rfl
theorem pwP_sq1 {b : Int} (h : 0 ≤ b ∧ b < 32003) (x : Nat) : pwP b x * b % 32003 = pwP b (x + 1) := by
  have := pwP_mul b x 1
  rw [pwP_one h] at this
  exact this
set_option maxHeartbeats 4000000 in
set_option maxRecDepth 100000 in
theorem k_X0_isKind (l : Launch) (k : Int) (hk : -2147483648 ≤ k ∧ k ≤ 2147483647) : rd_M l yX0_isKind cX0_isKind 1 (some .boolean) ({ frames := 0, cells := 0, slots := 0, locals := 0 }) [.int (iZ k)] (fun _ => True) (some (.int (iZ (kdZ k)))) := by
  refine rd_of RX0 (by decide) rfl (Nat.le_of_ble_eq_true rfl) ?_
  intro p e s m below meth c S hr hlk hB ls hl
  obtain ⟨hx, hb, hml, hown, hT⟩ := id S
  have hl : lv_has ls 1 [(0, .int (iZ k))] := hl
  refine lv_iload_n hx hb dX0_isKind_0 rfl (lv_at hl 0 rfl) ?_
  refine zi_flt (tgt := 14) hx hb dX0_isKind_1 (by decide) (by omega) (fun hc1 => ?_) (fun hc1 => ?_)
  · refine zi_const hx hb 0 dX0_isKind_14 ?_
    exact rd_zret hx hb hr hlk (congrArg (fun z => some (Value.int (iZ z))) (show (kdZ k : Int) = 0 from by unfold kdZ; (first | rw [if_pos (by omega)] | rw [if_neg (by omega)]))) (by decide) dX0_isKind_15
  · refine lv_iload_n hx hb dX0_isKind_4 rfl (lv_at hl 0 rfl) ?_
    refine zi_bi hx hb 8 dX0_isKind_5 (by decide) ?_
    refine zi_cge (tgt := 14) hx hb dX0_isKind_7 (by decide) (by omega) (by omega) (fun hc7 => ?_) (fun hc7 => ?_)
    · refine zi_const hx hb 0 dX0_isKind_14 ?_
      exact rd_zret hx hb hr hlk (congrArg (fun z => some (Value.int (iZ z))) (show (kdZ k : Int) = 0 from by unfold kdZ; (first | rw [if_pos (by omega)] | rw [if_neg (by omega)]))) (by decide) dX0_isKind_15
    · refine zi_const hx hb 1 dX0_isKind_10 ?_
      refine lv_goto (tgt := 15) hx hb dX0_isKind_11 (by decide) ?_
      exact rd_zret hx hb hr hlk (congrArg (fun z => some (Value.int (iZ z))) (show (kdZ k : Int) = 1 from by unfold kdZ; (first | rw [if_pos (by omega)] | rw [if_neg (by omega)]))) (by decide) dX0_isKind_15
set_option maxHeartbeats 4000000 in
set_option maxRecDepth 100000 in
theorem k_X0_isPower (l : Launch) (n : Int) (hn : -2147483648 ≤ n ∧ n ≤ 2147483647) : rd_M l yX0_isPower cX0_isPower 1 (some .boolean) ({ frames := 0, cells := 0, slots := 0, locals := 0 }) [.int (iZ n)] (fun _ => True) (some (.int (iZ (pwZ n)))) := by
  refine rd_of RX0 (by decide) rfl (Nat.le_of_ble_eq_true rfl) ?_
  intro p e s m below meth c S hr hlk hB ls hl
  obtain ⟨hx, hb, hml, hown, hT⟩ := id S
  have hl : lv_has ls 1 [(0, .int (iZ n))] := hl
  refine lv_iload_n hx hb dX0_isPower_0 rfl (lv_at hl 0 rfl) ?_
  refine zi_bi hx hb (-4) dX0_isPower_1 (by decide) ?_
  refine zi_clt (tgt := 15) hx hb dX0_isPower_3 (by decide) (by omega) (by omega) (fun hc3 => ?_) (fun hc3 => ?_)
  · refine zi_const hx hb 0 dX0_isPower_15 ?_
    exact rd_zret hx hb hr hlk (congrArg (fun z => some (Value.int (iZ z))) (show (pwZ n : Int) = 0 from by unfold pwZ; (first | rw [if_pos (by omega)] | rw [if_neg (by omega)]))) (by decide) dX0_isPower_16
  · refine lv_iload_n hx hb dX0_isPower_6 rfl (lv_at hl 0 rfl) ?_
    refine zi_const hx hb 4 dX0_isPower_7 ?_
    refine zi_cgt (tgt := 15) hx hb dX0_isPower_8 (by decide) (by omega) (by omega) (fun hc8 => ?_) (fun hc8 => ?_)
    · refine zi_const hx hb 0 dX0_isPower_15 ?_
      exact rd_zret hx hb hr hlk (congrArg (fun z => some (Value.int (iZ z))) (show (pwZ n : Int) = 0 from by unfold pwZ; (first | rw [if_pos (by omega)] | rw [if_neg (by omega)]))) (by decide) dX0_isPower_16
    · refine zi_const hx hb 1 dX0_isPower_11 ?_
      refine lv_goto (tgt := 16) hx hb dX0_isPower_12 (by decide) ?_
      exact rd_zret hx hb hr hlk (congrArg (fun z => some (Value.int (iZ z))) (show (pwZ n : Int) = 1 from by unfold pwZ; (first | rw [if_pos (by omega)] | rw [if_neg (by omega)]))) (by decide) dX0_isPower_16
set_option maxHeartbeats 4000000 in
set_option maxRecDepth 100000 in
theorem k_X0_isWidePlace (l : Launch) (k n : Int) (hk : -2147483648 ≤ k ∧ k ≤ 2147483647) (hn : -2147483648 ≤ n ∧ n ≤ 2147483647) : rd_M l yX0_isWidePlace cX0_isWidePlace 2 (some .boolean) ({ frames := 0, cells := 0, slots := 0, locals := 0 }) [.int (iZ k), .int (iZ n)] (fun _ => True) (some (.int (iZ (wdZ k n)))) := by
  refine rd_of RX0 (by decide) rfl (Nat.le_of_ble_eq_true rfl) ?_
  intro p e s m below meth c S hr hlk hB ls hl
  obtain ⟨hx, hb, hml, hown, hT⟩ := id S
  have hl : lv_has ls 2 [(0, .int (iZ k)), (1, .int (iZ n))] := hl
  refine lv_iload_n hx hb dX0_isWidePlace_0 rfl (lv_at hl 0 rfl) ?_
  refine zi_flt (tgt := 26) hx hb dX0_isWidePlace_1 (by decide) (by omega) (fun hc1 => ?_) (fun hc1 => ?_)
  · refine zi_const hx hb 0 dX0_isWidePlace_26 ?_
    exact rd_zret hx hb hr hlk (congrArg (fun z => some (Value.int (iZ z))) (show (wdZ k n : Int) = 0 from by unfold wdZ; (first | rw [if_pos (by omega)] | rw [if_neg (by omega)]))) (by decide) dX0_isWidePlace_27
  · refine lv_iload_n hx hb dX0_isWidePlace_4 rfl (lv_at hl 0 rfl) ?_
    refine zi_bi hx hb 15 dX0_isWidePlace_5 (by decide) ?_
    refine zi_cge (tgt := 26) hx hb dX0_isWidePlace_7 (by decide) (by omega) (by omega) (fun hc7 => ?_) (fun hc7 => ?_)
    · refine zi_const hx hb 0 dX0_isWidePlace_26 ?_
      exact rd_zret hx hb hr hlk (congrArg (fun z => some (Value.int (iZ z))) (show (wdZ k n : Int) = 0 from by unfold wdZ; (first | rw [if_pos (by omega)] | rw [if_neg (by omega)]))) (by decide) dX0_isWidePlace_27
    · refine lv_iload_n hx hb dX0_isWidePlace_10 rfl (lv_at hl 1 rfl) ?_
      refine zi_bi hx hb (-8) dX0_isWidePlace_11 (by decide) ?_
      refine zi_clt (tgt := 26) hx hb dX0_isWidePlace_13 (by decide) (by omega) (by omega) (fun hc13 => ?_) (fun hc13 => ?_)
      · refine zi_const hx hb 0 dX0_isWidePlace_26 ?_
        exact rd_zret hx hb hr hlk (congrArg (fun z => some (Value.int (iZ z))) (show (wdZ k n : Int) = 0 from by unfold wdZ; (first | rw [if_pos (by omega)] | rw [if_neg (by omega)]))) (by decide) dX0_isWidePlace_27
      · refine lv_iload_n hx hb dX0_isWidePlace_16 rfl (lv_at hl 1 rfl) ?_
        refine zi_bi hx hb 8 dX0_isWidePlace_17 (by decide) ?_
        refine zi_cgt (tgt := 26) hx hb dX0_isWidePlace_19 (by decide) (by omega) (by omega) (fun hc19 => ?_) (fun hc19 => ?_)
        · refine zi_const hx hb 0 dX0_isWidePlace_26 ?_
          exact rd_zret hx hb hr hlk (congrArg (fun z => some (Value.int (iZ z))) (show (wdZ k n : Int) = 0 from by unfold wdZ; (first | rw [if_pos (by omega)] | rw [if_neg (by omega)]))) (by decide) dX0_isWidePlace_27
        · refine zi_const hx hb 1 dX0_isWidePlace_22 ?_
          refine lv_goto (tgt := 27) hx hb dX0_isWidePlace_23 (by decide) ?_
          exact rd_zret hx hb hr hlk (congrArg (fun z => some (Value.int (iZ z))) (show (wdZ k n : Int) = 1 from by unfold wdZ; (first | rw [if_pos (by omega)] | rw [if_neg (by omega)]))) (by decide) dX0_isWidePlace_27
set_option maxHeartbeats 4000000 in
set_option maxRecDepth 100000 in
theorem k_X0_place (l : Launch) (r k n : Int) : rd_M l yX0_place cX0_place 3 (some .int) ({ frames := 0, cells := 0, slots := 0, locals := 0 }) [.int (iZ r), .int (iZ k), .int (iZ n)] (fun _ => True) (some (.int (iZ (r * 72 + k * 9 + n + 4)))) := by
  refine rd_of RX0 (by decide) rfl (Nat.le_of_ble_eq_true rfl) ?_
  intro p e s m below meth c S hr hlk hB ls hl
  obtain ⟨hx, hb, hml, hown, hT⟩ := id S
  have hl : lv_has ls 3 [(0, .int (iZ r)), (1, .int (iZ k)), (2, .int (iZ n))] := hl
  refine lv_iload_n hx hb dX0_place_0 rfl (lv_at hl 0 rfl) ?_
  refine zi_bi hx hb 72 dX0_place_1 (by decide) ?_
  refine zi_mul hx hb dX0_place_3 ?_
  refine lv_iload_n hx hb dX0_place_4 rfl (lv_at hl 1 rfl) ?_
  refine zi_bi hx hb 9 dX0_place_5 (by decide) ?_
  refine zi_mul hx hb dX0_place_7 ?_
  refine zi_add hx hb dX0_place_8 ?_
  refine lv_iload_n hx hb dX0_place_9 rfl (lv_at hl 2 rfl) ?_
  refine zi_add hx hb dX0_place_10 ?_
  refine zi_bi hx hb (-4) dX0_place_11 (by decide) ?_
  refine zi_sub hx hb dX0_place_13 ?_
  exact rd_iret hx hb hr hlk (congrArg (fun z => some (Value.int (iZ z))) (show (r * 72 + k * 9 + n + 4 : Int) = (((r * 72) + (k * 9)) + n) - (-4) from by omega)) dX0_place_14
set_option maxHeartbeats 4000000 in
set_option maxRecDepth 100000 in
theorem k_X0_widePlace (l : Launch) (k n : Int) : rd_M l yX0_widePlace cX0_widePlace 2 (some .int) ({ frames := 0, cells := 0, slots := 0, locals := 0 }) [.int (iZ k), .int (iZ n)] (fun _ => True) (some (.int (iZ (k * 17 + n + 8)))) := by
  refine rd_of RX0 (by decide) rfl (Nat.le_of_ble_eq_true rfl) ?_
  intro p e s m below meth c S hr hlk hB ls hl
  obtain ⟨hx, hb, hml, hown, hT⟩ := id S
  have hl : lv_has ls 2 [(0, .int (iZ k)), (1, .int (iZ n))] := hl
  refine lv_iload_n hx hb dX0_widePlace_0 rfl (lv_at hl 0 rfl) ?_
  refine zi_bi hx hb 17 dX0_widePlace_1 (by decide) ?_
  refine zi_mul hx hb dX0_widePlace_3 ?_
  refine lv_iload_n hx hb dX0_widePlace_4 rfl (lv_at hl 1 rfl) ?_
  refine zi_add hx hb dX0_widePlace_5 ?_
  refine zi_bi hx hb (-8) dX0_widePlace_6 (by decide) ?_
  refine zi_sub hx hb dX0_widePlace_8 ?_
  exact rd_iret hx hb hr hlk (congrArg (fun z => some (Value.int (iZ z))) (show (k * 17 + n + 8 : Int) = ((k * 17) + n) - (-8) from by omega)) dX0_widePlace_9
set_option maxHeartbeats 4000000 in
set_option maxRecDepth 100000 in
theorem k_X0_reduce (l : Launch) (v : Int) (hv : -9223372036854775808 ≤ v ∧ v ≤ 9223372036854775807) : rd_M l yX0_reduce cX0_reduce 4 (some .int) ({ frames := 0, cells := 0, slots := 0, locals := 0 }) [.long (lZ v)] (fun _ => True) (some (.int (iZ (v % 32003)))) := by
  refine rd_of RX0 (by decide) rfl (Nat.le_of_ble_eq_true rfl) ?_
  intro p e s m below meth c S hr hlk hB ls hl
  obtain ⟨hx, hb, hml, hown, hT⟩ := id S
  have hl : lv_has ls 4 [(0, .long (lZ v))] := hl
  have ht := tmod_bd v
  refine lv_lload_n hx hb dX0_reduce_0 rfl (lv_at hl 0 rfl) ?_
  refine zl_ldc hx hb 32003 hown (hT _ tb_160) (by decide) dX0_reduce_1 ?_
  refine zl_rem hx hb dX0_reduce_4 (by omega) (by omega) ?_
  refine zl_top (fun v1 ev1 => ?_)
  refine lv_lstore_n (lv' := [(2, .long (lZ v1)), (0, .long (lZ v))]) hx hb dX0_reduce_5 rfl hl (by decide) rfl (fun ls hl => ?_)
  refine lv_lload_n hx hb dX0_reduce_6 rfl (lv_at hl 0 rfl) ?_
  refine zl_const hx hb 0 dX0_reduce_7 (by decide) ?_
  refine zl_cge (tgt := 20) hx hb dX0_reduce_8 dX0_reduce_9 (by decide) (by omega) (by omega) (fun hc8 => ?_) (fun hc8 => ?_)
  · refine lv_lload_n hx hb dX0_reduce_20 rfl (lv_at hl 0 rfl) ?_
    refine zl_l2i hx hb dX0_reduce_21 ?_
    exact rd_iret hx hb hr hlk (congrArg (fun z => some (Value.int (iZ z))) (show (v % 32003 : Int) = v1 from by rw [← tmod_fix v]; (first | rw [if_pos (by omega)] | rw [if_neg (by omega)]); omega)) dX0_reduce_22
  · refine lv_lload_n hx hb dX0_reduce_12 rfl (lv_at hl 0 rfl) ?_
    refine zl_ldc hx hb 32003 hown (hT _ tb_160) (by decide) dX0_reduce_13 ?_
    refine zl_add hx hb dX0_reduce_16 ?_
    refine lv_goto (tgt := 21) hx hb dX0_reduce_17 (by decide) ?_
    refine zl_l2i hx hb dX0_reduce_21 ?_
    exact rd_iret hx hb hr hlk (congrArg (fun z => some (Value.int (iZ z))) (show (v % 32003 : Int) = v1 + 32003 from by rw [← tmod_fix v]; (first | rw [if_pos (by omega)] | rw [if_neg (by omega)]); omega)) dX0_reduce_22
set_option maxHeartbeats 4000000 in
set_option maxRecDepth 100000 in
theorem k_X0_multiply (l : Launch) (a b : Int) (ha : 0 ≤ a ∧ a < 32003) (hb1 : 0 ≤ b ∧ b < 32003) : rd_M l yX0_multiply cX0_multiply 2 (some .int) ({ frames := 1, cells := 0, slots := 0, locals := 23 }) [.int (iZ a), .int (iZ b)] (fun _ => True) (some (.int (iZ (a * b % 32003)))) := by
  refine rd_of RX0 (by decide) rfl (Nat.le_of_ble_eq_true rfl) ?_
  intro p e s m below meth c S hr hlk hB ls hl
  obtain ⟨hx, hb, hml, hown, hT⟩ := id S
  have hl : lv_has ls 2 [(0, .int (iZ a)), (1, .int (iZ b))] := hl
  have hm := mul_rng ha hb1
  refine lv_iload_n hx hb dX0_multiply_0 rfl (lv_at hl 0 rfl) ?_
  refine zi_i2l hx hb dX0_multiply_1 (by omega) ?_
  refine lv_iload_n hx hb dX0_multiply_2 rfl (lv_at hl 1 rfl) ?_
  refine zi_i2l hx hb dX0_multiply_3 (by omega) ?_
  refine zl_mul hx hb dX0_multiply_4 ?_
  refine rd_S (As := [.long (lZ (a * b))]) (rest := []) (st1 := [.int (iZ ((a * b) % 32003))]) S (k_X0_reduce l (a * b) (by omega)) tb_157 tb_158 tb_1 tb_159 hd_X0_reduce ⟨rfl, rfl, by decide, by decide⟩ bl_T (fun _ _ _ => trivial) rfl hl.1 rfl (Nat.le_of_ble_eq_true rfl) dX0_multiply_5 ⟨Nat.zero_le _, Nat.zero_le _⟩ rfl ?_
  exact rd_iret hx hb hr hlk (congrArg (fun z => some (Value.int (iZ z))) (show (a * b % 32003 : Int) = (a * b) % 32003 from rfl)) dX0_multiply_8
theorem sh_at : ∀ k : Nat, k < 15 → ((iZ (k : Int) &&& 31).toBitVec.smod 32).toNat = k := by decide
theorem an_1 : ∀ k : Nat, k < 2 → nI k &&& 1 = nI (k % 2) := by decide
theorem bit_at {x i : Int} {n : Nat} (hx : 0 ≤ x ∧ x < 32768) (h0 : i = (n : Int) - 1) (hn : 0 < n ∧ n ≤ 15) : iZ x >>> (iZ i &&& 31) &&& iZ 1 = iZ ((x.toNat / 2 ^ (n - 1) % 2 : Nat) : Int) := by
  obtain ⟨k, rfl⟩ : ∃ k : Nat, i = (k : Int) := ⟨(n - 1), by omega⟩
  have hk : k = n - 1 := by omega
  have hx2 : iZ x = nI x.toNat := by rw [iZ_nI]; congr 1; omega
  rw [hx2, pk_shrN (by omega) _ k (sh_at k (by omega)), hk]
  have h3 : nI (x.toNat / 2 ^ (n - 1)) &&& iZ 1 = nI ((x.toNat / 2 ^ (n - 1)) % 2 ^ 1) := pk_andN (by
    have : x.toNat / 2 ^ (n - 1) ≤ x.toNat := Nat.div_le_self _ _
    omega) 1 (by decide)
  rw [h3, iZ_nI]
set_option maxHeartbeats 4000000 in
set_option maxRecDepth 100000 in
theorem k_X0_power (l : Launch) (b x : Int) (hb1 : 0 ≤ b ∧ b < 32003) (hx1 : 0 ≤ x ∧ x < 32768) : rd_M l yX0_power cX0_power 4 (some .int) ({ frames := 1, cells := 0, slots := 0, locals := 23 }) [.int (iZ b), .int (iZ x)] (fun _ => True) (some (.int (iZ (pwP b (Int.toNat x))))) := by
  refine rd_of RX0 (by decide) rfl (Nat.le_of_ble_eq_true rfl) ?_
  intro p e s m below meth c S hr hlk hB ls hl
  obtain ⟨hx, hb, hml, hown, hT⟩ := id S
  have hl : lv_has ls 4 [(0, .int (iZ b)), (1, .int (iZ x))] := hl
  refine zi_const hx hb 1 dX0_power_0 ?_
  refine lv_istore_n (lv' := [(2, .int (iZ 1)), (0, .int (iZ b)), (1, .int (iZ x))]) hx hb dX0_power_1 rfl hl (by decide) rfl (fun ls hl => ?_)
  refine zi_bi hx hb 14 dX0_power_2 (by decide) ?_
  refine lv_istore_n (lv' := [(3, .int (iZ 14)), (2, .int (iZ 1)), (0, .int (iZ b)), (1, .int (iZ x))]) hx hb dX0_power_4 rfl hl (by decide) rfl (fun ls hl => ?_)
  refine lp_go (nL := 4) (α := Int × Int) (fun z => [(0, .int (iZ b)), (1, .int (iZ x)), (2, .int (iZ z.1)), (3, .int (iZ z.2))]) (fun m5 z => z.2 = (m5 : Int) - 1 ∧ m5 ≤ 15 ∧ z.1 = pwP b (x.toNat / 2 ^ m5)) ?_ 15 ((1 : Int), (14 : Int)) (by (try dsimp only); refine ⟨by omega, by omega, ?_⟩; rw [Nat.div_eq_of_lt (by omega), pwP_zero]) ls (lv_sub hl [2, 3, 1, 0] rfl)
  intro m5 z1 hI5 ih5 ls hl
  obtain ⟨r, i⟩ := z1
  have hl : lv_has ls 4 [(0, .int (iZ b)), (1, .int (iZ x)), (2, .int (iZ r)), (3, .int (iZ i))] := hl
  have hI5 : i = (m5 : Int) - 1 ∧ m5 ≤ 15 ∧ r = pwP b (x.toNat / 2 ^ m5) := hI5
  have hrr := pwP_rng b (x.toNat / 2 ^ m5)
  rw [← hI5.2.2] at hrr
  have hsq := mul_rng hrr hrr
  refine lv_iload_n hx hb dX0_power_5 rfl (lv_at hl 3 rfl) ?_
  refine zi_flt (tgt := 42) hx hb dX0_power_6 (by decide) (by omega) (fun hc6 => ?_) (fun hc6 => ?_)
  · refine lv_iload_n hx hb dX0_power_42 rfl (lv_at hl 2 rfl) ?_
    exact rd_iret hx hb hr hlk (congrArg (fun z => some (Value.int (iZ z))) (show (pwP b (Int.toNat x) : Int) = r from by rw [hI5.2.2, show m5 = 0 by omega, Nat.pow_zero, Nat.div_one])) dX0_power_43
  · refine lv_iload_n hx hb dX0_power_9 rfl (lv_at hl 2 rfl) ?_
    refine zi_i2l hx hb dX0_power_10 (by omega) ?_
    refine lv_iload_n hx hb dX0_power_11 rfl (lv_at hl 2 rfl) ?_
    refine zi_i2l hx hb dX0_power_12 (by omega) ?_
    refine zl_mul hx hb dX0_power_13 ?_
    refine rd_S (As := [.long (lZ (r * r))]) (rest := []) (st1 := [.int (iZ ((r * r) % 32003))]) S (k_X0_reduce l (r * r) (by omega)) tb_157 tb_158 tb_1 tb_159 hd_X0_reduce ⟨rfl, rfl, by decide, by decide⟩ bl_T (fun _ _ _ => trivial) rfl hl.1 rfl (Nat.le_of_ble_eq_true rfl) dX0_power_14 ⟨Nat.zero_le _, Nat.zero_le _⟩ rfl ?_
    refine zi_top (fun v2 ev2 => ?_)
    refine lv_istore_n (lv' := [(2, .int (iZ v2)), (0, .int (iZ b)), (1, .int (iZ x)), (3, .int (iZ i))]) hx hb dX0_power_17 rfl hl (by decide) rfl (fun ls hl => ?_)
    refine lv_iload_n hx hb dX0_power_18 rfl (lv_at hl 2 rfl) ?_
    refine lv_iload_n hx hb dX0_power_19 rfl (lv_at hl 3 rfl) ?_
    refine lv_ishr hx hb dX0_power_20 ?_
    refine zi_const hx hb 1 dX0_power_21 ?_
    refine lv_iand hx hb dX0_power_22 ?_
    refine zi_as (a := ((x.toNat / 2 ^ (m5 - 1) % 2 : Nat) : Int)) (bit_at hx1 (by omega) (by omega)) ?_
    refine zi_const hx hb 1 dX0_power_23 ?_
    refine zi_cne (tgt := 36) hx hb dX0_power_24 (by decide) (by omega) (by omega) (fun hc24 => ?_) (fun hc24 => ?_)
    · have hdd : x.toNat / 2 ^ (m5 - 1) / 2 = x.toNat / 2 ^ m5 := by rw [Nat.div_div_eq_div_mul, ← Nat.pow_succ]; congr 2; omega
      have hq : v2 = pwP b (x.toNat / 2 ^ m5 + x.toNat / 2 ^ m5) := by rw [ev2, hI5.2.2, pwP_mul]
      refine zi_inc (lv' := [(3, .int (iZ (i + (-1)))), (2, .int (iZ v2)), (0, .int (iZ b)), (1, .int (iZ x))]) hx hb dX0_power_36 hl (k := 3) rfl (by decide) rfl (fun ls hl => ?_)
      refine lv_goto (tgt := 5) hx hb dX0_power_39 (by decide) ?_
      exact ih5 (m5 - 1) (v2, i + (-1)) (by omega) (by (try dsimp only); refine ⟨by omega, by omega, ?_⟩; rw [hq]; exact congrArg (pwP b) (by omega)) ls (lv_sub hl [2, 3, 1, 0] rfl)
    · have hdd : x.toNat / 2 ^ (m5 - 1) / 2 = x.toNat / 2 ^ m5 := by rw [Nat.div_div_eq_div_mul, ← Nat.pow_succ]; congr 2; omega
      have hq : v2 = pwP b (x.toNat / 2 ^ m5 + x.toNat / 2 ^ m5) := by rw [ev2, hI5.2.2, pwP_mul]
      have hqr := pwP_rng b (x.toNat / 2 ^ m5 + x.toNat / 2 ^ m5)
      rw [← hq] at hqr
      have hm2 := mul_rng hqr hb1
      refine lv_iload_n hx hb dX0_power_27 rfl (lv_at hl 0 rfl) ?_
      refine zi_i2l hx hb dX0_power_28 (by omega) ?_
      refine lv_iload_n hx hb dX0_power_29 rfl (lv_at hl 1 rfl) ?_
      refine zi_i2l hx hb dX0_power_30 (by omega) ?_
      refine zl_mul hx hb dX0_power_31 ?_
      refine rd_S (As := [.long (lZ (v2 * b))]) (rest := []) (st1 := [.int (iZ ((v2 * b) % 32003))]) S (k_X0_reduce l (v2 * b) (by omega)) tb_157 tb_158 tb_1 tb_159 hd_X0_reduce ⟨rfl, rfl, by decide, by decide⟩ bl_T (fun _ _ _ => trivial) rfl hl.1 rfl (Nat.le_of_ble_eq_true rfl) dX0_power_32 ⟨Nat.zero_le _, Nat.zero_le _⟩ rfl ?_
      refine zi_top (fun v3 ev3 => ?_)
      refine lv_istore_n (lv' := [(2, .int (iZ v3)), (0, .int (iZ b)), (1, .int (iZ x)), (3, .int (iZ i))]) hx hb dX0_power_35 rfl hl (by decide) rfl (fun ls hl => ?_)
      refine zi_inc (lv' := [(3, .int (iZ (i + (-1)))), (2, .int (iZ v3)), (0, .int (iZ b)), (1, .int (iZ x))]) hx hb dX0_power_36 hl (k := 3) rfl (by decide) rfl (fun ls hl => ?_)
      refine lv_goto (tgt := 5) hx hb dX0_power_39 (by decide) ?_
      exact ih5 (m5 - 1) (v3, i + (-1)) (by omega) (by (try dsimp only); refine ⟨by omega, by omega, ?_⟩; rw [ev3, hq, pwP_sq1 hb1]; exact congrArg (pwP b) (by omega)) ls (lv_sub hl [2, 3, 1, 0] rfl)
set_option maxHeartbeats 4000000 in
set_option maxRecDepth 100000 in
theorem k_X0_inverse (l : Launch) (a : Int) (ha : 0 ≤ a ∧ a < 32003) : rd_M l yX0_inverse cX0_inverse 1 (some .int) ({ frames := 2, cells := 0, slots := 0, locals := 46 }) [.int (iZ a)] (fun _ => True) (some (.int (iZ (pwP a 32001)))) := by
  refine rd_of RX0 (by decide) rfl (Nat.le_of_ble_eq_true rfl) ?_
  intro p e s m below meth c S hr hlk hB ls hl
  obtain ⟨hx, hb, hml, hown, hT⟩ := id S
  have hl : lv_has ls 1 [(0, .int (iZ a))] := hl
  refine lv_iload_n hx hb dX0_inverse_0 rfl (lv_at hl 0 rfl) ?_
  refine zi_si hx hb 32001 dX0_inverse_1 (by decide) ?_
  refine rd_S (As := [.int (iZ a), .int (iZ 32001)]) (rest := []) (st1 := [.int (iZ (pwP a (Int.toNat 32001)))]) S (k_X0_power l a 32001 (by omega) (by omega)) tb_316 tb_317 tb_1 tb_318 hd_X0_power ⟨rfl, rfl, by decide, by decide⟩ bl_T (fun _ _ _ => trivial) rfl hl.1 rfl (Nat.le_of_ble_eq_true rfl) dX0_inverse_4 ⟨Nat.zero_le _, Nat.zero_le _⟩ rfl ?_
  exact rd_iret hx hb hr hlk (congrArg (fun z => some (Value.int (iZ z))) (show (pwP a 32001 : Int) = pwP a (Int.toNat 32001) from rfl)) dX0_inverse_7
set_option maxHeartbeats 4000000 in
set_option maxRecDepth 100000 in
theorem k_X0_divide (l : Launch) (z d : Int) (hz : -9223372036854775808 ≤ z ∧ z ≤ 9223372036854775807) (hd1 : -2147483648 ≤ d ∧ d ≤ 2147483647) : rd_M l yX0_divide cX0_divide 3 (some .int) ({ frames := 3, cells := 0, slots := 0, locals := 66 }) [.long (lZ z), .int (iZ d)] (fun _ => True) (some (.int (iZ (dvZ z d)))) := by
  refine rd_of RX0 (by decide) rfl (Nat.le_of_ble_eq_true rfl) ?_
  intro p e s m below meth c S hr hlk hB ls hl
  obtain ⟨hx, hb, hml, hown, hT⟩ := id S
  have hl : lv_has ls 3 [(0, .long (lZ z)), (2, .int (iZ d))] := hl
  have hpr := pwP_rng (d % 32003) 32001
  refine lv_lload_n hx hb dX0_divide_0 rfl (lv_at hl 0 rfl) ?_
  refine rd_S (As := [.long (lZ z)]) (rest := []) (st1 := [.int (iZ (z % 32003))]) S (k_X0_reduce l z (by omega)) tb_157 tb_158 tb_1 tb_159 hd_X0_reduce ⟨rfl, rfl, by decide, by decide⟩ bl_T (fun _ _ _ => trivial) rfl hl.1 rfl (Nat.le_of_ble_eq_true rfl) dX0_divide_1 ⟨Nat.zero_le _, Nat.zero_le _⟩ rfl ?_
  refine lv_iload_n hx hb dX0_divide_4 rfl (lv_at hl 1 rfl) ?_
  refine zi_i2l hx hb dX0_divide_5 (by omega) ?_
  refine rd_S (As := [.long (lZ d)]) (rest := [.int (iZ (z % 32003))]) (st1 := [.int (iZ (d % 32003)), .int (iZ (z % 32003))]) S (k_X0_reduce l d (by omega)) tb_157 tb_158 tb_1 tb_159 hd_X0_reduce ⟨rfl, rfl, by decide, by decide⟩ bl_T (fun _ _ _ => trivial) rfl hl.1 rfl (Nat.le_of_ble_eq_true rfl) dX0_divide_6 ⟨Nat.zero_le _, Nat.zero_le _⟩ rfl ?_
  refine rd_S (As := [.int (iZ (d % 32003))]) (rest := [.int (iZ (z % 32003))]) (st1 := [.int (iZ (pwP (d % 32003) 32001)), .int (iZ (z % 32003))]) S (k_X0_inverse l (d % 32003) (by omega)) tb_313 tb_314 tb_1 tb_315 hd_X0_inverse ⟨rfl, rfl, by decide, by decide⟩ bl_T (fun _ _ _ => trivial) rfl hl.1 rfl (Nat.le_of_ble_eq_true rfl) dX0_divide_9 ⟨Nat.zero_le _, Nat.zero_le _⟩ rfl ?_
  refine rd_S (As := [.int (iZ (z % 32003)), .int (iZ (pwP (d % 32003) 32001))]) (rest := []) (st1 := [.int (iZ ((z % 32003) * (pwP (d % 32003) 32001) % 32003))]) S (k_X0_multiply l (z % 32003) (pwP (d % 32003) 32001) (by omega) (by omega)) tb_319 tb_320 tb_1 tb_321 hd_X0_multiply ⟨rfl, rfl, by decide, by decide⟩ bl_T (fun _ _ _ => trivial) rfl hl.1 rfl (Nat.le_of_ble_eq_true rfl) dX0_divide_12 ⟨Nat.zero_le _, Nat.zero_le _⟩ rfl ?_
  exact rd_iret hx hb hr hlk (congrArg (fun z => some (Value.int (iZ z))) (show (dvZ z d : Int) = (z % 32003) * (pwP (d % 32003) 32001) % 32003 from rfl)) dX0_divide_15
