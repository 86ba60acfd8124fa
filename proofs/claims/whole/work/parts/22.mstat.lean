def inZ (v a b : Int) : Int := if a ≤ v ∧ v ≤ b then 1 else 0
theorem inZ_or (v a b : Int) : (inZ v a b = 1 ∧ a ≤ v ∧ v ≤ b) ∨ (inZ v a b = 0 ∧ ¬ (a ≤ v ∧ v ≤ b)) := by unfold inZ; split <;> omega
def xpZ (z : Int) : Int := if z < 4 then 0 else if z < 6 then z - 6 else z - 5
theorem xp_ep {z : Int} (h : 0 ≤ z ∧ z < 8) : xpZ z = ePz z := by
  obtain ⟨k, rfl⟩ : ∃ k : Nat, z = k := ⟨z.toNat, by omega⟩
  exact (show ∀ k : Nat, k < 8 → xpZ k = ePz k by decide) k (by omega)
def roZ (z : Int) : Int := if z < 4 then z else 11 + xpZ z
set_option maxHeartbeats 4000000 in
set_option maxRecDepth 100000 in
theorem k_X1_in (l : Launch)  (v a b : Int) (hv : -9223372036854775808 ≤ v ∧ v ≤ 9223372036854775807) (ha : -9223372036854775808 ≤ a ∧ a ≤ 9223372036854775807) (hb : -9223372036854775808 ≤ b ∧ b ≤ 9223372036854775807) : rd_M l yX1_in cX1_in 6 (some .boolean) ({ frames := 0, cells := 0, slots := 0, locals := 0 }) [.long (lZ v), .long (lZ a), .long (lZ b)] (fun _ => True) (some (.int (iZ (inZ v a b)))) := by
  refine rd_of RX1 (by decide) rfl (Nat.le_of_ble_eq_true rfl) ?_
  intro p e s m below meth c S hr hlk hB ls hl
  obtain ⟨hx, hb, hml, hown, hT⟩ := id S
  have hl : lv_has ls 6 [(0, .long (lZ v)), (2, .long (lZ a)), (4, .long (lZ b))] := hl
  refine lv_lload_n hx hb dX1_in_0 rfl (lv_at hl 0 rfl) ?_
  refine lv_lload_n hx hb dX1_in_1 rfl (lv_at hl 1 rfl) ?_
  refine zl_clt (tgt := 17) hx hb dX1_in_2 dX1_in_3 (by decide) (by omega) (by omega) (fun hc2 => ?_) (fun hc2 => ?_)
  · refine zi_const hx hb 0 dX1_in_17 ?_
    exact rd_zret hx hb hr hlk (congrArg (fun z => some (Value.int (iZ z))) (show (inZ v a b : Int) = 0 from by unfold inZ; (first | rw [if_pos (by omega)] | rw [if_neg (by omega)]))) (by decide) dX1_in_18
  · refine lv_lload_n hx hb dX1_in_6 rfl (lv_at hl 0 rfl) ?_
    refine lv_lload hx hb dX1_in_7 (lv_at hl 2 rfl) ?_
    refine zl_cgt (tgt := 17) hx hb dX1_in_9 dX1_in_10 (by decide) (by omega) (by omega) (fun hc9 => ?_) (fun hc9 => ?_)
    · refine zi_const hx hb 0 dX1_in_17 ?_
      exact rd_zret hx hb hr hlk (congrArg (fun z => some (Value.int (iZ z))) (show (inZ v a b : Int) = 0 from by unfold inZ; (first | rw [if_pos (by omega)] | rw [if_neg (by omega)]))) (by decide) dX1_in_18
    · refine zi_const hx hb 1 dX1_in_13 ?_
      refine lv_goto (tgt := 18) hx hb dX1_in_14 (by decide) ?_
      exact rd_zret hx hb hr hlk (congrArg (fun z => some (Value.int (iZ z))) (show (inZ v a b : Int) = 1 from by unfold inZ; (first | rw [if_pos (by omega)] | rw [if_neg (by omega)]))) (by decide) dX1_in_18
set_option maxHeartbeats 4000000 in
set_option maxRecDepth 100000 in
theorem k_X1_modulo (l : Launch)  (v : Int) (hv : -9223372036854775808 ≤ v ∧ v ≤ 9223372036854775807) : rd_M l yX1_modulo cX1_modulo 4 (some .long) ({ frames := 0, cells := 0, slots := 0, locals := 0 }) [.long (lZ v)] (fun _ => True) (some (.long (lZ (v % 32003)))) := by
  refine rd_of RX1 (by decide) rfl (Nat.le_of_ble_eq_true rfl) ?_
  intro p e s m below meth c S hr hlk hB ls hl
  obtain ⟨hx, hb, hml, hown, hT⟩ := id S
  have hl : lv_has ls 4 [(0, .long (lZ v))] := hl
  have ht := tmod_bd v
  refine lv_lload_n hx hb dX1_modulo_0 rfl (lv_at hl 0 rfl) ?_
  refine zl_ldc hx hb 32003 hown (hT _ tb_448) (by decide) dX1_modulo_1 ?_
  refine zl_rem hx hb dX1_modulo_4 (by omega) (by omega) ?_
  refine zl_top (fun v1 ev1 => ?_)
  refine lv_lstore_n (lv' := [(2, .long (lZ v1)), (0, .long (lZ v))]) hx hb dX1_modulo_5 rfl hl (by decide) rfl (fun ls hl => ?_)
  refine lv_lload_n hx hb dX1_modulo_6 rfl (lv_at hl 0 rfl) ?_
  refine zl_const hx hb 0 dX1_modulo_7 (by decide) ?_
  refine zl_cge (tgt := 20) hx hb dX1_modulo_8 dX1_modulo_9 (by decide) (by omega) (by omega) (fun hc8 => ?_) (fun hc8 => ?_)
  · refine lv_lload_n hx hb dX1_modulo_20 rfl (lv_at hl 0 rfl) ?_
    exact rd_lret hx hb hr hlk (congrArg (fun z => some (Value.long (lZ z))) (show (v % 32003 : Int) = v1 from by rw [← tmod_fix v]; (first | rw [if_pos (by omega)] | rw [if_neg (by omega)]); omega)) dX1_modulo_21
  · refine lv_lload_n hx hb dX1_modulo_12 rfl (lv_at hl 0 rfl) ?_
    refine zl_ldc hx hb 32003 hown (hT _ tb_448) (by decide) dX1_modulo_13 ?_
    refine zl_add hx hb dX1_modulo_16 ?_
    refine lv_goto (tgt := 21) hx hb dX1_modulo_17 (by decide) ?_
    exact rd_lret hx hb hr hlk (congrArg (fun z => some (Value.long (lZ z))) (show (v % 32003 : Int) = v1 + 32003 from by rw [← tmod_fix v]; (first | rw [if_pos (by omega)] | rw [if_neg (by omega)]); omega)) dX1_modulo_21
set_option maxHeartbeats 4000000 in
set_option maxRecDepth 100000 in
theorem k_X1_place (l : Launch)  (a n : Int)  : rd_M l yX1_place cX1_place 2 (some .int) ({ frames := 0, cells := 0, slots := 0, locals := 0 }) [.int (iZ a), .int (iZ n)] (fun _ => True) (some (.int (iZ (a * 9 + n + 4)))) := by
  refine rd_of RX1 (by decide) rfl (Nat.le_of_ble_eq_true rfl) ?_
  intro p e s m below meth c S hr hlk hB ls hl
  obtain ⟨hx, hb, hml, hown, hT⟩ := id S
  have hl : lv_has ls 2 [(0, .int (iZ a)), (1, .int (iZ n))] := hl
  refine zi_bi hx hb 9 dX1_place_0 (by decide) ?_
  refine lv_iload_n hx hb dX1_place_2 rfl (lv_at hl 0 rfl) ?_
  refine zi_mul hx hb dX1_place_3 ?_
  refine lv_iload_n hx hb dX1_place_4 rfl (lv_at hl 1 rfl) ?_
  refine zi_add hx hb dX1_place_5 ?_
  refine zi_const hx hb 4 dX1_place_6 ?_
  refine zi_add hx hb dX1_place_7 ?_
  exact rd_iret hx hb hr hlk (congrArg (fun z => some (Value.int (iZ z))) (show (a * 9 + n + 4 : Int) = ((9 * a) + n) + 4 from by omega)) dX1_place_8
set_option maxHeartbeats 4000000 in
set_option maxRecDepth 100000 in
theorem k_X1_exponent (l : Launch)  (a : Int) (ha : -1000 ≤ a ∧ a ≤ 1000) : rd_M l yX1_exponent cX1_exponent 1 (some .int) ({ frames := 0, cells := 0, slots := 0, locals := 0 }) [.int (iZ a)] (fun _ => True) (some (.int (iZ (xpZ a)))) := by
  refine rd_of RX1 (by decide) rfl (Nat.le_of_ble_eq_true rfl) ?_
  intro p e s m below meth c S hr hlk hB ls hl
  obtain ⟨hx, hb, hml, hown, hT⟩ := id S
  have hl : lv_has ls 1 [(0, .int (iZ a))] := hl
  refine lv_iload_n hx hb dX1_exponent_0 rfl (lv_at hl 0 rfl) ?_
  refine zi_const hx hb 4 dX1_exponent_1 ?_
  refine zi_cge (tgt := 9) hx hb dX1_exponent_2 (by decide) (by omega) (by omega) (fun hc2 => ?_) (fun hc2 => ?_)
  · refine lv_iload_n hx hb dX1_exponent_9 rfl (lv_at hl 0 rfl) ?_
    refine zi_bi hx hb 6 dX1_exponent_10 (by decide) ?_
    refine zi_cge (tgt := 22) hx hb dX1_exponent_12 (by decide) (by omega) (by omega) (fun hc12 => ?_) (fun hc12 => ?_)
    · refine lv_iload_n hx hb dX1_exponent_22 rfl (lv_at hl 0 rfl) ?_
      refine zi_const hx hb 5 dX1_exponent_23 ?_
      refine zi_sub hx hb dX1_exponent_24 ?_
      exact rd_iret hx hb hr hlk (congrArg (fun z => some (Value.int (iZ z))) (show (xpZ a : Int) = a - 5 from by unfold xpZ; (first | rw [if_pos (by omega)] | (rw [if_neg (by omega)]; (first | rw [if_pos (by omega)] | rw [if_neg (by omega)]))))) dX1_exponent_25
    · refine lv_iload_n hx hb dX1_exponent_15 rfl (lv_at hl 0 rfl) ?_
      refine zi_bi hx hb 6 dX1_exponent_16 (by decide) ?_
      refine zi_sub hx hb dX1_exponent_18 ?_
      refine lv_goto (tgt := 25) hx hb dX1_exponent_19 (by decide) ?_
      exact rd_iret hx hb hr hlk (congrArg (fun z => some (Value.int (iZ z))) (show (xpZ a : Int) = a - 6 from by unfold xpZ; (first | rw [if_pos (by omega)] | (rw [if_neg (by omega)]; (first | rw [if_pos (by omega)] | rw [if_neg (by omega)]))))) dX1_exponent_25
  · refine zi_const hx hb 0 dX1_exponent_5 ?_
    refine lv_goto (tgt := 25) hx hb dX1_exponent_6 (by decide) ?_
    exact rd_iret hx hb hr hlk (congrArg (fun z => some (Value.int (iZ z))) (show (xpZ a : Int) = 0 from by unfold xpZ; (first | rw [if_pos (by omega)] | (rw [if_neg (by omega)]; (first | rw [if_pos (by omega)] | rw [if_neg (by omega)]))))) dX1_exponent_25
set_option maxHeartbeats 4000000 in
set_option maxRecDepth 100000 in
theorem k_X1_rowOf (l : Launch)  (a : Int) (ha : -1000 ≤ a ∧ a ≤ 1000) : rd_M l yX1_rowOf cX1_rowOf 1 (some .int) ({ frames := 1, cells := 0, slots := 0, locals := 20 }) [.int (iZ a)] (fun _ => True) (some (.int (iZ (roZ a)))) := by
  refine rd_of RX1 (by decide) rfl (Nat.le_of_ble_eq_true rfl) ?_
  intro p e s m below meth c S hr hlk hB ls hl
  obtain ⟨hx, hb, hml, hown, hT⟩ := id S
  have hl : lv_has ls 1 [(0, .int (iZ a))] := hl
  refine lv_iload_n hx hb dX1_rowOf_0 rfl (lv_at hl 0 rfl) ?_
  refine zi_const hx hb 4 dX1_rowOf_1 ?_
  refine zi_cge (tgt := 9) hx hb dX1_rowOf_2 (by decide) (by omega) (by omega) (fun hc2 => ?_) (fun hc2 => ?_)
  · refine zi_bi hx hb 11 dX1_rowOf_9 (by decide) ?_
    refine lv_iload_n hx hb dX1_rowOf_11 rfl (lv_at hl 0 rfl) ?_
    refine rd_S (As := [.int (iZ a)]) (rest := [.int (iZ 11)]) (st1 := [.int (iZ (xpZ a)), .int (iZ 11)]) S (k_X1_exponent l a (by omega)) tb_491 tb_492 tb_2 tb_493 hd_X1_exponent ⟨rfl, rfl, by decide, by decide⟩ bl_T (fun _ _ _ => trivial) rfl hl.1 rfl (Nat.le_of_ble_eq_true rfl) dX1_rowOf_12 ⟨Nat.zero_le _, Nat.zero_le _⟩ rfl ?_
    have hxe15 : xpZ a = (if a < 4 then 0 else if a < 6 then a - 6 else a - 5) := rfl
    refine zi_add hx hb dX1_rowOf_15 ?_
    exact rd_iret hx hb hr hlk (congrArg (fun z => some (Value.int (iZ z))) (show (roZ a : Int) = 11 + (xpZ a) from by unfold roZ; (first | rw [if_pos (by omega)] | rw [if_neg (by omega)]))) dX1_rowOf_16
  · refine lv_iload_n hx hb dX1_rowOf_5 rfl (lv_at hl 0 rfl) ?_
    refine lv_goto (tgt := 16) hx hb dX1_rowOf_6 (by decide) ?_
    exact rd_iret hx hb hr hlk (congrArg (fun z => some (Value.int (iZ z))) (show (roZ a : Int) = a from by unfold roZ; (first | rw [if_pos (by omega)] | rw [if_neg (by omega)]))) dX1_rowOf_16
theorem iv_odd {v : Int} {n x y : Nat} (hn : n % 2 = 1) (h : x + n * y = 32001) {r s : Int} (hr : r = pwP v x) (hs : s = pwP v y) : r * s % 32003 = pwP v (x + y) := by rw [hr, hs, pwP_mul]
theorem tm2 {n : Int} (h : 0 ≤ n) : Int.tmod n 2 = n % 2 := Int.tmod_eq_emod_of_nonneg h
theorem td2 {n : Int} (h : 0 ≤ n) : Int.tdiv n 2 = n / 2 := Int.tdiv_eq_ediv_of_nonneg h
theorem tmP {n : Int} (h : 0 ≤ n) : Int.tmod n 32003 = n % 32003 := Int.tmod_eq_emod_of_nonneg h
def ivOk (v n r s : Int) : Prop := ∃ x y : Nat, (x : Int) + n * y = 32001 ∧ 0 ≤ n ∧ r = pwP v x ∧ s = pwP v y
theorem ivOk_next {v n r s r2 : Int} (h : ivOk v n r s) (hr : r2 = if n % 2 = 1 then r * s % 32003 else r) : ivOk v (n / 2) r2 (s * s % 32003) := by
  obtain ⟨x, y, h1, h2, h3, h4⟩ := h
  have hn : n = 2 * (n / 2) + n % 2 := by omega
  by_cases h5 : n % 2 = 1
  · rw [if_pos h5] at hr
    refine ⟨x + y, y + y, ?_, by omega, by rw [hr, h3, h4, pwP_mul], by rw [h4, pwP_mul]⟩
    have h6 : n * (y : Int) = (n / 2) * ((y : Int) + y) + y := by
      rw [hn, h5]
      rw [show (2 * (n / 2) + 1) / 2 = n / 2 by omega]
      rw [Int.add_mul, Int.mul_add, Int.mul_comm 2 (n / 2), Int.mul_assoc, Int.two_mul, Int.mul_add]
      omega
    have h7 : ((x + y : Nat) : Int) = (x : Int) + y := by omega
    have h8 : ((y + y : Nat) : Int) = (y : Int) + y := by omega
    rw [h7, h8]
    omega
  · rw [if_neg h5] at hr
    refine ⟨x, y + y, ?_, by omega, by rw [hr, h3], by rw [h4, pwP_mul]⟩
    have h9 : n % 2 = 0 := by omega
    have h6 : n * (y : Int) = (n / 2) * ((y : Int) + y) := by
      rw [hn, h9, Int.add_zero]
      rw [show 2 * (n / 2) / 2 = n / 2 by omega]
      rw [Int.mul_comm 2 (n / 2), Int.mul_assoc, Int.two_mul]
    have h8 : ((y + y : Nat) : Int) = (y : Int) + y := by omega
    rw [h8]
    omega
theorem ivOk_rng {v n r s : Int} (h : ivOk v n r s) : (0 ≤ r ∧ r < 32003) ∧ (0 ≤ s ∧ s < 32003) ∧ 0 ≤ n := by
  obtain ⟨x, y, h1, h2, h3, h4⟩ := h
  rw [h3, h4]
  exact ⟨pwP_rng _ _, pwP_rng _ _, h2⟩
set_option maxHeartbeats 4000000 in
set_option maxRecDepth 100000 in
theorem k_X1_inverse (l : Launch)  (v : Int) (hv : -9223372036854775808 ≤ v ∧ v ≤ 9223372036854775807) : rd_M l yX1_inverse cX1_inverse 7 (some .long) ({ frames := 1, cells := 0, slots := 0, locals := 23 }) [.long (lZ v)] (fun _ => True) (some (.long (lZ (pwP (v % 32003) 32001)))) := by
  refine rd_of RX1 (by decide) rfl (Nat.le_of_ble_eq_true rfl) ?_
  intro p e s m below meth c S hr hlk hB ls hl
  obtain ⟨hx, hb, hml, hown, hT⟩ := id S
  have hl : lv_has ls 7 [(0, .long (lZ v))] := hl
  refine zl_const hx hb 1 dX1_inverse_0 (by decide) ?_
  refine lv_lstore_n (lv' := [(2, .long (lZ 1)), (0, .long (lZ v))]) hx hb dX1_inverse_1 rfl hl (by decide) rfl (fun ls hl => ?_)
  refine lv_lload_n hx hb dX1_inverse_2 rfl (lv_at hl 1 rfl) ?_
  refine rd_S (As := [.long (lZ v)]) (rest := []) (st1 := [.long (lZ (v % 32003))]) S (k_X1_modulo l v (by omega)) tb_445 tb_446 tb_2 tb_447 hd_X1_modulo ⟨rfl, rfl, by decide, by decide⟩ bl_T (fun _ _ _ => trivial) rfl hl.1 rfl (Nat.le_of_ble_eq_true rfl) dX1_inverse_3 ⟨Nat.zero_le _, Nat.zero_le _⟩ rfl ?_
  refine zl_top (fun v1 ev1 => ?_)
  refine lv_lstore (lv' := [(4, .long (lZ v1)), (2, .long (lZ 1)), (0, .long (lZ v))]) hx hb dX1_inverse_6 hl (by decide) rfl (fun ls hl => ?_)
  refine zi_si hx hb 32001 dX1_inverse_8 (by decide) ?_
  refine lv_istore (lv' := [(6, .int (iZ 32001)), (4, .long (lZ v1)), (2, .long (lZ 1)), (0, .long (lZ v))]) hx hb dX1_inverse_11 hl (by decide) rfl (fun ls hl => ?_)
  refine lp_go (nL := 7) (α := Int × Int × Int) (fun z => [(0, .long (lZ v)), (2, .long (lZ z.1)), (4, .long (lZ z.2.1)), (6, .int (iZ z.2.2))]) (fun m13 z => (z.2.2 ≤ 32001 ∧ (m13 : Int) = z.2.2) ∧ ivOk (v % 32003) z.2.2 z.1 z.2.1) ?_ 32001 ((1 : Int), (v1 : Int), (32001 : Int)) (by (try dsimp only); exact ⟨by omega, 0, 1, by omega, by omega, by rw [pwP_zero], by rw [pwP_one (by omega)]; omega⟩) ls (lv_sub hl [3, 2, 1, 0] rfl)
  intro m13 z2 hI13 ih13 ls hl
  obtain ⟨r, q, n⟩ := z2
  have hl : lv_has ls 7 [(0, .long (lZ v)), (2, .long (lZ r)), (4, .long (lZ q)), (6, .int (iZ n))] := hl
  have hI13 : (n ≤ 32001 ∧ (m13 : Int) = n) ∧ ivOk (v % 32003) n r q := hI13
  have hrg := ivOk_rng hI13.2
  have hm1 := mul_rng hrg.1 hrg.2.1
  have hm2 := mul_rng hrg.2.1 hrg.2.1
  have ht2 := tm2 (n := n) (by omega)
  have htd := td2 (n := n) (by omega)
  refine lv_iload hx hb dX1_inverse_13 (lv_at hl 3 rfl) ?_
  refine zi_fle (tgt := 59) hx hb dX1_inverse_15 (by decide) (by omega) (fun hc15 => ?_) (fun hc15 => ?_)
  · refine lv_lload_n hx hb dX1_inverse_59 rfl (lv_at hl 1 rfl) ?_
    exact rd_lret hx hb hr hlk (congrArg (fun z => some (Value.long (lZ z))) (show (pwP (v % 32003) 32001 : Int) = r from by obtain ⟨x, y, h1, h2, h3, h4⟩ := hI13.2; have h5 : n = 0 := (by omega); have h6 : n * (y : Int) = 0 := (by rw [h5, Int.zero_mul]); rw [h3]; exact congrArg (pwP (v % 32003)) (by omega))) dX1_inverse_60
  · refine lv_iload hx hb dX1_inverse_18 (lv_at hl 3 rfl) ?_
    refine zi_const hx hb 2 dX1_inverse_20 ?_
    refine zi_rem hx hb dX1_inverse_21 (by omega) (by omega) ?_
    refine zi_const hx hb 1 dX1_inverse_22 ?_
    refine zi_cne (tgt := 37) hx hb dX1_inverse_23 (by decide) (by omega) (by omega) (fun hc23 => ?_) (fun hc23 => ?_)
    · refine lv_lload_n hx hb dX1_inverse_37 rfl (lv_at hl 1 rfl) ?_
      refine lv_lstore_n (lv' := [(2, .long (lZ r)), (0, .long (lZ v)), (4, .long (lZ q)), (6, .int (iZ n))]) hx hb dX1_inverse_38 rfl hl (by decide) rfl (fun ls hl => ?_)
      refine lv_lload hx hb dX1_inverse_39 (lv_at hl 2 rfl) ?_
      refine lv_lload hx hb dX1_inverse_41 (lv_at hl 2 rfl) ?_
      refine zl_mul hx hb dX1_inverse_43 ?_
      refine zl_ldc hx hb 32003 hown (hT _ tb_448) (by decide) dX1_inverse_44 ?_
      refine zl_rem hx hb dX1_inverse_47 (by omega) (by omega) ?_
      refine zl_top (fun v3 ev3 => ?_)
      refine lv_lstore (lv' := [(4, .long (lZ v3)), (2, .long (lZ r)), (0, .long (lZ v)), (6, .int (iZ n))]) hx hb dX1_inverse_48 hl (by decide) rfl (fun ls hl => ?_)
      refine lv_iload hx hb dX1_inverse_50 (lv_at hl 3 rfl) ?_
      refine zi_const hx hb 2 dX1_inverse_52 ?_
      refine zi_div hx hb dX1_inverse_53 (by omega) (by omega) ?_
      refine zi_top (fun v4 ev4 => ?_)
      refine lv_istore (lv' := [(6, .int (iZ v4)), (4, .long (lZ v3)), (2, .long (lZ r)), (0, .long (lZ v))]) hx hb dX1_inverse_54 hl (by decide) rfl (fun ls hl => ?_)
      refine lv_goto (tgt := 13) hx hb dX1_inverse_56 (by decide) ?_
      exact ih13 ((Int.tdiv n 2).toNat) (r, v3, v4) (by omega) (by (try dsimp only); have h2 := td2 (n := n) (by omega); refine ⟨by omega, ?_⟩; rw [ev4, ev3, h2, show Int.tmod (q * q) 32003 = q * q % 32003 from tmP (by omega)]; exact ivOk_next hI13.2 (by rw [if_neg (by omega)])) ls (lv_sub hl [3, 2, 1, 0] rfl)
    · refine lv_lload_n hx hb dX1_inverse_26 rfl (lv_at hl 1 rfl) ?_
      refine lv_lload hx hb dX1_inverse_27 (lv_at hl 2 rfl) ?_
      refine zl_mul hx hb dX1_inverse_29 ?_
      refine zl_ldc hx hb 32003 hown (hT _ tb_448) (by decide) dX1_inverse_30 ?_
      refine zl_rem hx hb dX1_inverse_33 (by omega) (by omega) ?_
      refine lv_goto (tgt := 38) hx hb dX1_inverse_34 (by decide) ?_
      refine zl_top (fun v5 ev5 => ?_)
      refine lv_lstore_n (lv' := [(2, .long (lZ v5)), (0, .long (lZ v)), (4, .long (lZ q)), (6, .int (iZ n))]) hx hb dX1_inverse_38 rfl hl (by decide) rfl (fun ls hl => ?_)
      refine lv_lload hx hb dX1_inverse_39 (lv_at hl 2 rfl) ?_
      refine lv_lload hx hb dX1_inverse_41 (lv_at hl 2 rfl) ?_
      refine zl_mul hx hb dX1_inverse_43 ?_
      refine zl_ldc hx hb 32003 hown (hT _ tb_448) (by decide) dX1_inverse_44 ?_
      refine zl_rem hx hb dX1_inverse_47 (by omega) (by omega) ?_
      refine zl_top (fun v6 ev6 => ?_)
      refine lv_lstore (lv' := [(4, .long (lZ v6)), (2, .long (lZ v5)), (0, .long (lZ v)), (6, .int (iZ n))]) hx hb dX1_inverse_48 hl (by decide) rfl (fun ls hl => ?_)
      refine lv_iload hx hb dX1_inverse_50 (lv_at hl 3 rfl) ?_
      refine zi_const hx hb 2 dX1_inverse_52 ?_
      refine zi_div hx hb dX1_inverse_53 (by omega) (by omega) ?_
      refine zi_top (fun v7 ev7 => ?_)
      refine lv_istore (lv' := [(6, .int (iZ v7)), (4, .long (lZ v6)), (2, .long (lZ v5)), (0, .long (lZ v))]) hx hb dX1_inverse_54 hl (by decide) rfl (fun ls hl => ?_)
      refine lv_goto (tgt := 13) hx hb dX1_inverse_56 (by decide) ?_
      exact ih13 ((Int.tdiv n 2).toNat) (v5, v6, v7) (by omega) (by (try dsimp only); have h2 := td2 (n := n) (by omega); refine ⟨by omega, ?_⟩; rw [ev7, ev6, h2, show Int.tmod (q * q) 32003 = q * q % 32003 from tmP (by omega)]; exact ivOk_next hI13.2 (by rw [ev5, if_pos (by omega), tmP (by omega)])) ls (lv_sub hl [3, 2, 1, 0] rfl)
