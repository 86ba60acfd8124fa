set_option maxHeartbeats 4000000 in
set_option maxRecDepth 100000 in
theorem kO_X1_rest (l : Launch) (D : va_G) (mo : Nat) (na : Nat → Nat) (cI cJ : ClassId) (c0 k : Int) (V : Nat → Nat → Int) (f a : Int) (hd : dM mo na) (hk : 0 ≤ k ∧ k ≤ 60) (hf0 : -2147483648 ≤ f ∧ f ≤ 2147483647) (ha0 : -2147483648 ≤ a ∧ a ≤ 2147483647) (h0 : ¬ (0 ≤ f ∧ f < k)) : wm_M l yX1_rest cX1_rest 3 (some .int) ({ frames := 3, cells := 0, slots := 0, locals := 74 }) [.int (iZ f), .int (iZ a)] D mo na cI cJ c0 k V (some (.int (iZ 0))) 1 k (fun Z => Z = V) := by
  refine wm_of (by decide) rfl (Nat.le_of_ble_eq_true rfl) ?_
  intro p e s m below meth c A hAe S hr hlk hP hK hA hAn hS ls hl
  obtain ⟨hx, hb, hml, hown, hT⟩ := id S
  have hl : lv_has ls 3 [(0, .ref mo), (1, .int (iZ f)), (2, .int (iZ a))] := hl
  refine lv_aload_n hx hb dX1_rest_0 rfl (lv_at hl 0 rfl) ?_
  refine lv_aload_n hx hb dX1_rest_1 rfl (lv_at hl 0 rfl) ?_
  refine lv_iload_n hx hb dX1_rest_2 rfl (lv_at hl 1 rfl) ?_
  refine rd_V (As := [.int (iZ f)]) (rest := [.ref mo]) (st1 := [.int (iZ (inZ f 0 (k - 1))), .ref mo]) S (k_X1_isThere l D mo na cI cJ c0 k V f (by omega) (by omega)) tb_466 tb_468 ts_X1_isThere tb_2 tb_469 hd_X1_isThere ⟨rfl, rfl, by decide, by decide⟩ rM_bl (rM_mv hP hK) (va_recv hK hP (ci := 1) (q0 := 0) rfl rfl) rfl hl.1 rfl (Nat.le_of_ble_eq_true rfl) dX1_rest_3 ⟨Nat.zero_le _, Nat.zero_le _⟩ rfl ?_
  have hi6 := inZ_or f 0 (k - 1)
  refine zi_fne (tgt := 13) hx hb dX1_rest_6 (by decide) (by omega) (fun hc6 => ?_) (fun hc6 => ?_)
  · refine lv_iload_n hx hb dX1_rest_13 rfl (lv_at hl 2 rfl) ?_
    refine zi_i2l hx hb dX1_rest_14 (by omega) ?_
    refine zl_const hx hb 0 dX1_rest_15 (by decide) ?_
    refine zl_ldc hx hb 7 hown (hT _ tb_436) (by decide) dX1_rest_16 ?_
    refine rd_S (As := [.long (lZ a), .long (lZ 0), .long (lZ 7)]) (rest := [.ref mo]) (st1 := [.int (iZ (inZ a 0 7)), .ref mo]) S (k_X1_in l a 0 7 (by omega) (by omega) (by omega)) tb_437 tb_438 tb_2 tb_439 hd_X1_in ⟨rfl, rfl, by decide, by decide⟩ bl_T (fun _ _ _ => trivial) rfl hl.1 rfl (Nat.le_of_ble_eq_true rfl) dX1_rest_19 ⟨Nat.zero_le _, Nat.zero_le _⟩ rfl ?_
    have hi22 := inZ_or a 0 7
    refine zi_feq (tgt := 29) hx hb dX1_rest_22 (by decide) (by omega) (fun hc22 => ?_) (fun hc22 => ?_)
    · refine zi_const hx hb 2 dX1_rest_29 ?_
      exfalso
      omega
    · refine zi_const hx hb 0 dX1_rest_25 ?_
      refine lv_goto (tgt := 30) hx hb dX1_rest_26 (by decide) ?_
      exfalso
      omega
  · refine zi_const hx hb 1 dX1_rest_9 ?_
    refine lv_goto (tgt := 30) hx hb dX1_rest_10 (by decide) ?_
    refine va_put (D := D) (ci := 1) (v := .int (iZ 1)) (ty := .int) (C := RX1) (T := TX1) (N := 8) hx hb hT inX1 tyX1 tyX1_ok nmX1 hown hK hP (dM_D hd hA) hS 0 rfl rfl 0 (by decide) (hT _ tb_402) (fun _ h9 => h9) rfl (by decide +kernel) rfl rfl (Nat.le_of_ble_eq_true rfl) dX1_rest_30 (fun H locs hP _ hS => ?_)
    have hP : va_P D vwCl (mX mo na cI cJ 1 k V) H := hP
    refine lv_aload_n hx hb dX1_rest_33 rfl (lv_at hl 0 rfl) ?_
    refine va_get (D := D) (ci := 1) (C := RX1) (T := TX1) (N := 8) hx hb hT inX1 hown hK hP 0 rfl rfl 0 (by decide) (hT _ tb_402) (fun _ h9 => h9) rfl dX1_rest_34 ?_
    refine zi_fgt (tgt := 45) hx hb dX1_rest_37 (by decide) (by omega) (fun hc37 => ?_) (fun hc37 => ?_)
    · refine zi_const hx hb 0 dX1_rest_45 ?_
      exact wm_iret hx hb hr hlk hP rfl rfl rfl hS (congrArg (fun z => some (Value.int (iZ z))) (show (0 : Int) = 0 from rfl)) dX1_rest_46
    · exfalso
      omega
set_option maxHeartbeats 4000000 in
set_option maxRecDepth 100000 in
theorem kA_X1_rest (l : Launch) (D : va_G) (mo : Nat) (na : Nat → Nat) (cI cJ : ClassId) (c0 k : Int) (V : Nat → Nat → Int) (f a : Int) (hd : dM mo na) (hk : 0 ≤ k ∧ k ≤ 60) (hf : 0 ≤ f ∧ f < k) (ha0 : -2147483648 ≤ a ∧ a ≤ 2147483647) (h0 : ¬ (0 ≤ a ∧ a < 8)) : wm_M l yX1_rest cX1_rest 3 (some .int) ({ frames := 3, cells := 0, slots := 0, locals := 74 }) [.int (iZ f), .int (iZ a)] D mo na cI cJ c0 k V (some (.int (iZ 0))) 2 k (fun Z => Z = V) := by
  refine wm_of (by decide) rfl (Nat.le_of_ble_eq_true rfl) ?_
  intro p e s m below meth c A hAe S hr hlk hP hK hA hAn hS ls hl
  obtain ⟨hx, hb, hml, hown, hT⟩ := id S
  have hl : lv_has ls 3 [(0, .ref mo), (1, .int (iZ f)), (2, .int (iZ a))] := hl
  refine lv_aload_n hx hb dX1_rest_0 rfl (lv_at hl 0 rfl) ?_
  refine lv_aload_n hx hb dX1_rest_1 rfl (lv_at hl 0 rfl) ?_
  refine lv_iload_n hx hb dX1_rest_2 rfl (lv_at hl 1 rfl) ?_
  refine rd_V (As := [.int (iZ f)]) (rest := [.ref mo]) (st1 := [.int (iZ (inZ f 0 (k - 1))), .ref mo]) S (k_X1_isThere l D mo na cI cJ c0 k V f (by omega) (by omega)) tb_466 tb_468 ts_X1_isThere tb_2 tb_469 hd_X1_isThere ⟨rfl, rfl, by decide, by decide⟩ rM_bl (rM_mv hP hK) (va_recv hK hP (ci := 1) (q0 := 0) rfl rfl) rfl hl.1 rfl (Nat.le_of_ble_eq_true rfl) dX1_rest_3 ⟨Nat.zero_le _, Nat.zero_le _⟩ rfl ?_
  have hi6 := inZ_or f 0 (k - 1)
  refine zi_fne (tgt := 13) hx hb dX1_rest_6 (by decide) (by omega) (fun hc6 => ?_) (fun hc6 => ?_)
  · refine lv_iload_n hx hb dX1_rest_13 rfl (lv_at hl 2 rfl) ?_
    refine zi_i2l hx hb dX1_rest_14 (by omega) ?_
    refine zl_const hx hb 0 dX1_rest_15 (by decide) ?_
    refine zl_ldc hx hb 7 hown (hT _ tb_436) (by decide) dX1_rest_16 ?_
    refine rd_S (As := [.long (lZ a), .long (lZ 0), .long (lZ 7)]) (rest := [.ref mo]) (st1 := [.int (iZ (inZ a 0 7)), .ref mo]) S (k_X1_in l a 0 7 (by omega) (by omega) (by omega)) tb_437 tb_438 tb_2 tb_439 hd_X1_in ⟨rfl, rfl, by decide, by decide⟩ bl_T (fun _ _ _ => trivial) rfl hl.1 rfl (Nat.le_of_ble_eq_true rfl) dX1_rest_19 ⟨Nat.zero_le _, Nat.zero_le _⟩ rfl ?_
    have hi22 := inZ_or a 0 7
    refine zi_feq (tgt := 29) hx hb dX1_rest_22 (by decide) (by omega) (fun hc22 => ?_) (fun hc22 => ?_)
    · refine zi_const hx hb 2 dX1_rest_29 ?_
      refine va_put (D := D) (ci := 1) (v := .int (iZ 2)) (ty := .int) (C := RX1) (T := TX1) (N := 8) hx hb hT inX1 tyX1 tyX1_ok nmX1 hown hK hP (dM_D hd hA) hS 0 rfl rfl 0 (by decide) (hT _ tb_402) (fun _ h9 => h9) rfl (by decide +kernel) rfl rfl (Nat.le_of_ble_eq_true rfl) dX1_rest_30 (fun H locs hP _ hS => ?_)
      have hP : va_P D vwCl (mX mo na cI cJ 2 k V) H := hP
      refine lv_aload_n hx hb dX1_rest_33 rfl (lv_at hl 0 rfl) ?_
      refine va_get (D := D) (ci := 1) (C := RX1) (T := TX1) (N := 8) hx hb hT inX1 hown hK hP 0 rfl rfl 0 (by decide) (hT _ tb_402) (fun _ h9 => h9) rfl dX1_rest_34 ?_
      refine zi_fgt (tgt := 45) hx hb dX1_rest_37 (by decide) (by omega) (fun hc37 => ?_) (fun hc37 => ?_)
      · refine zi_const hx hb 0 dX1_rest_45 ?_
        exact wm_iret hx hb hr hlk hP rfl rfl rfl hS (congrArg (fun z => some (Value.int (iZ z))) (show (0 : Int) = 0 from rfl)) dX1_rest_46
      · exfalso
        omega
    · refine zi_const hx hb 0 dX1_rest_25 ?_
      refine lv_goto (tgt := 30) hx hb dX1_rest_26 (by decide) ?_
      exfalso
      omega
  · refine zi_const hx hb 1 dX1_rest_9 ?_
    refine lv_goto (tgt := 30) hx hb dX1_rest_10 (by decide) ?_
    exfalso
    omega
set_option maxHeartbeats 4000000 in
set_option maxRecDepth 100000 in
theorem kO_X1_integrate (l : Launch) (D : va_G) (mo : Nat) (na : Nat → Nat) (cI cJ : ClassId) (c0 k : Int) (V : Nat → Nat → Int) (f : Int) (hd : dM mo na) (hk : 0 ≤ k ∧ k ≤ 60) (hf0 : -2147483648 ≤ f ∧ f ≤ 2147483647) (h0 : ¬ (0 ≤ f ∧ f < k)) : wm_M l yX1_integrate cX1_integrate 6 (some .int) ({ frames := 3, cells := 0, slots := 0, locals := 74 }) [.int (iZ f)] D mo na cI cJ c0 k V (some (.int (iZ 0))) 1 k (fun Z => Z = V) := by
  refine wm_of (by decide) rfl (Nat.le_of_ble_eq_true rfl) ?_
  intro p e s m below meth c A hAe S hr hlk hP hK hA hAn hS ls hl
  obtain ⟨hx, hb, hml, hown, hT⟩ := id S
  have hl : lv_has ls 6 [(0, .ref mo), (1, .int (iZ f))] := hl
  refine lv_aload_n hx hb dX1_integrate_0 rfl (lv_at hl 0 rfl) ?_
  refine lv_iload_n hx hb dX1_integrate_1 rfl (lv_at hl 1 rfl) ?_
  refine lv_iload_n hx hb dX1_integrate_2 rfl (lv_at hl 1 rfl) ?_
  refine wm_V (As := [.int (iZ f), .int (iZ f)]) (rest := []) (st1 := [.int (iZ 0)]) (c1 := 1) (k1 := k) S (kO_X1_may l D mo na cI cJ c0 k V f f hd hk (by omega) (by omega) (by omega)) tb_462 tb_464 ts_X1_may tb_2 tb_465 hd_X1_may ⟨rfl, rfl, by decide, by decide⟩ hP hK hS hA hAn rfl hl.1 rfl (Nat.le_of_ble_eq_true rfl) dX1_integrate_3 ⟨Nat.zero_le _, Nat.zero_le _⟩ rfl (fun V1 H locs hRV1 hP hS _ _ => ?_)
  refine zi_fne (tgt := 11) hx hb dX1_integrate_6 (by decide) (by omega) (fun hc6 => ?_) (fun hc6 => ?_)
  · exfalso
    omega
  · refine zi_const hx hb 0 dX1_integrate_9 ?_
    exact wm_iret hx hb hr hlk hP hRV1 rfl rfl hS (congrArg (fun z => some (Value.int (iZ z))) (show (0 : Int) = 0 from rfl)) dX1_integrate_10
set_option maxHeartbeats 4000000 in
set_option maxRecDepth 100000 in
theorem kS_X1_integrate (l : Launch) (D : va_G) (mo : Nat) (na : Nat → Nat) (cI cJ : ClassId) (c0 k : Int) (V : Nat → Nat → Int) (f : Int) (hd : dM mo na) (hk : k = 60) (hf : 0 ≤ f ∧ f < k) : wm_M l yX1_integrate cX1_integrate 6 (some .int) ({ frames := 3, cells := 0, slots := 0, locals := 74 }) [.int (iZ f)] D mo na cI cJ c0 k V (some (.int (iZ 0))) 2 k (fun Z => Z = V) := by
  refine wm_of (by decide) rfl (Nat.le_of_ble_eq_true rfl) ?_
  intro p e s m below meth c A hAe S hr hlk hP hK hA hAn hS ls hl
  obtain ⟨hx, hb, hml, hown, hT⟩ := id S
  have hl : lv_has ls 6 [(0, .ref mo), (1, .int (iZ f))] := hl
  refine lv_aload_n hx hb dX1_integrate_0 rfl (lv_at hl 0 rfl) ?_
  refine lv_iload_n hx hb dX1_integrate_1 rfl (lv_at hl 1 rfl) ?_
  refine lv_iload_n hx hb dX1_integrate_2 rfl (lv_at hl 1 rfl) ?_
  refine wm_V (As := [.int (iZ f), .int (iZ f)]) (rest := []) (st1 := [.int (iZ 0)]) (c1 := 2) (k1 := k) S (kS_X1_may l D mo na cI cJ c0 k V f f hd (by omega) (by omega) (by omega)) tb_462 tb_464 ts_X1_may tb_2 tb_465 hd_X1_may ⟨rfl, rfl, by decide, by decide⟩ hP hK hS hA hAn rfl hl.1 rfl (Nat.le_of_ble_eq_true rfl) dX1_integrate_3 ⟨Nat.zero_le _, Nat.zero_le _⟩ rfl (fun V1 H locs hRV1 hP hS _ _ => ?_)
  refine zi_fne (tgt := 11) hx hb dX1_integrate_6 (by decide) (by omega) (fun hc6 => ?_) (fun hc6 => ?_)
  · exfalso
    omega
  · refine zi_const hx hb 0 dX1_integrate_9 ?_
    exact wm_iret hx hb hr hlk hP hRV1 rfl rfl hS (congrArg (fun z => some (Value.int (iZ z))) (show (0 : Int) = 0 from rfl)) dX1_integrate_10
set_option maxHeartbeats 4000000 in
set_option maxRecDepth 100000 in
theorem kO_X1_value (l : Launch) (D : va_G) (mo : Nat) (na : Nat → Nat) (cI cJ : ClassId) (c0 k : Int) (V : Nat → Nat → Int) (f x1 l1 e1 : Int) (hd : dM mo na) (hk : 0 ≤ k ∧ k ≤ 60) (hf0 : -2147483648 ≤ f ∧ f ≤ 2147483647) (h0 : ¬ (0 ≤ f ∧ f < k)) : wm_M l yX1_value cX1_value 20 (some .int) ({ frames := 3, cells := 0, slots := 0, locals := 76 }) [.int (iZ f), .long (lZ x1), .long (lZ l1), .long (lZ e1)] D mo na cI cJ c0 k V (some (.int (iZ 0))) 1 k (fun Z => Z = V) := by
  refine wm_of (by decide) rfl (Nat.le_of_ble_eq_true rfl) ?_
  intro p e s m below meth c A hAe S hr hlk hP hK hA hAn hS ls hl
  obtain ⟨hx, hb, hml, hown, hT⟩ := id S
  have hl : lv_has ls 20 [(0, .ref mo), (1, .int (iZ f)), (2, .long (lZ x1)), (4, .long (lZ l1)), (6, .long (lZ e1))] := hl
  refine lv_aload_n hx hb dX1_value_0 rfl (lv_at hl 0 rfl) ?_
  refine lv_aload_n hx hb dX1_value_1 rfl (lv_at hl 0 rfl) ?_
  refine lv_iload_n hx hb dX1_value_2 rfl (lv_at hl 1 rfl) ?_
  refine rd_V (As := [.int (iZ f)]) (rest := [.ref mo]) (st1 := [.int (iZ (inZ f 0 (k - 1))), .ref mo]) S (k_X1_isThere l D mo na cI cJ c0 k V f (by omega) (by omega)) tb_466 tb_468 ts_X1_isThere tb_2 tb_469 hd_X1_isThere ⟨rfl, rfl, by decide, by decide⟩ rM_bl (rM_mv hP hK) (va_recv hK hP (ci := 1) (q0 := 0) rfl rfl) rfl hl.1 rfl (Nat.le_of_ble_eq_true rfl) dX1_value_3 ⟨Nat.zero_le _, Nat.zero_le _⟩ rfl ?_
  have hi6 := inZ_or f 0 (k - 1)
  refine zi_feq (tgt := 13) hx hb dX1_value_6 (by decide) (by omega) (fun hc6 => ?_) (fun hc6 => ?_)
  · refine zi_const hx hb 1 dX1_value_13 ?_
    refine va_put (D := D) (ci := 1) (v := .int (iZ 1)) (ty := .int) (C := RX1) (T := TX1) (N := 8) hx hb hT inX1 tyX1 tyX1_ok nmX1 hown hK hP (dM_D hd hA) hS 0 rfl rfl 0 (by decide) (hT _ tb_402) (fun _ h9 => h9) rfl (by decide +kernel) rfl rfl (Nat.le_of_ble_eq_true rfl) dX1_value_14 (fun H locs hP _ hS => ?_)
    have hP : va_P D vwCl (mX mo na cI cJ 1 k V) H := hP
    refine lv_aload_n hx hb dX1_value_17 rfl (lv_at hl 0 rfl) ?_
    refine va_get (D := D) (ci := 1) (C := RX1) (T := TX1) (N := 8) hx hb hT inX1 hown hK hP 0 rfl rfl 0 (by decide) (hT _ tb_402) (fun _ h9 => h9) rfl dX1_value_18 ?_
    refine zi_fle (tgt := 26) hx hb dX1_value_21 (by decide) (by omega) (fun hc21 => ?_) (fun hc21 => ?_)
    · exfalso
      omega
    · refine zi_const hx hb 0 dX1_value_24 ?_
      exact wm_iret hx hb hr hlk hP rfl rfl rfl hS (congrArg (fun z => some (Value.int (iZ z))) (show (0 : Int) = 0 from rfl)) dX1_value_25
  · refine zi_const hx hb 0 dX1_value_9 ?_
    refine lv_goto (tgt := 14) hx hb dX1_value_10 (by decide) ?_
    exfalso
    omega
set_option maxHeartbeats 4000000 in
set_option maxRecDepth 100000 in
theorem kO_X1_times (l : Launch) (D : va_G) (mo : Nat) (na : Nat → Nat) (cI cJ : ClassId) (c0 k : Int) (V : Nat → Nat → Int) (f g : Int) (hd : dM mo na) (hk : 0 ≤ k ∧ k ≤ 60) (hf0 : -2147483648 ≤ f ∧ f ≤ 2147483647) (hg0 : -2147483648 ≤ g ∧ g ≤ 2147483647) (h0 : ¬ ((0 ≤ f ∧ f < k) ∧ (0 ≤ g ∧ g < k))) : wm_M l yX1_times cX1_times 9 (some .int) ({ frames := 3, cells := 0, slots := 0, locals := 68 }) [.int (iZ f), .int (iZ g)] D mo na cI cJ c0 k V (some (.int (iZ 0))) 1 k (fun Z => Z = V) := by
  refine wm_of (by decide) rfl (Nat.le_of_ble_eq_true rfl) ?_
  intro p e s m below meth c A hAe S hr hlk hP hK hA hAn hS ls hl
  obtain ⟨hx, hb, hml, hown, hT⟩ := id S
  have hl : lv_has ls 9 [(0, .ref mo), (1, .int (iZ f)), (2, .int (iZ g))] := hl
  refine lv_aload_n hx hb dX1_times_0 rfl (lv_at hl 0 rfl) ?_
  refine lv_iload_n hx hb dX1_times_1 rfl (lv_at hl 1 rfl) ?_
  refine lv_iload_n hx hb dX1_times_2 rfl (lv_at hl 2 rfl) ?_
  refine wm_V (As := [.int (iZ f), .int (iZ g)]) (rest := []) (st1 := [.int (iZ 0)]) (c1 := 1) (k1 := k) S (kO_X1_may l D mo na cI cJ c0 k V f g hd hk (by omega) (by omega) (by omega)) tb_462 tb_464 ts_X1_may tb_2 tb_465 hd_X1_may ⟨rfl, rfl, by decide, by decide⟩ hP hK hS hA hAn rfl hl.1 rfl (Nat.le_of_ble_eq_true rfl) dX1_times_3 ⟨Nat.zero_le _, Nat.zero_le _⟩ rfl (fun V1 H locs hRV1 hP hS _ _ => ?_)
  refine zi_fne (tgt := 11) hx hb dX1_times_6 (by decide) (by omega) (fun hc6 => ?_) (fun hc6 => ?_)
  · exfalso
    omega
  · refine zi_const hx hb 0 dX1_times_9 ?_
    exact wm_iret hx hb hr hlk hP hRV1 rfl rfl hS (congrArg (fun z => some (Value.int (iZ z))) (show (0 : Int) = 0 from rfl)) dX1_times_10
set_option maxHeartbeats 4000000 in
set_option maxRecDepth 100000 in
theorem kS_X1_times (l : Launch) (D : va_G) (mo : Nat) (na : Nat → Nat) (cI cJ : ClassId) (c0 k : Int) (V : Nat → Nat → Int) (f g : Int) (hd : dM mo na) (hk : k = 60) (hf : 0 ≤ f ∧ f < k) (hg : 0 ≤ g ∧ g < k) : wm_M l yX1_times cX1_times 9 (some .int) ({ frames := 3, cells := 0, slots := 0, locals := 68 }) [.int (iZ f), .int (iZ g)] D mo na cI cJ c0 k V (some (.int (iZ 0))) 2 k (fun Z => Z = V) := by
  refine wm_of (by decide) rfl (Nat.le_of_ble_eq_true rfl) ?_
  intro p e s m below meth c A hAe S hr hlk hP hK hA hAn hS ls hl
  obtain ⟨hx, hb, hml, hown, hT⟩ := id S
  have hl : lv_has ls 9 [(0, .ref mo), (1, .int (iZ f)), (2, .int (iZ g))] := hl
  refine lv_aload_n hx hb dX1_times_0 rfl (lv_at hl 0 rfl) ?_
  refine lv_iload_n hx hb dX1_times_1 rfl (lv_at hl 1 rfl) ?_
  refine lv_iload_n hx hb dX1_times_2 rfl (lv_at hl 2 rfl) ?_
  refine wm_V (As := [.int (iZ f), .int (iZ g)]) (rest := []) (st1 := [.int (iZ 0)]) (c1 := 2) (k1 := k) S (kS_X1_may l D mo na cI cJ c0 k V f g hd (by omega) (by omega) (by omega)) tb_462 tb_464 ts_X1_may tb_2 tb_465 hd_X1_may ⟨rfl, rfl, by decide, by decide⟩ hP hK hS hA hAn rfl hl.1 rfl (Nat.le_of_ble_eq_true rfl) dX1_times_3 ⟨Nat.zero_le _, Nat.zero_le _⟩ rfl (fun V1 H locs hRV1 hP hS _ _ => ?_)
  refine zi_fne (tgt := 11) hx hb dX1_times_6 (by decide) (by omega) (fun hc6 => ?_) (fun hc6 => ?_)
  · exfalso
    omega
  · refine zi_const hx hb 0 dX1_times_9 ?_
    exact wm_iret hx hb hr hlk hP hRV1 rfl rfl hS (congrArg (fun z => some (Value.int (iZ z))) (show (0 : Int) = 0 from rfl)) dX1_times_10
set_option maxHeartbeats 4000000 in
set_option maxRecDepth 100000 in
theorem kO_X1_derive (l : Launch) (D : va_G) (mo : Nat) (na : Nat → Nat) (cI cJ : ClassId) (c0 k : Int) (V : Nat → Nat → Int) (f : Int) (hd : dM mo na) (hk : 0 ≤ k ∧ k ≤ 60) (hf0 : -2147483648 ≤ f ∧ f ≤ 2147483647) (h0 : ¬ (0 ≤ f ∧ f < k)) : wm_M l yX1_derive cX1_derive 7 (some .int) ({ frames := 3, cells := 0, slots := 0, locals := 68 }) [.int (iZ f)] D mo na cI cJ c0 k V (some (.int (iZ 0))) 1 k (fun Z => Z = V) := by
  refine wm_of (by decide) rfl (Nat.le_of_ble_eq_true rfl) ?_
  intro p e s m below meth c A hAe S hr hlk hP hK hA hAn hS ls hl
  obtain ⟨hx, hb, hml, hown, hT⟩ := id S
  have hl : lv_has ls 7 [(0, .ref mo), (1, .int (iZ f))] := hl
  refine lv_aload_n hx hb dX1_derive_0 rfl (lv_at hl 0 rfl) ?_
  refine lv_iload_n hx hb dX1_derive_1 rfl (lv_at hl 1 rfl) ?_
  refine lv_iload_n hx hb dX1_derive_2 rfl (lv_at hl 1 rfl) ?_
  refine wm_V (As := [.int (iZ f), .int (iZ f)]) (rest := []) (st1 := [.int (iZ 0)]) (c1 := 1) (k1 := k) S (kO_X1_may l D mo na cI cJ c0 k V f f hd hk (by omega) (by omega) (by omega)) tb_462 tb_464 ts_X1_may tb_2 tb_465 hd_X1_may ⟨rfl, rfl, by decide, by decide⟩ hP hK hS hA hAn rfl hl.1 rfl (Nat.le_of_ble_eq_true rfl) dX1_derive_3 ⟨Nat.zero_le _, Nat.zero_le _⟩ rfl (fun V1 H locs hRV1 hP hS _ _ => ?_)
  refine zi_fne (tgt := 11) hx hb dX1_derive_6 (by decide) (by omega) (fun hc6 => ?_) (fun hc6 => ?_)
  · exfalso
    omega
  · refine zi_const hx hb 0 dX1_derive_9 ?_
    exact wm_iret hx hb hr hlk hP hRV1 rfl rfl hS (congrArg (fun z => some (Value.int (iZ z))) (show (0 : Int) = 0 from rfl)) dX1_derive_10
set_option maxHeartbeats 4000000 in
set_option maxRecDepth 100000 in
theorem kS_X1_derive (l : Launch) (D : va_G) (mo : Nat) (na : Nat → Nat) (cI cJ : ClassId) (c0 k : Int) (V : Nat → Nat → Int) (f : Int) (hd : dM mo na) (hk : k = 60) (hf : 0 ≤ f ∧ f < k) : wm_M l yX1_derive cX1_derive 7 (some .int) ({ frames := 3, cells := 0, slots := 0, locals := 68 }) [.int (iZ f)] D mo na cI cJ c0 k V (some (.int (iZ 0))) 2 k (fun Z => Z = V) := by
  refine wm_of (by decide) rfl (Nat.le_of_ble_eq_true rfl) ?_
  intro p e s m below meth c A hAe S hr hlk hP hK hA hAn hS ls hl
  obtain ⟨hx, hb, hml, hown, hT⟩ := id S
  have hl : lv_has ls 7 [(0, .ref mo), (1, .int (iZ f))] := hl
  refine lv_aload_n hx hb dX1_derive_0 rfl (lv_at hl 0 rfl) ?_
  refine lv_iload_n hx hb dX1_derive_1 rfl (lv_at hl 1 rfl) ?_
  refine lv_iload_n hx hb dX1_derive_2 rfl (lv_at hl 1 rfl) ?_
  refine wm_V (As := [.int (iZ f), .int (iZ f)]) (rest := []) (st1 := [.int (iZ 0)]) (c1 := 2) (k1 := k) S (kS_X1_may l D mo na cI cJ c0 k V f f hd (by omega) (by omega) (by omega)) tb_462 tb_464 ts_X1_may tb_2 tb_465 hd_X1_may ⟨rfl, rfl, by decide, by decide⟩ hP hK hS hA hAn rfl hl.1 rfl (Nat.le_of_ble_eq_true rfl) dX1_derive_3 ⟨Nat.zero_le _, Nat.zero_le _⟩ rfl (fun V1 H locs hRV1 hP hS _ _ => ?_)
  refine zi_fne (tgt := 11) hx hb dX1_derive_6 (by decide) (by omega) (fun hc6 => ?_) (fun hc6 => ?_)
  · exfalso
    omega
  · refine zi_const hx hb 0 dX1_derive_9 ?_
    exact wm_iret hx hb hr hlk hP hRV1 rfl rfl hS (congrArg (fun z => some (Value.int (iZ z))) (show (0 : Int) = 0 from rfl)) dX1_derive_10
