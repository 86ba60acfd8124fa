theorem em_ml (a b v : Int) : (a - v % 32003 * b) % 32003 = (a + -(v % 32003) % 32003 * b) % 32003 := by
  have h1 : (-(v % 32003) % 32003 * b) % 32003 = (-(v % 32003) * b) % 32003 := by rw [Int.mul_emod, Int.emod_emod_of_dvd _ (Int.dvd_refl _), ← Int.mul_emod]
  have h2 : -(v % 32003) * b = -(v % 32003 * b) := Int.neg_mul _ _
  rw [h2] at h1
  omega
set_option maxHeartbeats 4000000 in
set_option maxRecDepth 100000 in
theorem k_X1_less (l : Launch) (D : va_G) (mo : Nat) (na : Nat → Nat) (cI cJ : ClassId) (c0 k : Int) (V : Nat → Nat → Int) (f g v : Int) (hd : dM mo na) (hN : ∀ j, 0 ≤ V 0 j ∧ V 0 j < 32003) (hk : 0 ≤ k ∧ k < 60) (hf : 0 ≤ f ∧ f < k) (hg : 0 ≤ g ∧ g < k) (hv0 : -9223372036854775808 ≤ v ∧ v ≤ 9223372036854775807) : wm_M l yX1_less cX1_less 6 (some .int) ({ frames := 3, cells := 0, slots := 0, locals := 68 }) [.int (iZ f), .int (iZ g), .long (lZ v)] D mo na cI cJ c0 k V (some (.int (iZ k))) 0 (k + 1) (fun Z => (∀ j : Nat, j < 72 → Z 0 ((k * 72).toNat + j) = (V 0 ((f * 72).toNat + j) + -(v % 32003) % 32003 * V 0 ((g * 72).toNat + j)) % 32003) ∧ ∀ j : Nat, (j : Int) < k * 72 ∨ k * 72 + 72 ≤ (j : Int) → Z 0 j = V 0 j) := by
  refine wm_of (by decide) rfl (Nat.le_of_ble_eq_true rfl) ?_
  intro p e s m below meth c A hAe S hr hlk hP hK hA hAn hS ls hl
  obtain ⟨hx, hb, hml, hown, hT⟩ := id S
  have hl : lv_has ls 6 [(0, .ref mo), (1, .int (iZ f)), (2, .int (iZ g)), (3, .long (lZ v))] := hl
  refine lv_aload_n hx hb dX1_less_0 rfl (lv_at hl 0 rfl) ?_
  refine lv_iload_n hx hb dX1_less_1 rfl (lv_at hl 1 rfl) ?_
  refine lv_iload_n hx hb dX1_less_2 rfl (lv_at hl 2 rfl) ?_
  refine wm_V (As := [.int (iZ f), .int (iZ g)]) (rest := []) (st1 := [.int (iZ 1)]) (c1 := 0) (k1 := k) S (k_X1_may l D mo na cI cJ c0 k V f g hd hN (by omega) (by omega) (by omega)) tb_462 tb_464 ts_X1_may tb_2 tb_465 hd_X1_may ⟨rfl, rfl, by decide, by decide⟩ hP hK hS hA hAn rfl hl.1 rfl (Nat.le_of_ble_eq_true rfl) dX1_less_3 ⟨Nat.zero_le _, Nat.zero_le _⟩ rfl (fun V1 H locs hRV1 hP hS _ _ => ?_)
  refine zi_fne (tgt := 11) hx hb dX1_less_6 (by decide) (by omega) (fun hc6 => ?_) (fun hc6 => ?_)
  · refine zi_const hx hb 0 dX1_less_11 ?_
    refine lv_istore (lv' := [(5, .int (iZ 0)), (0, .ref mo), (1, .int (iZ f)), (2, .int (iZ g)), (3, .long (lZ v))]) hx hb dX1_less_12 hl (by decide) rfl (fun ls hl => ?_)
    refine lp_goM (nL := 6) (α := (Nat → Nat → Int) × Int) (fun z => [(0, .ref mo), (1, .int (iZ f)), (2, .int (iZ g)), (3, .long (lZ v)), (5, .int (iZ z.2))]) (fun _ => 0) (fun _ => k) (fun z => z.1) (fun m14 z => 0 ≤ z.2 ∧ z.2 + (m14 : Int) = 72 ∧ (∀ j : Nat, (j : Int) < z.2 → z.1 1 j = (V 0 ((f * 72).toNat + j) + -(v % 32003) % 32003 * V 0 ((g * 72).toNat + j)) % 32003) ∧ ∀ b, b ≠ 1 → z.1 b = V1 b) ?_ 72 (V1, (0 : Int)) (by (try dsimp only); exact ⟨by omega, by omega, fun j hj => by omega, fun b _ => rfl⟩) _ _ hP hS ls (lv_sub hl [1, 2, 3, 4, 0] rfl)
    intro m14 z2 hI14 ih14 H locs hP hS ls hl
    obtain ⟨Y, i⟩ := z2
    have hl : lv_has ls 6 [(0, .ref mo), (1, .int (iZ f)), (2, .int (iZ g)), (3, .long (lZ v)), (5, .int (iZ i))] := hl
    have hI14 : 0 ≤ i ∧ i + (m14 : Int) = 72 ∧ (∀ j : Nat, (j : Int) < i → Y 1 j = (V 0 ((f * 72).toNat + j) + -(v % 32003) % 32003 * V 0 ((g * 72).toNat + j)) % 32003) ∧ ∀ b, b ≠ 1 → Y b = V1 b := hI14
    have hP : va_P D vwCl (mX mo na cI cJ 0 k Y) H := hP
    have ya : i < 72 → Y 2 i.toNat = V 0 ((f * 72).toNat + i.toNat) := fun h => by rw [hI14.2.2.2 2 (by decide), hRV1.1 _ (by omega)]
    have yb : i < 72 → Y 3 i.toNat = V 0 ((g * 72).toNat + i.toNat) := fun h => by rw [hI14.2.2.2 3 (by decide), hRV1.2.1 _ (by omega)]
    have na1 := hN ((f * 72).toNat + i.toNat)
    have na2 := hN ((g * 72).toNat + i.toNat)
    have mm := mul_rng (a := v % 32003) (by omega) na2
    refine lv_iload hx hb dX1_less_14 (lv_at hl 4 rfl) ?_
    refine zi_bi hx hb 72 dX1_less_16 (by decide) ?_
    refine zi_cge (tgt := 57) hx hb dX1_less_18 (by decide) (by omega) (by omega) (fun hc18 => ?_) (fun hc18 => ?_)
    · refine lv_aload_n hx hb dX1_less_57 rfl (lv_at hl 0 rfl) ?_
      refine wm_V (As := []) (rest := []) (st1 := [.int (iZ k)]) (c1 := 0) (k1 := k + 1) S (k_X1_keep l D mo na cI cJ 0 k Y  hd (by omega)) tb_449 tb_451 ts_X1_keep tb_2 tb_452 hd_X1_keep ⟨rfl, rfl, by decide, by decide⟩ hP hK hS hA hAn rfl hl.1 rfl (Nat.le_of_ble_eq_true rfl) dX1_less_58 ⟨Nat.zero_le _, Nat.zero_le _⟩ rfl (fun V3 H locs hRV3 hP hS _ _ => ?_)
      exact wm_iret hx hb hr hlk hP (⟨fun j hj => by rw [hRV3.1 j hj]; exact hI14.2.2.1 j (by omega), fun j hj => by rw [hRV3.2 j hj]; exact (congrFun ((hI14.2.2.2 0 (by decide)).trans hRV1.2.2) j)⟩) rfl rfl hS (congrArg (fun z => some (Value.int (iZ z))) (show (k : Int) = k from rfl)) dX1_less_61
    · have ya := ya (by omega)
      have yb := yb (by omega)
      rw [← ya] at na1
      rw [← yb] at na2 mm
      refine lv_aload_n hx hb dX1_less_21 rfl (lv_at hl 0 rfl) ?_
      refine va_get (D := D) (ci := 1) (C := RX1) (T := TX1) (N := 8) hx hb hT inX1 hown hK hP 0 rfl rfl 3 (by decide) (hT _ tb_405) (fun _ h9 => h9) rfl dX1_less_22 ?_
      refine lv_iload hx hb dX1_less_25 (lv_at hl 4 rfl) ?_
      refine lv_aload_n hx hb dX1_less_27 rfl (lv_at hl 0 rfl) ?_
      refine va_get (D := D) (ci := 1) (C := RX1) (T := TX1) (N := 8) hx hb hT inX1 hown hK hP 0 rfl rfl 4 (by decide) (hT _ tb_406) (fun _ h9 => h9) rfl dX1_less_28 ?_
      refine lv_iload hx hb dX1_less_31 (lv_at hl 4 rfl) ?_
      refine va_lald hx hb hK hP 3 1 rfl rfl (iZ_in (by omega) (by omega) (by decide)) dX1_less_33 ?_
      refine zl_as (a := Y 2 ((i).toNat)) (by rw [iZ_cl (by omega) (by omega)]) ?_
      refine lv_lload_n hx hb dX1_less_34 rfl (lv_at hl 3 rfl) ?_
      refine rd_S (As := [.long (lZ v)]) (rest := [.long (lZ (Y 2 (i).toNat)), .int (iZ i), .ref (na 1)]) (st1 := [.long (lZ (v % 32003)), .long (lZ (Y 2 (i).toNat)), .int (iZ i), .ref (na 1)]) S (k_X1_modulo l v (by omega)) tb_445 tb_446 tb_2 tb_447 hd_X1_modulo ⟨rfl, rfl, by decide, by decide⟩ bl_T (fun _ _ _ => trivial) rfl hl.1 rfl (Nat.le_of_ble_eq_true rfl) dX1_less_35 ⟨Nat.zero_le _, Nat.zero_le _⟩ rfl ?_
      refine lv_aload_n hx hb dX1_less_38 rfl (lv_at hl 0 rfl) ?_
      refine va_get (D := D) (ci := 1) (C := RX1) (T := TX1) (N := 8) hx hb hT inX1 hown hK hP 0 rfl rfl 5 (by decide) (hT _ tb_407) (fun _ h9 => h9) rfl dX1_less_39 ?_
      refine lv_iload hx hb dX1_less_42 (lv_at hl 4 rfl) ?_
      refine va_lald hx hb hK hP 4 1 rfl rfl (iZ_in (by omega) (by omega) (by decide)) dX1_less_44 ?_
      refine zl_as (a := Y 3 ((i).toNat)) (by rw [iZ_cl (by omega) (by omega)]) ?_
      refine zl_mul hx hb dX1_less_45 ?_
      refine zl_sub hx hb dX1_less_46 ?_
      refine rd_S (As := [.long (lZ ((Y 2 (i).toNat) - ((v % 32003) * (Y 3 (i).toNat))))]) (rest := [.int (iZ i), .ref (na 1)]) (st1 := [.long (lZ (((Y 2 (i).toNat) - ((v % 32003) * (Y 3 (i).toNat))) % 32003)), .int (iZ i), .ref (na 1)]) S (k_X1_modulo l ((Y 2 (i).toNat) - ((v % 32003) * (Y 3 (i).toNat))) (by omega)) tb_445 tb_446 tb_2 tb_447 hd_X1_modulo ⟨rfl, rfl, by decide, by decide⟩ bl_T (fun _ _ _ => trivial) rfl hl.1 rfl (Nat.le_of_ble_eq_true rfl) dX1_less_47 ⟨Nat.zero_le _, Nat.zero_le _⟩ rfl ?_
      refine mm_l hx hb hK hP hd hA hS 1 72 rfl (fun g => rfl) (by omega) dX1_less_50 (fun H locs hP hS => ?_)
      obtain ⟨V4, eV4⟩ : ∃ Z : Nat → Nat → Int, Z = sV Y 1 (uZ (Y 1) (i).toNat (((Y 2 (i).toNat) - ((v % 32003) * (Y 3 (i).toNat))) % 32003)) := ⟨_, rfl⟩
      rw [← eV4] at hP
      refine zi_inc (lv' := [(5, .int (iZ (i + 1))), (0, .ref mo), (1, .int (iZ f)), (2, .int (iZ g)), (3, .long (lZ v))]) hx hb dX1_less_51 hl (k := 4) rfl (by decide) rfl (fun ls hl => ?_)
      refine lv_goto (tgt := 14) hx hb dX1_less_54 (by decide) ?_
      exact ih14 (m14 - 1) (V4, i + 1) (by omega) (by (try dsimp only); exact ⟨by omega, by omega, by rw [eV4, sV_a]; exact st_lt (P := fun j => (V 0 ((f * 72).toNat + j) + -(v % 32003) % 32003 * V 0 ((g * 72).toNat + j)) % 32003) hI14.2.2.1 hI14.1 (by (try dsimp only); rw [hI14.2.2.2 2 (by decide), hI14.2.2.2 3 (by decide), hRV1.1 _ (by omega), hRV1.2.1 _ (by omega), em_ml]), fun b hb9 => by rw [eV4, sV_b hb9]; exact hI14.2.2.2 b hb9⟩) _ _ hP hS ls (lv_sub hl [1, 2, 3, 4, 0] rfl)
  · exfalso
    omega
set_option maxHeartbeats 4000000 in
set_option maxRecDepth 100000 in
theorem kO_X1_less (l : Launch) (D : va_G) (mo : Nat) (na : Nat → Nat) (cI cJ : ClassId) (c0 k : Int) (V : Nat → Nat → Int) (f g v : Int) (hd : dM mo na) (hk : 0 ≤ k ∧ k ≤ 60) (hf0 : -2147483648 ≤ f ∧ f ≤ 2147483647) (hg0 : -2147483648 ≤ g ∧ g ≤ 2147483647) (hv0 : -9223372036854775808 ≤ v ∧ v ≤ 9223372036854775807) (h0 : ¬ ((0 ≤ f ∧ f < k) ∧ (0 ≤ g ∧ g < k))) : wm_M l yX1_less cX1_less 6 (some .int) ({ frames := 3, cells := 0, slots := 0, locals := 68 }) [.int (iZ f), .int (iZ g), .long (lZ v)] D mo na cI cJ c0 k V (some (.int (iZ 0))) 1 k (fun Z => Z = V) := by
  refine wm_of (by decide) rfl (Nat.le_of_ble_eq_true rfl) ?_
  intro p e s m below meth c A hAe S hr hlk hP hK hA hAn hS ls hl
  obtain ⟨hx, hb, hml, hown, hT⟩ := id S
  have hl : lv_has ls 6 [(0, .ref mo), (1, .int (iZ f)), (2, .int (iZ g)), (3, .long (lZ v))] := hl
  refine lv_aload_n hx hb dX1_less_0 rfl (lv_at hl 0 rfl) ?_
  refine lv_iload_n hx hb dX1_less_1 rfl (lv_at hl 1 rfl) ?_
  refine lv_iload_n hx hb dX1_less_2 rfl (lv_at hl 2 rfl) ?_
  refine wm_V (As := [.int (iZ f), .int (iZ g)]) (rest := []) (st1 := [.int (iZ 0)]) (c1 := 1) (k1 := k) S (kO_X1_may l D mo na cI cJ c0 k V f g hd hk (by omega) (by omega) (by omega)) tb_462 tb_464 ts_X1_may tb_2 tb_465 hd_X1_may ⟨rfl, rfl, by decide, by decide⟩ hP hK hS hA hAn rfl hl.1 rfl (Nat.le_of_ble_eq_true rfl) dX1_less_3 ⟨Nat.zero_le _, Nat.zero_le _⟩ rfl (fun V1 H locs hRV1 hP hS _ _ => ?_)
  refine zi_fne (tgt := 11) hx hb dX1_less_6 (by decide) (by omega) (fun hc6 => ?_) (fun hc6 => ?_)
  · exfalso
    omega
  · refine zi_const hx hb 0 dX1_less_9 ?_
    exact wm_iret hx hb hr hlk hP hRV1 rfl rfl hS (congrArg (fun z => some (Value.int (iZ z))) (show (0 : Int) = 0 from rfl)) dX1_less_10
set_option maxHeartbeats 4000000 in
set_option maxRecDepth 100000 in
theorem kS_X1_less (l : Launch) (D : va_G) (mo : Nat) (na : Nat → Nat) (cI cJ : ClassId) (c0 k : Int) (V : Nat → Nat → Int) (f g v : Int) (hd : dM mo na) (hk : k = 60) (hf : 0 ≤ f ∧ f < k) (hg : 0 ≤ g ∧ g < k) (hv0 : -9223372036854775808 ≤ v ∧ v ≤ 9223372036854775807) : wm_M l yX1_less cX1_less 6 (some .int) ({ frames := 3, cells := 0, slots := 0, locals := 68 }) [.int (iZ f), .int (iZ g), .long (lZ v)] D mo na cI cJ c0 k V (some (.int (iZ 0))) 2 k (fun Z => Z = V) := by
  refine wm_of (by decide) rfl (Nat.le_of_ble_eq_true rfl) ?_
  intro p e s m below meth c A hAe S hr hlk hP hK hA hAn hS ls hl
  obtain ⟨hx, hb, hml, hown, hT⟩ := id S
  have hl : lv_has ls 6 [(0, .ref mo), (1, .int (iZ f)), (2, .int (iZ g)), (3, .long (lZ v))] := hl
  refine lv_aload_n hx hb dX1_less_0 rfl (lv_at hl 0 rfl) ?_
  refine lv_iload_n hx hb dX1_less_1 rfl (lv_at hl 1 rfl) ?_
  refine lv_iload_n hx hb dX1_less_2 rfl (lv_at hl 2 rfl) ?_
  refine wm_V (As := [.int (iZ f), .int (iZ g)]) (rest := []) (st1 := [.int (iZ 0)]) (c1 := 2) (k1 := k) S (kS_X1_may l D mo na cI cJ c0 k V f g hd (by omega) (by omega) (by omega)) tb_462 tb_464 ts_X1_may tb_2 tb_465 hd_X1_may ⟨rfl, rfl, by decide, by decide⟩ hP hK hS hA hAn rfl hl.1 rfl (Nat.le_of_ble_eq_true rfl) dX1_less_3 ⟨Nat.zero_le _, Nat.zero_le _⟩ rfl (fun V1 H locs hRV1 hP hS _ _ => ?_)
  refine zi_fne (tgt := 11) hx hb dX1_less_6 (by decide) (by omega) (fun hc6 => ?_) (fun hc6 => ?_)
  · exfalso
    omega
  · refine zi_const hx hb 0 dX1_less_9 ?_
    exact wm_iret hx hb hr hlk hP hRV1 rfl rfl hS (congrArg (fun z => some (Value.int (iZ z))) (show (0 : Int) = 0 from rfl)) dX1_less_10
set_option maxHeartbeats 4000000 in
set_option maxRecDepth 100000 in
theorem k_X1_add (l : Launch) (D : va_G) (mo : Nat) (na : Nat → Nat) (cI cJ : ClassId) (c0 k : Int) (V : Nat → Nat → Int) (f g : Int) (hd : dM mo na) (hN : ∀ j, 0 ≤ V 0 j ∧ V 0 j < 32003) (hk : 0 ≤ k ∧ k < 60) (hf : 0 ≤ f ∧ f < k) (hg : 0 ≤ g ∧ g < k) : wm_M l yX1_add cX1_add 3 (some .int) ({ frames := 4, cells := 0, slots := 0, locals := 93 }) [.int (iZ f), .int (iZ g)] D mo na cI cJ c0 k V (some (.int (iZ k))) 0 (k + 1) (fun Z => (∀ j : Nat, j < 72 → Z 0 ((k * 72).toNat + j) = (V 0 ((f * 72).toNat + j) + 1 * V 0 ((g * 72).toNat + j)) % 32003) ∧ ∀ j : Nat, (j : Int) < k * 72 ∨ k * 72 + 72 ≤ (j : Int) → Z 0 j = V 0 j) := by
  refine wm_of (by decide) rfl (Nat.le_of_ble_eq_true rfl) ?_
  intro p e s m below meth c A hAe S hr hlk hP hK hA hAn hS ls hl
  obtain ⟨hx, hb, hml, hown, hT⟩ := id S
  have hl : lv_has ls 3 [(0, .ref mo), (1, .int (iZ f)), (2, .int (iZ g))] := hl
  refine lv_aload_n hx hb dX1_add_0 rfl (lv_at hl 0 rfl) ?_
  refine lv_iload_n hx hb dX1_add_1 rfl (lv_at hl 1 rfl) ?_
  refine lv_iload_n hx hb dX1_add_2 rfl (lv_at hl 2 rfl) ?_
  refine zl_ldc hx hb (-1) hown (hT _ tb_457) (by decide) dX1_add_3 ?_
  refine wm_V (As := [.int (iZ f), .int (iZ g), .long (lZ (-1))]) (rest := []) (st1 := [.int (iZ k)]) (c1 := 0) (k1 := k + 1) S (k_X1_less l D mo na cI cJ c0 k V f g (-1) hd hN (by omega) (by omega) (by omega) (by omega)) tb_458 tb_459 tb_460 tb_2 tb_461 hd_X1_less ⟨rfl, rfl, by decide, by decide⟩ hP hK hS hA hAn rfl hl.1 rfl (Nat.le_of_ble_eq_true rfl) dX1_add_6 ⟨Nat.zero_le _, Nat.zero_le _⟩ rfl (fun V1 H locs hRV1 hP hS _ _ => ?_)
  exact wm_iret hx hb hr hlk hP (⟨fun j hj => hRV1.1 j hj, hRV1.2⟩) rfl rfl hS (congrArg (fun z => some (Value.int (iZ z))) (show (k : Int) = k from rfl)) dX1_add_9
set_option maxHeartbeats 4000000 in
set_option maxRecDepth 100000 in
theorem kO_X1_add (l : Launch) (D : va_G) (mo : Nat) (na : Nat → Nat) (cI cJ : ClassId) (c0 k : Int) (V : Nat → Nat → Int) (f g : Int) (hd : dM mo na) (hk : 0 ≤ k ∧ k ≤ 60) (hf0 : -2147483648 ≤ f ∧ f ≤ 2147483647) (hg0 : -2147483648 ≤ g ∧ g ≤ 2147483647) (h0 : ¬ ((0 ≤ f ∧ f < k) ∧ (0 ≤ g ∧ g < k))) : wm_M l yX1_add cX1_add 3 (some .int) ({ frames := 4, cells := 0, slots := 0, locals := 93 }) [.int (iZ f), .int (iZ g)] D mo na cI cJ c0 k V (some (.int (iZ 0))) 1 k (fun Z => Z = V) := by
  refine wm_of (by decide) rfl (Nat.le_of_ble_eq_true rfl) ?_
  intro p e s m below meth c A hAe S hr hlk hP hK hA hAn hS ls hl
  obtain ⟨hx, hb, hml, hown, hT⟩ := id S
  have hl : lv_has ls 3 [(0, .ref mo), (1, .int (iZ f)), (2, .int (iZ g))] := hl
  refine lv_aload_n hx hb dX1_add_0 rfl (lv_at hl 0 rfl) ?_
  refine lv_iload_n hx hb dX1_add_1 rfl (lv_at hl 1 rfl) ?_
  refine lv_iload_n hx hb dX1_add_2 rfl (lv_at hl 2 rfl) ?_
  refine zl_ldc hx hb (-1) hown (hT _ tb_457) (by decide) dX1_add_3 ?_
  refine wm_V (As := [.int (iZ f), .int (iZ g), .long (lZ (-1))]) (rest := []) (st1 := [.int (iZ 0)]) (c1 := 1) (k1 := k) S (kO_X1_less l D mo na cI cJ c0 k V f g (-1) hd hk (by omega) (by omega) (by omega) (by omega)) tb_458 tb_459 tb_460 tb_2 tb_461 hd_X1_less ⟨rfl, rfl, by decide, by decide⟩ hP hK hS hA hAn rfl hl.1 rfl (Nat.le_of_ble_eq_true rfl) dX1_add_6 ⟨Nat.zero_le _, Nat.zero_le _⟩ rfl (fun V1 H locs hRV1 hP hS _ _ => ?_)
  exact wm_iret hx hb hr hlk hP hRV1 rfl rfl hS (congrArg (fun z => some (Value.int (iZ z))) (show (0 : Int) = 0 from rfl)) dX1_add_9
set_option maxHeartbeats 4000000 in
set_option maxRecDepth 100000 in
theorem kS_X1_add (l : Launch) (D : va_G) (mo : Nat) (na : Nat → Nat) (cI cJ : ClassId) (c0 k : Int) (V : Nat → Nat → Int) (f g : Int) (hd : dM mo na) (hk : k = 60) (hf : 0 ≤ f ∧ f < k) (hg : 0 ≤ g ∧ g < k) : wm_M l yX1_add cX1_add 3 (some .int) ({ frames := 4, cells := 0, slots := 0, locals := 93 }) [.int (iZ f), .int (iZ g)] D mo na cI cJ c0 k V (some (.int (iZ 0))) 2 k (fun Z => Z = V) := by
  refine wm_of (by decide) rfl (Nat.le_of_ble_eq_true rfl) ?_
  intro p e s m below meth c A hAe S hr hlk hP hK hA hAn hS ls hl
  obtain ⟨hx, hb, hml, hown, hT⟩ := id S
  have hl : lv_has ls 3 [(0, .ref mo), (1, .int (iZ f)), (2, .int (iZ g))] := hl
  refine lv_aload_n hx hb dX1_add_0 rfl (lv_at hl 0 rfl) ?_
  refine lv_iload_n hx hb dX1_add_1 rfl (lv_at hl 1 rfl) ?_
  refine lv_iload_n hx hb dX1_add_2 rfl (lv_at hl 2 rfl) ?_
  refine zl_ldc hx hb (-1) hown (hT _ tb_457) (by decide) dX1_add_3 ?_
  refine wm_V (As := [.int (iZ f), .int (iZ g), .long (lZ (-1))]) (rest := []) (st1 := [.int (iZ 0)]) (c1 := 2) (k1 := k) S (kS_X1_less l D mo na cI cJ c0 k V f g (-1) hd (by omega) (by omega) (by omega) (by omega)) tb_458 tb_459 tb_460 tb_2 tb_461 hd_X1_less ⟨rfl, rfl, by decide, by decide⟩ hP hK hS hA hAn rfl hl.1 rfl (Nat.le_of_ble_eq_true rfl) dX1_add_6 ⟨Nat.zero_le _, Nat.zero_le _⟩ rfl (fun V1 H locs hRV1 hP hS _ _ => ?_)
  exact wm_iret hx hb hr hlk hP hRV1 rfl rfl hS (congrArg (fun z => some (Value.int (iZ z))) (show (0 : Int) = 0 from rfl)) dX1_add_9
theorem tg_of {g : Nat → Int} {c n v : Int} {j : Nat} (hj : j < 72) (h : ∀ j : Nat, (j : Int) < 72 → g j = 0) : uZ g (c * 9 + n + 4).toNat (v % 32003) j = tgZ c n v j := by
  unfold uZ tgZ
  split
  · rfl
  · exact h j (by omega)
set_option maxHeartbeats 4000000 in
set_option maxRecDepth 100000 in
theorem k_X1_term (l : Launch) (D : va_G) (mo : Nat) (na : Nat → Nat) (cI cJ : ClassId) (c0 k : Int) (V : Nat → Nat → Int) (a n v : Int) (hd : dM mo na) (hk : 0 ≤ k ∧ k < 60) (ha : 0 ≤ a ∧ a < 8) (hn : -4 ≤ n ∧ n ≤ 4) (hv0 : -9223372036854775808 ≤ v ∧ v ≤ 9223372036854775807) : wm_M l yX1_term cX1_term 6 (some .int) ({ frames := 1, cells := 0, slots := 0, locals := 25 }) [.int (iZ a), .int (iZ n), .long (lZ v)] D mo na cI cJ c0 k V (some (.int (iZ k))) 0 (k + 1) (fun Z => (∀ j : Nat, j < 72 → Z 0 ((k * 72).toNat + j) = tgZ a n v j) ∧ ∀ j : Nat, (j : Int) < k * 72 ∨ k * 72 + 72 ≤ (j : Int) → Z 0 j = V 0 j) := by
  refine wm_of (by decide) rfl (Nat.le_of_ble_eq_true rfl) ?_
  intro p e s m below meth c A hAe S hr hlk hP hK hA hAn hS ls hl
  obtain ⟨hx, hb, hml, hown, hT⟩ := id S
  have hl : lv_has ls 6 [(0, .ref mo), (1, .int (iZ a)), (2, .int (iZ n)), (3, .long (lZ v))] := hl
  refine lv_aload_n hx hb dX1_term_0 rfl (lv_at hl 0 rfl) ?_
  refine lv_iload_n hx hb dX1_term_1 rfl (lv_at hl 1 rfl) ?_
  refine zi_i2l hx hb dX1_term_2 (by omega) ?_
  refine zl_const hx hb 0 dX1_term_3 (by decide) ?_
  refine zl_ldc hx hb 7 hown (hT _ tb_436) (by decide) dX1_term_4 ?_
  refine rd_S (As := [.long (lZ a), .long (lZ 0), .long (lZ 7)]) (rest := [.ref mo]) (st1 := [.int (iZ (inZ a 0 7)), .ref mo]) S (k_X1_in l a 0 7 (by omega) (by omega) (by omega)) tb_437 tb_438 tb_2 tb_439 hd_X1_in ⟨rfl, rfl, by decide, by decide⟩ bl_T (fun _ _ _ => trivial) rfl hl.1 rfl (Nat.le_of_ble_eq_true rfl) dX1_term_7 ⟨Nat.zero_le _, Nat.zero_le _⟩ rfl ?_
  have hi10 := inZ_or a 0 7
  refine zi_feq (tgt := 27) hx hb dX1_term_10 (by decide) (by omega) (fun hc10 => ?_) (fun hc10 => ?_)
  · refine zi_const hx hb 1 dX1_term_27 ?_
    refine lv_goto (tgt := 45) hx hb dX1_term_28 (by decide) ?_
    exfalso
    omega
  · refine lv_iload_n hx hb dX1_term_13 rfl (lv_at hl 2 rfl) ?_
    refine zi_i2l hx hb dX1_term_14 (by omega) ?_
    refine zl_ldc hx hb (-4) hown (hT _ tb_440) (by decide) dX1_term_15 ?_
    refine zl_ldc hx hb 4 hown (hT _ tb_441) (by decide) dX1_term_18 ?_
    refine rd_S (As := [.long (lZ n), .long (lZ (-4)), .long (lZ 4)]) (rest := [.ref mo]) (st1 := [.int (iZ (inZ n (-4) 4)), .ref mo]) S (k_X1_in l n (-4) 4 (by omega) (by omega) (by omega)) tb_437 tb_438 tb_2 tb_439 hd_X1_in ⟨rfl, rfl, by decide, by decide⟩ bl_T (fun _ _ _ => trivial) rfl hl.1 rfl (Nat.le_of_ble_eq_true rfl) dX1_term_21 ⟨Nat.zero_le _, Nat.zero_le _⟩ rfl ?_
    have hi24 := inZ_or n (-4) 4
    refine zi_fne (tgt := 31) hx hb dX1_term_24 (by decide) (by omega) (fun hc24 => ?_) (fun hc24 => ?_)
    · refine lv_aload_n hx hb dX1_term_31 rfl (lv_at hl 0 rfl) ?_
      refine va_get (D := D) (ci := 1) (C := RX1) (T := TX1) (N := 8) hx hb hT inX1 hown hK hP 0 rfl rfl 1 (by decide) (hT _ tb_403) (fun _ h9 => h9) rfl dX1_term_32 ?_
      refine zi_bi hx hb 60 dX1_term_35 (by decide) ?_
      refine zi_cne (tgt := 44) hx hb dX1_term_37 (by decide) (by omega) (by omega) (fun hc37 => ?_) (fun hc37 => ?_)
      · refine zi_const hx hb 0 dX1_term_44 ?_
        refine va_put (D := D) (ci := 1) (v := .int (iZ 0)) (ty := .int) (C := RX1) (T := TX1) (N := 8) hx hb hT inX1 tyX1 tyX1_ok nmX1 hown hK hP (dM_D hd hA) hS 0 rfl rfl 0 (by decide) (hT _ tb_402) (fun _ h9 => h9) rfl (by decide +kernel) rfl rfl (Nat.le_of_ble_eq_true rfl) dX1_term_45 (fun H locs hP _ hS => ?_)
        have hP : va_P D vwCl (mX mo na cI cJ 0 k V) H := hP
        refine lv_aload_n hx hb dX1_term_48 rfl (lv_at hl 0 rfl) ?_
        refine va_get (D := D) (ci := 1) (C := RX1) (T := TX1) (N := 8) hx hb hT inX1 hown hK hP 0 rfl rfl 0 (by decide) (hT _ tb_402) (fun _ h9 => h9) rfl dX1_term_49 ?_
        refine zi_fle (tgt := 57) hx hb dX1_term_52 (by decide) (by omega) (fun hc52 => ?_) (fun hc52 => ?_)
        · refine zi_const hx hb 0 dX1_term_57 ?_
          refine lv_istore (lv' := [(5, .int (iZ 0)), (0, .ref mo), (1, .int (iZ a)), (2, .int (iZ n)), (3, .long (lZ v))]) hx hb dX1_term_58 hl (by decide) rfl (fun ls hl => ?_)
          refine lp_goM (nL := 6) (α := (Nat → Nat → Int) × Int) (fun z => [(0, .ref mo), (1, .int (iZ a)), (2, .int (iZ n)), (3, .long (lZ v)), (5, .int (iZ z.2))]) (fun _ => 0) (fun _ => k) (fun z => z.1) (fun m60 z => 0 ≤ z.2 ∧ z.2 + (m60 : Int) = 72 ∧ (∀ j : Nat, (j : Int) < z.2 → z.1 1 j = 0) ∧ ∀ b, b ≠ 1 → z.1 b = V b) ?_ 72 (V, (0 : Int)) (by (try dsimp only); exact ⟨by omega, by omega, fun j hj => by omega, fun b _ => rfl⟩) _ _ hP hS ls (lv_sub hl [1, 2, 3, 4, 0] rfl)
          intro m60 z1 hI60 ih60 H locs hP hS ls hl
          obtain ⟨Y, i⟩ := z1
          have hl : lv_has ls 6 [(0, .ref mo), (1, .int (iZ a)), (2, .int (iZ n)), (3, .long (lZ v)), (5, .int (iZ i))] := hl
          have hI60 : 0 ≤ i ∧ i + (m60 : Int) = 72 ∧ (∀ j : Nat, (j : Int) < i → Y 1 j = 0) ∧ ∀ b, b ≠ 1 → Y b = V b := hI60
          have hP : va_P D vwCl (mX mo na cI cJ 0 k Y) H := hP
          refine lv_iload hx hb dX1_term_60 (lv_at hl 4 rfl) ?_
          refine zi_bi hx hb 72 dX1_term_62 (by decide) ?_
          refine zi_cge (tgt := 81) hx hb dX1_term_64 (by decide) (by omega) (by omega) (fun hc64 => ?_) (fun hc64 => ?_)
          · refine lv_aload_n hx hb dX1_term_81 rfl (lv_at hl 0 rfl) ?_
            refine va_get (D := D) (ci := 1) (C := RX1) (T := TX1) (N := 8) hx hb hT inX1 hown hK hP 0 rfl rfl 3 (by decide) (hT _ tb_405) (fun _ h9 => h9) rfl dX1_term_82 ?_
            refine lv_iload_n hx hb dX1_term_85 rfl (lv_at hl 1 rfl) ?_
            refine lv_iload_n hx hb dX1_term_86 rfl (lv_at hl 2 rfl) ?_
            refine rd_S (As := [.int (iZ a), .int (iZ n)]) (rest := [.ref (na 1)]) (st1 := [.int (iZ (a * 9 + n + 4)), .ref (na 1)]) S (k_X1_place l a n) tb_442 tb_443 tb_2 tb_444 hd_X1_place ⟨rfl, rfl, by decide, by decide⟩ bl_T (fun _ _ _ => trivial) rfl hl.1 rfl (Nat.le_of_ble_eq_true rfl) dX1_term_87 ⟨Nat.zero_le _, Nat.zero_le _⟩ rfl ?_
            refine lv_lload_n hx hb dX1_term_90 rfl (lv_at hl 3 rfl) ?_
            refine rd_S (As := [.long (lZ v)]) (rest := [.int (iZ (a * 9 + n + 4)), .ref (na 1)]) (st1 := [.long (lZ (v % 32003)), .int (iZ (a * 9 + n + 4)), .ref (na 1)]) S (k_X1_modulo l v (by omega)) tb_445 tb_446 tb_2 tb_447 hd_X1_modulo ⟨rfl, rfl, by decide, by decide⟩ bl_T (fun _ _ _ => trivial) rfl hl.1 rfl (Nat.le_of_ble_eq_true rfl) dX1_term_91 ⟨Nat.zero_le _, Nat.zero_le _⟩ rfl ?_
            refine mm_l hx hb hK hP hd hA hS 1 72 rfl (fun g => rfl) (by omega) dX1_term_94 (fun H locs hP hS => ?_)
            obtain ⟨V2, eV2⟩ : ∃ Z : Nat → Nat → Int, Z = sV Y 1 (uZ (Y 1) (a * 9 + n + 4).toNat (v % 32003)) := ⟨_, rfl⟩
            rw [← eV2] at hP
            refine lv_aload_n hx hb dX1_term_95 rfl (lv_at hl 0 rfl) ?_
            refine wm_V (As := []) (rest := []) (st1 := [.int (iZ k)]) (c1 := 0) (k1 := k + 1) S (k_X1_keep l D mo na cI cJ 0 k V2  hd (by omega)) tb_449 tb_451 ts_X1_keep tb_2 tb_452 hd_X1_keep ⟨rfl, rfl, by decide, by decide⟩ hP hK hS hA hAn rfl hl.1 rfl (Nat.le_of_ble_eq_true rfl) dX1_term_96 ⟨Nat.zero_le _, Nat.zero_le _⟩ rfl (fun V3 H locs hRV3 hP hS _ _ => ?_)
            exact wm_iret hx hb hr hlk hP (⟨fun j hj => by rw [hRV3.1 j hj, eV2, sV_a]; exact tg_of hj (fun j hj => hI60.2.2.1 j (by omega)), fun j hj => by rw [hRV3.2 j hj, eV2, sV_b (by decide)]; exact congrFun (hI60.2.2.2 0 (by decide)) j⟩) rfl rfl hS (congrArg (fun z => some (Value.int (iZ z))) (show (k : Int) = k from rfl)) dX1_term_99
          · refine lv_aload_n hx hb dX1_term_67 rfl (lv_at hl 0 rfl) ?_
            refine va_get (D := D) (ci := 1) (C := RX1) (T := TX1) (N := 8) hx hb hT inX1 hown hK hP 0 rfl rfl 3 (by decide) (hT _ tb_405) (fun _ h9 => h9) rfl dX1_term_68 ?_
            refine lv_iload hx hb dX1_term_71 (lv_at hl 4 rfl) ?_
            refine zl_const hx hb 0 dX1_term_73 (by decide) ?_
            refine mm_l hx hb hK hP hd hA hS 1 72 rfl (fun g => rfl) (by omega) dX1_term_74 (fun H locs hP hS => ?_)
            obtain ⟨V4, eV4⟩ : ∃ Z : Nat → Nat → Int, Z = sV Y 1 (uZ (Y 1) (i).toNat 0) := ⟨_, rfl⟩
            rw [← eV4] at hP
            refine zi_inc (lv' := [(5, .int (iZ (i + 1))), (0, .ref mo), (1, .int (iZ a)), (2, .int (iZ n)), (3, .long (lZ v))]) hx hb dX1_term_75 hl (k := 4) rfl (by decide) rfl (fun ls hl => ?_)
            refine lv_goto (tgt := 60) hx hb dX1_term_78 (by decide) ?_
            exact ih60 (m60 - 1) (V4, i + 1) (by omega) (by (try dsimp only); exact ⟨by omega, by omega, by rw [eV4, sV_a]; exact st_lt (P := fun _ => 0) hI60.2.2.1 hI60.1 rfl, fun b hb9 => by rw [eV4, sV_b hb9]; exact hI60.2.2.2 b hb9⟩) _ _ hP hS ls (lv_sub hl [1, 2, 3, 4, 0] rfl)
        · exfalso
          omega
      · refine zi_const hx hb 2 dX1_term_40 ?_
        refine lv_goto (tgt := 45) hx hb dX1_term_41 (by decide) ?_
        exfalso
        omega
    · refine zi_const hx hb 1 dX1_term_27 ?_
      refine lv_goto (tgt := 45) hx hb dX1_term_28 (by decide) ?_
      exfalso
      omega
set_option maxHeartbeats 4000000 in
set_option maxRecDepth 100000 in
theorem kA_X1_term (l : Launch) (D : va_G) (mo : Nat) (na : Nat → Nat) (cI cJ : ClassId) (c0 k : Int) (V : Nat → Nat → Int) (a n v : Int) (hd : dM mo na) (ha0 : -2147483648 ≤ a ∧ a ≤ 2147483647) (hn0 : -2147483648 ≤ n ∧ n ≤ 2147483647) (h0 : ¬ ((0 ≤ a ∧ a < 8) ∧ (-4 ≤ n ∧ n ≤ 4))) (hk : 0 ≤ k ∧ k ≤ 60) : wm_M l yX1_term cX1_term 6 (some .int) ({ frames := 1, cells := 0, slots := 0, locals := 25 }) [.int (iZ a), .int (iZ n), .long (lZ v)] D mo na cI cJ c0 k V (some (.int (iZ 0))) 1 k (fun Z => Z = V) := by
  refine wm_of (by decide) rfl (Nat.le_of_ble_eq_true rfl) ?_
  intro p e s m below meth c A hAe S hr hlk hP hK hA hAn hS ls hl
  obtain ⟨hx, hb, hml, hown, hT⟩ := id S
  have hl : lv_has ls 6 [(0, .ref mo), (1, .int (iZ a)), (2, .int (iZ n)), (3, .long (lZ v))] := hl
  refine lv_aload_n hx hb dX1_term_0 rfl (lv_at hl 0 rfl) ?_
  refine lv_iload_n hx hb dX1_term_1 rfl (lv_at hl 1 rfl) ?_
  refine zi_i2l hx hb dX1_term_2 (by omega) ?_
  refine zl_const hx hb 0 dX1_term_3 (by decide) ?_
  refine zl_ldc hx hb 7 hown (hT _ tb_436) (by decide) dX1_term_4 ?_
  refine rd_S (As := [.long (lZ a), .long (lZ 0), .long (lZ 7)]) (rest := [.ref mo]) (st1 := [.int (iZ (inZ a 0 7)), .ref mo]) S (k_X1_in l a 0 7 (by omega) (by omega) (by omega)) tb_437 tb_438 tb_2 tb_439 hd_X1_in ⟨rfl, rfl, by decide, by decide⟩ bl_T (fun _ _ _ => trivial) rfl hl.1 rfl (Nat.le_of_ble_eq_true rfl) dX1_term_7 ⟨Nat.zero_le _, Nat.zero_le _⟩ rfl ?_
  have hi10 := inZ_or a 0 7
  refine zi_feq (tgt := 27) hx hb dX1_term_10 (by decide) (by omega) (fun hc10 => ?_) (fun hc10 => ?_)
  · refine zi_const hx hb 1 dX1_term_27 ?_
    refine lv_goto (tgt := 45) hx hb dX1_term_28 (by decide) ?_
    refine va_put (D := D) (ci := 1) (v := .int (iZ 1)) (ty := .int) (C := RX1) (T := TX1) (N := 8) hx hb hT inX1 tyX1 tyX1_ok nmX1 hown hK hP (dM_D hd hA) hS 0 rfl rfl 0 (by decide) (hT _ tb_402) (fun _ h9 => h9) rfl (by decide +kernel) rfl rfl (Nat.le_of_ble_eq_true rfl) dX1_term_45 (fun H locs hP _ hS => ?_)
    have hP : va_P D vwCl (mX mo na cI cJ 1 k V) H := hP
    refine lv_aload_n hx hb dX1_term_48 rfl (lv_at hl 0 rfl) ?_
    refine va_get (D := D) (ci := 1) (C := RX1) (T := TX1) (N := 8) hx hb hT inX1 hown hK hP 0 rfl rfl 0 (by decide) (hT _ tb_402) (fun _ h9 => h9) rfl dX1_term_49 ?_
    refine zi_fle (tgt := 57) hx hb dX1_term_52 (by decide) (by omega) (fun hc52 => ?_) (fun hc52 => ?_)
    · exfalso
      omega
    · refine zi_const hx hb 0 dX1_term_55 ?_
      exact wm_iret hx hb hr hlk hP rfl rfl rfl hS (congrArg (fun z => some (Value.int (iZ z))) (show (0 : Int) = 0 from rfl)) dX1_term_56
  · refine lv_iload_n hx hb dX1_term_13 rfl (lv_at hl 2 rfl) ?_
    refine zi_i2l hx hb dX1_term_14 (by omega) ?_
    refine zl_ldc hx hb (-4) hown (hT _ tb_440) (by decide) dX1_term_15 ?_
    refine zl_ldc hx hb 4 hown (hT _ tb_441) (by decide) dX1_term_18 ?_
    refine rd_S (As := [.long (lZ n), .long (lZ (-4)), .long (lZ 4)]) (rest := [.ref mo]) (st1 := [.int (iZ (inZ n (-4) 4)), .ref mo]) S (k_X1_in l n (-4) 4 (by omega) (by omega) (by omega)) tb_437 tb_438 tb_2 tb_439 hd_X1_in ⟨rfl, rfl, by decide, by decide⟩ bl_T (fun _ _ _ => trivial) rfl hl.1 rfl (Nat.le_of_ble_eq_true rfl) dX1_term_21 ⟨Nat.zero_le _, Nat.zero_le _⟩ rfl ?_
    have hi24 := inZ_or n (-4) 4
    refine zi_fne (tgt := 31) hx hb dX1_term_24 (by decide) (by omega) (fun hc24 => ?_) (fun hc24 => ?_)
    · refine lv_aload_n hx hb dX1_term_31 rfl (lv_at hl 0 rfl) ?_
      refine va_get (D := D) (ci := 1) (C := RX1) (T := TX1) (N := 8) hx hb hT inX1 hown hK hP 0 rfl rfl 1 (by decide) (hT _ tb_403) (fun _ h9 => h9) rfl dX1_term_32 ?_
      refine zi_bi hx hb 60 dX1_term_35 (by decide) ?_
      refine zi_cne (tgt := 44) hx hb dX1_term_37 (by decide) (by omega) (by omega) (fun hc37 => ?_) (fun hc37 => ?_)
      · refine zi_const hx hb 0 dX1_term_44 ?_
        exfalso
        omega
      · refine zi_const hx hb 2 dX1_term_40 ?_
        refine lv_goto (tgt := 45) hx hb dX1_term_41 (by decide) ?_
        exfalso
        omega
    · refine zi_const hx hb 1 dX1_term_27 ?_
      refine lv_goto (tgt := 45) hx hb dX1_term_28 (by decide) ?_
      refine va_put (D := D) (ci := 1) (v := .int (iZ 1)) (ty := .int) (C := RX1) (T := TX1) (N := 8) hx hb hT inX1 tyX1 tyX1_ok nmX1 hown hK hP (dM_D hd hA) hS 0 rfl rfl 0 (by decide) (hT _ tb_402) (fun _ h9 => h9) rfl (by decide +kernel) rfl rfl (Nat.le_of_ble_eq_true rfl) dX1_term_45 (fun H locs hP _ hS => ?_)
      have hP : va_P D vwCl (mX mo na cI cJ 1 k V) H := hP
      refine lv_aload_n hx hb dX1_term_48 rfl (lv_at hl 0 rfl) ?_
      refine va_get (D := D) (ci := 1) (C := RX1) (T := TX1) (N := 8) hx hb hT inX1 hown hK hP 0 rfl rfl 0 (by decide) (hT _ tb_402) (fun _ h9 => h9) rfl dX1_term_49 ?_
      refine zi_fle (tgt := 57) hx hb dX1_term_52 (by decide) (by omega) (fun hc52 => ?_) (fun hc52 => ?_)
      · exfalso
        omega
      · refine zi_const hx hb 0 dX1_term_55 ?_
        exact wm_iret hx hb hr hlk hP rfl rfl rfl hS (congrArg (fun z => some (Value.int (iZ z))) (show (0 : Int) = 0 from rfl)) dX1_term_56
set_option maxHeartbeats 4000000 in
set_option maxRecDepth 100000 in
theorem kS_X1_term (l : Launch) (D : va_G) (mo : Nat) (na : Nat → Nat) (cI cJ : ClassId) (c0 k : Int) (V : Nat → Nat → Int) (a n v : Int) (hd : dM mo na) (hk : k = 60) (ha : 0 ≤ a ∧ a < 8) (hn : -4 ≤ n ∧ n ≤ 4) : wm_M l yX1_term cX1_term 6 (some .int) ({ frames := 1, cells := 0, slots := 0, locals := 25 }) [.int (iZ a), .int (iZ n), .long (lZ v)] D mo na cI cJ c0 k V (some (.int (iZ 0))) 2 k (fun Z => Z = V) := by
  refine wm_of (by decide) rfl (Nat.le_of_ble_eq_true rfl) ?_
  intro p e s m below meth c A hAe S hr hlk hP hK hA hAn hS ls hl
  obtain ⟨hx, hb, hml, hown, hT⟩ := id S
  have hl : lv_has ls 6 [(0, .ref mo), (1, .int (iZ a)), (2, .int (iZ n)), (3, .long (lZ v))] := hl
  refine lv_aload_n hx hb dX1_term_0 rfl (lv_at hl 0 rfl) ?_
  refine lv_iload_n hx hb dX1_term_1 rfl (lv_at hl 1 rfl) ?_
  refine zi_i2l hx hb dX1_term_2 (by omega) ?_
  refine zl_const hx hb 0 dX1_term_3 (by decide) ?_
  refine zl_ldc hx hb 7 hown (hT _ tb_436) (by decide) dX1_term_4 ?_
  refine rd_S (As := [.long (lZ a), .long (lZ 0), .long (lZ 7)]) (rest := [.ref mo]) (st1 := [.int (iZ (inZ a 0 7)), .ref mo]) S (k_X1_in l a 0 7 (by omega) (by omega) (by omega)) tb_437 tb_438 tb_2 tb_439 hd_X1_in ⟨rfl, rfl, by decide, by decide⟩ bl_T (fun _ _ _ => trivial) rfl hl.1 rfl (Nat.le_of_ble_eq_true rfl) dX1_term_7 ⟨Nat.zero_le _, Nat.zero_le _⟩ rfl ?_
  have hi10 := inZ_or a 0 7
  refine zi_feq (tgt := 27) hx hb dX1_term_10 (by decide) (by omega) (fun hc10 => ?_) (fun hc10 => ?_)
  · refine zi_const hx hb 1 dX1_term_27 ?_
    refine lv_goto (tgt := 45) hx hb dX1_term_28 (by decide) ?_
    exfalso
    omega
  · refine lv_iload_n hx hb dX1_term_13 rfl (lv_at hl 2 rfl) ?_
    refine zi_i2l hx hb dX1_term_14 (by omega) ?_
    refine zl_ldc hx hb (-4) hown (hT _ tb_440) (by decide) dX1_term_15 ?_
    refine zl_ldc hx hb 4 hown (hT _ tb_441) (by decide) dX1_term_18 ?_
    refine rd_S (As := [.long (lZ n), .long (lZ (-4)), .long (lZ 4)]) (rest := [.ref mo]) (st1 := [.int (iZ (inZ n (-4) 4)), .ref mo]) S (k_X1_in l n (-4) 4 (by omega) (by omega) (by omega)) tb_437 tb_438 tb_2 tb_439 hd_X1_in ⟨rfl, rfl, by decide, by decide⟩ bl_T (fun _ _ _ => trivial) rfl hl.1 rfl (Nat.le_of_ble_eq_true rfl) dX1_term_21 ⟨Nat.zero_le _, Nat.zero_le _⟩ rfl ?_
    have hi24 := inZ_or n (-4) 4
    refine zi_fne (tgt := 31) hx hb dX1_term_24 (by decide) (by omega) (fun hc24 => ?_) (fun hc24 => ?_)
    · refine lv_aload_n hx hb dX1_term_31 rfl (lv_at hl 0 rfl) ?_
      refine va_get (D := D) (ci := 1) (C := RX1) (T := TX1) (N := 8) hx hb hT inX1 hown hK hP 0 rfl rfl 1 (by decide) (hT _ tb_403) (fun _ h9 => h9) rfl dX1_term_32 ?_
      refine zi_bi hx hb 60 dX1_term_35 (by decide) ?_
      refine zi_cne (tgt := 44) hx hb dX1_term_37 (by decide) (by omega) (by omega) (fun hc37 => ?_) (fun hc37 => ?_)
      · refine zi_const hx hb 0 dX1_term_44 ?_
        exfalso
        omega
      · refine zi_const hx hb 2 dX1_term_40 ?_
        refine lv_goto (tgt := 45) hx hb dX1_term_41 (by decide) ?_
        refine va_put (D := D) (ci := 1) (v := .int (iZ 2)) (ty := .int) (C := RX1) (T := TX1) (N := 8) hx hb hT inX1 tyX1 tyX1_ok nmX1 hown hK hP (dM_D hd hA) hS 0 rfl rfl 0 (by decide) (hT _ tb_402) (fun _ h9 => h9) rfl (by decide +kernel) rfl rfl (Nat.le_of_ble_eq_true rfl) dX1_term_45 (fun H locs hP _ hS => ?_)
        have hP : va_P D vwCl (mX mo na cI cJ 2 k V) H := hP
        refine lv_aload_n hx hb dX1_term_48 rfl (lv_at hl 0 rfl) ?_
        refine va_get (D := D) (ci := 1) (C := RX1) (T := TX1) (N := 8) hx hb hT inX1 hown hK hP 0 rfl rfl 0 (by decide) (hT _ tb_402) (fun _ h9 => h9) rfl dX1_term_49 ?_
        refine zi_fle (tgt := 57) hx hb dX1_term_52 (by decide) (by omega) (fun hc52 => ?_) (fun hc52 => ?_)
        · exfalso
          omega
        · refine zi_const hx hb 0 dX1_term_55 ?_
          exact wm_iret hx hb hr hlk hP rfl rfl rfl hS (congrArg (fun z => some (Value.int (iZ z))) (show (0 : Int) = 0 from rfl)) dX1_term_56
    · refine zi_const hx hb 1 dX1_term_27 ?_
      refine lv_goto (tgt := 45) hx hb dX1_term_28 (by decide) ?_
      exfalso
      omega
set_option maxHeartbeats 4000000 in
set_option maxRecDepth 100000 in
theorem k_X1_at (l : Launch) (D : va_G) (mo : Nat) (na : Nat → Nat) (cI cJ : ClassId) (c0 k : Int) (V : Nat → Nat → Int) (f a n : Int) (hd : dM mo na) (hN : ∀ j, 0 ≤ V 0 j ∧ V 0 j < 32003) (hk : 0 ≤ k ∧ k ≤ 60) (hf : 0 ≤ f ∧ f < k) (ha : 0 ≤ a ∧ a < 8) (hn : -4 ≤ n ∧ n ≤ 4) : wm_M l yX1_at cX1_at 4 (some .int) ({ frames := 2, cells := 0, slots := 0, locals := 46 }) [.int (iZ f), .int (iZ a), .int (iZ n)] D mo na cI cJ c0 k V (some (.int (iZ (nuZ (V 0) f a n)))) 0 k (fun Z => Z = V) := by
  refine wm_of (by decide) rfl (Nat.le_of_ble_eq_true rfl) ?_
  intro p e s m below meth c A hAe S hr hlk hP hK hA hAn hS ls hl
  obtain ⟨hx, hb, hml, hown, hT⟩ := id S
  have hl : lv_has ls 4 [(0, .ref mo), (1, .int (iZ f)), (2, .int (iZ a)), (3, .int (iZ n))] := hl
  refine lv_aload_n hx hb dX1_at_0 rfl (lv_at hl 0 rfl) ?_
  refine lv_aload_n hx hb dX1_at_1 rfl (lv_at hl 0 rfl) ?_
  refine lv_iload_n hx hb dX1_at_2 rfl (lv_at hl 1 rfl) ?_
  refine rd_V (As := [.int (iZ f)]) (rest := [.ref mo]) (st1 := [.int (iZ (inZ f 0 (k - 1))), .ref mo]) S (k_X1_isThere l D mo na cI cJ c0 k V f (by omega) (by omega)) tb_466 tb_468 ts_X1_isThere tb_2 tb_469 hd_X1_isThere ⟨rfl, rfl, by decide, by decide⟩ rM_bl (rM_mv hP hK) (va_recv hK hP (ci := 1) (q0 := 0) rfl rfl) rfl hl.1 rfl (Nat.le_of_ble_eq_true rfl) dX1_at_3 ⟨Nat.zero_le _, Nat.zero_le _⟩ rfl ?_
  have hi6 := inZ_or f 0 (k - 1)
  refine zi_fne (tgt := 13) hx hb dX1_at_6 (by decide) (by omega) (fun hc6 => ?_) (fun hc6 => ?_)
  · refine lv_iload_n hx hb dX1_at_13 rfl (lv_at hl 2 rfl) ?_
    refine zi_i2l hx hb dX1_at_14 (by omega) ?_
    refine zl_const hx hb 0 dX1_at_15 (by decide) ?_
    refine zl_ldc hx hb 7 hown (hT _ tb_436) (by decide) dX1_at_16 ?_
    refine rd_S (As := [.long (lZ a), .long (lZ 0), .long (lZ 7)]) (rest := [.ref mo]) (st1 := [.int (iZ (inZ a 0 7)), .ref mo]) S (k_X1_in l a 0 7 (by omega) (by omega) (by omega)) tb_437 tb_438 tb_2 tb_439 hd_X1_in ⟨rfl, rfl, by decide, by decide⟩ bl_T (fun _ _ _ => trivial) rfl hl.1 rfl (Nat.le_of_ble_eq_true rfl) dX1_at_19 ⟨Nat.zero_le _, Nat.zero_le _⟩ rfl ?_
    have hi22 := inZ_or a 0 7
    refine zi_feq (tgt := 39) hx hb dX1_at_22 (by decide) (by omega) (fun hc22 => ?_) (fun hc22 => ?_)
    · refine zi_const hx hb 2 dX1_at_39 ?_
      refine lv_goto (tgt := 44) hx hb dX1_at_40 (by decide) ?_
      exfalso
      omega
    · refine lv_iload_n hx hb dX1_at_25 rfl (lv_at hl 3 rfl) ?_
      refine zi_i2l hx hb dX1_at_26 (by omega) ?_
      refine zl_ldc hx hb (-4) hown (hT _ tb_440) (by decide) dX1_at_27 ?_
      refine zl_ldc hx hb 4 hown (hT _ tb_441) (by decide) dX1_at_30 ?_
      refine rd_S (As := [.long (lZ n), .long (lZ (-4)), .long (lZ 4)]) (rest := [.ref mo]) (st1 := [.int (iZ (inZ n (-4) 4)), .ref mo]) S (k_X1_in l n (-4) 4 (by omega) (by omega) (by omega)) tb_437 tb_438 tb_2 tb_439 hd_X1_in ⟨rfl, rfl, by decide, by decide⟩ bl_T (fun _ _ _ => trivial) rfl hl.1 rfl (Nat.le_of_ble_eq_true rfl) dX1_at_33 ⟨Nat.zero_le _, Nat.zero_le _⟩ rfl ?_
      have hi36 := inZ_or n (-4) 4
      refine zi_fne (tgt := 43) hx hb dX1_at_36 (by decide) (by omega) (fun hc36 => ?_) (fun hc36 => ?_)
      · refine zi_const hx hb 0 dX1_at_43 ?_
        refine va_put (D := D) (ci := 1) (v := .int (iZ 0)) (ty := .int) (C := RX1) (T := TX1) (N := 8) hx hb hT inX1 tyX1 tyX1_ok nmX1 hown hK hP (dM_D hd hA) hS 0 rfl rfl 0 (by decide) (hT _ tb_402) (fun _ h9 => h9) rfl (by decide +kernel) rfl rfl (Nat.le_of_ble_eq_true rfl) dX1_at_44 (fun H locs hP _ hS => ?_)
        have hP : va_P D vwCl (mX mo na cI cJ 0 k V) H := hP
        refine lv_aload_n hx hb dX1_at_47 rfl (lv_at hl 0 rfl) ?_
        refine va_get (D := D) (ci := 1) (C := RX1) (T := TX1) (N := 8) hx hb hT inX1 hown hK hP 0 rfl rfl 0 (by decide) (hT _ tb_402) (fun _ h9 => h9) rfl dX1_at_48 ?_
        refine zi_fle (tgt := 58) hx hb dX1_at_51 (by decide) (by omega) (fun hc51 => ?_) (fun hc51 => ?_)
        · refine lv_aload_n hx hb dX1_at_58 rfl (lv_at hl 0 rfl) ?_
          refine va_get (D := D) (ci := 1) (C := RX1) (T := TX1) (N := 8) hx hb hT inX1 hown hK hP 0 rfl rfl 2 (by decide) (hT _ tb_404) (fun _ h9 => h9) rfl dX1_at_59 ?_
          refine zi_bi hx hb 72 dX1_at_62 (by decide) ?_
          refine lv_iload_n hx hb dX1_at_64 rfl (lv_at hl 1 rfl) ?_
          refine zi_mul hx hb dX1_at_65 ?_
          refine lv_iload_n hx hb dX1_at_66 rfl (lv_at hl 2 rfl) ?_
          refine lv_iload_n hx hb dX1_at_67 rfl (lv_at hl 3 rfl) ?_
          refine rd_S (As := [.int (iZ a), .int (iZ n)]) (rest := [.int (iZ (72 * f)), .ref (na 0)]) (st1 := [.int (iZ (a * 9 + n + 4)), .int (iZ (72 * f)), .ref (na 0)]) S (k_X1_place l a n) tb_442 tb_443 tb_2 tb_444 hd_X1_place ⟨rfl, rfl, by decide, by decide⟩ bl_T (fun _ _ _ => trivial) rfl hl.1 rfl (Nat.le_of_ble_eq_true rfl) dX1_at_68 ⟨Nat.zero_le _, Nat.zero_le _⟩ rfl ?_
          refine zi_add hx hb dX1_at_71 ?_
          refine va_iald hx hb hK hP 1 0 rfl rfl (iZ_in (by omega) (by omega) (by decide)) dX1_at_72 ?_
          refine zi_as (a := V 0 (((72 * f) + (a * 9 + n + 4)).toNat)) (by rw [iZ_cl (by omega) (by omega)]) ?_
          exact wm_iret hx hb hr hlk hP rfl rfl rfl hS (congrArg (fun z => some (Value.int (iZ z))) (show (nuZ (V 0) f a n : Int) = V 0 ((72 * f) + (a * 9 + n + 4)).toNat from by unfold nuZ; rw [if_pos (by omega)]; exact congrArg (V 0) (by omega))) dX1_at_73
        · exfalso
          omega
      · refine zi_const hx hb 2 dX1_at_39 ?_
        refine lv_goto (tgt := 44) hx hb dX1_at_40 (by decide) ?_
        exfalso
        omega
  · refine zi_const hx hb 1 dX1_at_9 ?_
    refine lv_goto (tgt := 44) hx hb dX1_at_10 (by decide) ?_
    exfalso
    omega
set_option maxHeartbeats 4000000 in
set_option maxRecDepth 100000 in
theorem kO_X1_at (l : Launch) (D : va_G) (mo : Nat) (na : Nat → Nat) (cI cJ : ClassId) (c0 k : Int) (V : Nat → Nat → Int) (f a n : Int) (hd : dM mo na) (hk : 0 ≤ k ∧ k ≤ 60) (hf0 : -2147483648 ≤ f ∧ f ≤ 2147483647) (ha0 : -2147483648 ≤ a ∧ a ≤ 2147483647) (hn0 : -2147483648 ≤ n ∧ n ≤ 2147483647) (h0 : ¬ (0 ≤ f ∧ f < k)) : wm_M l yX1_at cX1_at 4 (some .int) ({ frames := 2, cells := 0, slots := 0, locals := 46 }) [.int (iZ f), .int (iZ a), .int (iZ n)] D mo na cI cJ c0 k V (some (.int (iZ 0))) 1 k (fun Z => Z = V) := by
  refine wm_of (by decide) rfl (Nat.le_of_ble_eq_true rfl) ?_
  intro p e s m below meth c A hAe S hr hlk hP hK hA hAn hS ls hl
  obtain ⟨hx, hb, hml, hown, hT⟩ := id S
  have hl : lv_has ls 4 [(0, .ref mo), (1, .int (iZ f)), (2, .int (iZ a)), (3, .int (iZ n))] := hl
  refine lv_aload_n hx hb dX1_at_0 rfl (lv_at hl 0 rfl) ?_
  refine lv_aload_n hx hb dX1_at_1 rfl (lv_at hl 0 rfl) ?_
  refine lv_iload_n hx hb dX1_at_2 rfl (lv_at hl 1 rfl) ?_
  refine rd_V (As := [.int (iZ f)]) (rest := [.ref mo]) (st1 := [.int (iZ (inZ f 0 (k - 1))), .ref mo]) S (k_X1_isThere l D mo na cI cJ c0 k V f (by omega) (by omega)) tb_466 tb_468 ts_X1_isThere tb_2 tb_469 hd_X1_isThere ⟨rfl, rfl, by decide, by decide⟩ rM_bl (rM_mv hP hK) (va_recv hK hP (ci := 1) (q0 := 0) rfl rfl) rfl hl.1 rfl (Nat.le_of_ble_eq_true rfl) dX1_at_3 ⟨Nat.zero_le _, Nat.zero_le _⟩ rfl ?_
  have hi6 := inZ_or f 0 (k - 1)
  refine zi_fne (tgt := 13) hx hb dX1_at_6 (by decide) (by omega) (fun hc6 => ?_) (fun hc6 => ?_)
  · refine lv_iload_n hx hb dX1_at_13 rfl (lv_at hl 2 rfl) ?_
    refine zi_i2l hx hb dX1_at_14 (by omega) ?_
    refine zl_const hx hb 0 dX1_at_15 (by decide) ?_
    refine zl_ldc hx hb 7 hown (hT _ tb_436) (by decide) dX1_at_16 ?_
    refine rd_S (As := [.long (lZ a), .long (lZ 0), .long (lZ 7)]) (rest := [.ref mo]) (st1 := [.int (iZ (inZ a 0 7)), .ref mo]) S (k_X1_in l a 0 7 (by omega) (by omega) (by omega)) tb_437 tb_438 tb_2 tb_439 hd_X1_in ⟨rfl, rfl, by decide, by decide⟩ bl_T (fun _ _ _ => trivial) rfl hl.1 rfl (Nat.le_of_ble_eq_true rfl) dX1_at_19 ⟨Nat.zero_le _, Nat.zero_le _⟩ rfl ?_
    have hi22 := inZ_or a 0 7
    refine zi_feq (tgt := 39) hx hb dX1_at_22 (by decide) (by omega) (fun hc22 => ?_) (fun hc22 => ?_)
    · refine zi_const hx hb 2 dX1_at_39 ?_
      refine lv_goto (tgt := 44) hx hb dX1_at_40 (by decide) ?_
      exfalso
      omega
    · refine lv_iload_n hx hb dX1_at_25 rfl (lv_at hl 3 rfl) ?_
      refine zi_i2l hx hb dX1_at_26 (by omega) ?_
      refine zl_ldc hx hb (-4) hown (hT _ tb_440) (by decide) dX1_at_27 ?_
      refine zl_ldc hx hb 4 hown (hT _ tb_441) (by decide) dX1_at_30 ?_
      refine rd_S (As := [.long (lZ n), .long (lZ (-4)), .long (lZ 4)]) (rest := [.ref mo]) (st1 := [.int (iZ (inZ n (-4) 4)), .ref mo]) S (k_X1_in l n (-4) 4 (by omega) (by omega) (by omega)) tb_437 tb_438 tb_2 tb_439 hd_X1_in ⟨rfl, rfl, by decide, by decide⟩ bl_T (fun _ _ _ => trivial) rfl hl.1 rfl (Nat.le_of_ble_eq_true rfl) dX1_at_33 ⟨Nat.zero_le _, Nat.zero_le _⟩ rfl ?_
      have hi36 := inZ_or n (-4) 4
      refine zi_fne (tgt := 43) hx hb dX1_at_36 (by decide) (by omega) (fun hc36 => ?_) (fun hc36 => ?_)
      · refine zi_const hx hb 0 dX1_at_43 ?_
        exfalso
        omega
      · refine zi_const hx hb 2 dX1_at_39 ?_
        refine lv_goto (tgt := 44) hx hb dX1_at_40 (by decide) ?_
        exfalso
        omega
  · refine zi_const hx hb 1 dX1_at_9 ?_
    refine lv_goto (tgt := 44) hx hb dX1_at_10 (by decide) ?_
    refine va_put (D := D) (ci := 1) (v := .int (iZ 1)) (ty := .int) (C := RX1) (T := TX1) (N := 8) hx hb hT inX1 tyX1 tyX1_ok nmX1 hown hK hP (dM_D hd hA) hS 0 rfl rfl 0 (by decide) (hT _ tb_402) (fun _ h9 => h9) rfl (by decide +kernel) rfl rfl (Nat.le_of_ble_eq_true rfl) dX1_at_44 (fun H locs hP _ hS => ?_)
    have hP : va_P D vwCl (mX mo na cI cJ 1 k V) H := hP
    refine lv_aload_n hx hb dX1_at_47 rfl (lv_at hl 0 rfl) ?_
    refine va_get (D := D) (ci := 1) (C := RX1) (T := TX1) (N := 8) hx hb hT inX1 hown hK hP 0 rfl rfl 0 (by decide) (hT _ tb_402) (fun _ h9 => h9) rfl dX1_at_48 ?_
    refine zi_fle (tgt := 58) hx hb dX1_at_51 (by decide) (by omega) (fun hc51 => ?_) (fun hc51 => ?_)
    · exfalso
      omega
    · refine zi_const hx hb 0 dX1_at_54 ?_
      refine lv_goto (tgt := 73) hx hb dX1_at_55 (by decide) ?_
      exact wm_iret hx hb hr hlk hP rfl rfl rfl hS (congrArg (fun z => some (Value.int (iZ z))) (show (0 : Int) = 0 from rfl)) dX1_at_73
set_option maxHeartbeats 4000000 in
set_option maxRecDepth 100000 in
theorem kA_X1_at (l : Launch) (D : va_G) (mo : Nat) (na : Nat → Nat) (cI cJ : ClassId) (c0 k : Int) (V : Nat → Nat → Int) (f a n : Int) (hd : dM mo na) (hk : 0 ≤ k ∧ k ≤ 60) (hf : 0 ≤ f ∧ f < k) (ha0 : -2147483648 ≤ a ∧ a ≤ 2147483647) (hn0 : -2147483648 ≤ n ∧ n ≤ 2147483647) (h0 : ¬ ((0 ≤ a ∧ a < 8) ∧ (-4 ≤ n ∧ n ≤ 4))) : wm_M l yX1_at cX1_at 4 (some .int) ({ frames := 2, cells := 0, slots := 0, locals := 46 }) [.int (iZ f), .int (iZ a), .int (iZ n)] D mo na cI cJ c0 k V (some (.int (iZ 0))) 2 k (fun Z => Z = V) := by
  refine wm_of (by decide) rfl (Nat.le_of_ble_eq_true rfl) ?_
  intro p e s m below meth c A hAe S hr hlk hP hK hA hAn hS ls hl
  obtain ⟨hx, hb, hml, hown, hT⟩ := id S
  have hl : lv_has ls 4 [(0, .ref mo), (1, .int (iZ f)), (2, .int (iZ a)), (3, .int (iZ n))] := hl
  refine lv_aload_n hx hb dX1_at_0 rfl (lv_at hl 0 rfl) ?_
  refine lv_aload_n hx hb dX1_at_1 rfl (lv_at hl 0 rfl) ?_
  refine lv_iload_n hx hb dX1_at_2 rfl (lv_at hl 1 rfl) ?_
  refine rd_V (As := [.int (iZ f)]) (rest := [.ref mo]) (st1 := [.int (iZ (inZ f 0 (k - 1))), .ref mo]) S (k_X1_isThere l D mo na cI cJ c0 k V f (by omega) (by omega)) tb_466 tb_468 ts_X1_isThere tb_2 tb_469 hd_X1_isThere ⟨rfl, rfl, by decide, by decide⟩ rM_bl (rM_mv hP hK) (va_recv hK hP (ci := 1) (q0 := 0) rfl rfl) rfl hl.1 rfl (Nat.le_of_ble_eq_true rfl) dX1_at_3 ⟨Nat.zero_le _, Nat.zero_le _⟩ rfl ?_
  have hi6 := inZ_or f 0 (k - 1)
  refine zi_fne (tgt := 13) hx hb dX1_at_6 (by decide) (by omega) (fun hc6 => ?_) (fun hc6 => ?_)
  · refine lv_iload_n hx hb dX1_at_13 rfl (lv_at hl 2 rfl) ?_
    refine zi_i2l hx hb dX1_at_14 (by omega) ?_
    refine zl_const hx hb 0 dX1_at_15 (by decide) ?_
    refine zl_ldc hx hb 7 hown (hT _ tb_436) (by decide) dX1_at_16 ?_
    refine rd_S (As := [.long (lZ a), .long (lZ 0), .long (lZ 7)]) (rest := [.ref mo]) (st1 := [.int (iZ (inZ a 0 7)), .ref mo]) S (k_X1_in l a 0 7 (by omega) (by omega) (by omega)) tb_437 tb_438 tb_2 tb_439 hd_X1_in ⟨rfl, rfl, by decide, by decide⟩ bl_T (fun _ _ _ => trivial) rfl hl.1 rfl (Nat.le_of_ble_eq_true rfl) dX1_at_19 ⟨Nat.zero_le _, Nat.zero_le _⟩ rfl ?_
    have hi22 := inZ_or a 0 7
    refine zi_feq (tgt := 39) hx hb dX1_at_22 (by decide) (by omega) (fun hc22 => ?_) (fun hc22 => ?_)
    · refine zi_const hx hb 2 dX1_at_39 ?_
      refine lv_goto (tgt := 44) hx hb dX1_at_40 (by decide) ?_
      refine va_put (D := D) (ci := 1) (v := .int (iZ 2)) (ty := .int) (C := RX1) (T := TX1) (N := 8) hx hb hT inX1 tyX1 tyX1_ok nmX1 hown hK hP (dM_D hd hA) hS 0 rfl rfl 0 (by decide) (hT _ tb_402) (fun _ h9 => h9) rfl (by decide +kernel) rfl rfl (Nat.le_of_ble_eq_true rfl) dX1_at_44 (fun H locs hP _ hS => ?_)
      have hP : va_P D vwCl (mX mo na cI cJ 2 k V) H := hP
      refine lv_aload_n hx hb dX1_at_47 rfl (lv_at hl 0 rfl) ?_
      refine va_get (D := D) (ci := 1) (C := RX1) (T := TX1) (N := 8) hx hb hT inX1 hown hK hP 0 rfl rfl 0 (by decide) (hT _ tb_402) (fun _ h9 => h9) rfl dX1_at_48 ?_
      refine zi_fle (tgt := 58) hx hb dX1_at_51 (by decide) (by omega) (fun hc51 => ?_) (fun hc51 => ?_)
      · exfalso
        omega
      · refine zi_const hx hb 0 dX1_at_54 ?_
        refine lv_goto (tgt := 73) hx hb dX1_at_55 (by decide) ?_
        exact wm_iret hx hb hr hlk hP rfl rfl rfl hS (congrArg (fun z => some (Value.int (iZ z))) (show (0 : Int) = 0 from rfl)) dX1_at_73
    · refine lv_iload_n hx hb dX1_at_25 rfl (lv_at hl 3 rfl) ?_
      refine zi_i2l hx hb dX1_at_26 (by omega) ?_
      refine zl_ldc hx hb (-4) hown (hT _ tb_440) (by decide) dX1_at_27 ?_
      refine zl_ldc hx hb 4 hown (hT _ tb_441) (by decide) dX1_at_30 ?_
      refine rd_S (As := [.long (lZ n), .long (lZ (-4)), .long (lZ 4)]) (rest := [.ref mo]) (st1 := [.int (iZ (inZ n (-4) 4)), .ref mo]) S (k_X1_in l n (-4) 4 (by omega) (by omega) (by omega)) tb_437 tb_438 tb_2 tb_439 hd_X1_in ⟨rfl, rfl, by decide, by decide⟩ bl_T (fun _ _ _ => trivial) rfl hl.1 rfl (Nat.le_of_ble_eq_true rfl) dX1_at_33 ⟨Nat.zero_le _, Nat.zero_le _⟩ rfl ?_
      have hi36 := inZ_or n (-4) 4
      refine zi_fne (tgt := 43) hx hb dX1_at_36 (by decide) (by omega) (fun hc36 => ?_) (fun hc36 => ?_)
      · refine zi_const hx hb 0 dX1_at_43 ?_
        exfalso
        omega
      · refine zi_const hx hb 2 dX1_at_39 ?_
        refine lv_goto (tgt := 44) hx hb dX1_at_40 (by decide) ?_
        refine va_put (D := D) (ci := 1) (v := .int (iZ 2)) (ty := .int) (C := RX1) (T := TX1) (N := 8) hx hb hT inX1 tyX1 tyX1_ok nmX1 hown hK hP (dM_D hd hA) hS 0 rfl rfl 0 (by decide) (hT _ tb_402) (fun _ h9 => h9) rfl (by decide +kernel) rfl rfl (Nat.le_of_ble_eq_true rfl) dX1_at_44 (fun H locs hP _ hS => ?_)
        have hP : va_P D vwCl (mX mo na cI cJ 2 k V) H := hP
        refine lv_aload_n hx hb dX1_at_47 rfl (lv_at hl 0 rfl) ?_
        refine va_get (D := D) (ci := 1) (C := RX1) (T := TX1) (N := 8) hx hb hT inX1 hown hK hP 0 rfl rfl 0 (by decide) (hT _ tb_402) (fun _ h9 => h9) rfl dX1_at_48 ?_
        refine zi_fle (tgt := 58) hx hb dX1_at_51 (by decide) (by omega) (fun hc51 => ?_) (fun hc51 => ?_)
        · exfalso
          omega
        · refine zi_const hx hb 0 dX1_at_54 ?_
          refine lv_goto (tgt := 73) hx hb dX1_at_55 (by decide) ?_
          exact wm_iret hx hb hr hlk hP rfl rfl rfl hS (congrArg (fun z => some (Value.int (iZ z))) (show (0 : Int) = 0 from rfl)) dX1_at_73
  · refine zi_const hx hb 1 dX1_at_9 ?_
    refine lv_goto (tgt := 44) hx hb dX1_at_10 (by decide) ?_
    exfalso
    omega
set_option maxHeartbeats 4000000 in
set_option maxRecDepth 100000 in
theorem k_X1_degree (l : Launch) (D : va_G) (mo : Nat) (na : Nat → Nat) (cI cJ : ClassId) (c0 k : Int) (V : Nat → Nat → Int) (f a : Int) (hd : dM mo na) (hN : ∀ j, 0 ≤ V 0 j ∧ V 0 j < 32003) (hk : 0 ≤ k ∧ k ≤ 60) (hf : 0 ≤ f ∧ f < k) (ha : 0 ≤ a ∧ a < 8) : wm_M l yX1_degree cX1_degree 4 (some .int) ({ frames := 2, cells := 0, slots := 0, locals := 46 }) [.int (iZ f), .int (iZ a)] D mo na cI cJ c0 k V (some (.int (iZ (dgZ (V 0) f a 9)))) 0 k (fun Z => Z = V) := by
  refine wm_of (by decide) rfl (Nat.le_of_ble_eq_true rfl) ?_
  intro p e s m below meth c A hAe S hr hlk hP hK hA hAn hS ls hl
  obtain ⟨hx, hb, hml, hown, hT⟩ := id S
  have hl : lv_has ls 4 [(0, .ref mo), (1, .int (iZ f)), (2, .int (iZ a))] := hl
  refine lv_aload_n hx hb dX1_degree_0 rfl (lv_at hl 0 rfl) ?_
  refine lv_aload_n hx hb dX1_degree_1 rfl (lv_at hl 0 rfl) ?_
  refine lv_iload_n hx hb dX1_degree_2 rfl (lv_at hl 1 rfl) ?_
  refine rd_V (As := [.int (iZ f)]) (rest := [.ref mo]) (st1 := [.int (iZ (inZ f 0 (k - 1))), .ref mo]) S (k_X1_isThere l D mo na cI cJ c0 k V f (by omega) (by omega)) tb_466 tb_468 ts_X1_isThere tb_2 tb_469 hd_X1_isThere ⟨rfl, rfl, by decide, by decide⟩ rM_bl (rM_mv hP hK) (va_recv hK hP (ci := 1) (q0 := 0) rfl rfl) rfl hl.1 rfl (Nat.le_of_ble_eq_true rfl) dX1_degree_3 ⟨Nat.zero_le _, Nat.zero_le _⟩ rfl ?_
  have hi6 := inZ_or f 0 (k - 1)
  refine zi_fne (tgt := 13) hx hb dX1_degree_6 (by decide) (by omega) (fun hc6 => ?_) (fun hc6 => ?_)
  · refine lv_iload_n hx hb dX1_degree_13 rfl (lv_at hl 2 rfl) ?_
    refine zi_i2l hx hb dX1_degree_14 (by omega) ?_
    refine zl_const hx hb 0 dX1_degree_15 (by decide) ?_
    refine zl_ldc hx hb 7 hown (hT _ tb_436) (by decide) dX1_degree_16 ?_
    refine rd_S (As := [.long (lZ a), .long (lZ 0), .long (lZ 7)]) (rest := [.ref mo]) (st1 := [.int (iZ (inZ a 0 7)), .ref mo]) S (k_X1_in l a 0 7 (by omega) (by omega) (by omega)) tb_437 tb_438 tb_2 tb_439 hd_X1_in ⟨rfl, rfl, by decide, by decide⟩ bl_T (fun _ _ _ => trivial) rfl hl.1 rfl (Nat.le_of_ble_eq_true rfl) dX1_degree_19 ⟨Nat.zero_le _, Nat.zero_le _⟩ rfl ?_
    have hi22 := inZ_or a 0 7
    refine zi_feq (tgt := 29) hx hb dX1_degree_22 (by decide) (by omega) (fun hc22 => ?_) (fun hc22 => ?_)
    · refine zi_const hx hb 2 dX1_degree_29 ?_
      exfalso
      omega
    · refine zi_const hx hb 0 dX1_degree_25 ?_
      refine lv_goto (tgt := 30) hx hb dX1_degree_26 (by decide) ?_
      refine va_put (D := D) (ci := 1) (v := .int (iZ 0)) (ty := .int) (C := RX1) (T := TX1) (N := 8) hx hb hT inX1 tyX1 tyX1_ok nmX1 hown hK hP (dM_D hd hA) hS 0 rfl rfl 0 (by decide) (hT _ tb_402) (fun _ h9 => h9) rfl (by decide +kernel) rfl rfl (Nat.le_of_ble_eq_true rfl) dX1_degree_30 (fun H locs hP _ hS => ?_)
      have hP : va_P D vwCl (mX mo na cI cJ 0 k V) H := hP
      refine lv_aload_n hx hb dX1_degree_33 rfl (lv_at hl 0 rfl) ?_
      refine va_get (D := D) (ci := 1) (C := RX1) (T := TX1) (N := 8) hx hb hT inX1 hown hK hP 0 rfl rfl 0 (by decide) (hT _ tb_402) (fun _ h9 => h9) rfl dX1_degree_34 ?_
      refine zi_fle (tgt := 42) hx hb dX1_degree_37 (by decide) (by omega) (fun hc37 => ?_) (fun hc37 => ?_)
      · refine zi_const hx hb 4 dX1_degree_42 ?_
        refine lv_istore_n (lv' := [(3, .int (iZ 4)), (0, .ref mo), (1, .int (iZ f)), (2, .int (iZ a))]) hx hb dX1_degree_43 rfl hl (by decide) rfl (fun ls hl => ?_)
        refine lp_go (nL := 4) (α := Int) (fun z => [(0, .ref mo), (1, .int (iZ f)), (2, .int (iZ a)), (3, .int (iZ z))]) (fun m44 z => z ≤ 4 ∧ z + 5 = (m44 : Int) ∧ dgZ (V 0) f a 9 = dgZ (V 0) f a (z + 5).toNat) ?_ 9 ((4 : Int)) (by (try dsimp only); exact ⟨by omega, by omega, rfl⟩) ls (lv_sub hl [1, 2, 3, 0] rfl)
        intro m44 z1 hI44 ih44 ls hl
        obtain ⟨n, rfl⟩ : ∃ y : Int, y = z1 := ⟨_, rfl⟩
        have hl : lv_has ls 4 [(0, .ref mo), (1, .int (iZ f)), (2, .int (iZ a)), (3, .int (iZ n))] := hl
        have hI44 : n ≤ 4 ∧ n + 5 = (m44 : Int) ∧ dgZ (V 0) f a 9 = dgZ (V 0) f a (n + 5).toNat := hI44
        have hnv : -4 ≤ n → nuZ (V 0) f a n = V 0 (72 * f + (a * 9 + n + 4)).toNat := fun h => by unfold nuZ; rw [if_pos (by omega)]; exact congrArg (V 0) (by omega)
        have hnr := hN (72 * f + (a * 9 + n + 4)).toNat
        refine lv_iload_n hx hb dX1_degree_44 rfl (lv_at hl 3 rfl) ?_
        refine zi_bi hx hb (-4) dX1_degree_45 (by decide) ?_
        refine zi_clt (tgt := 74) hx hb dX1_degree_47 (by decide) (by omega) (by omega) (fun hc47 => ?_) (fun hc47 => ?_)
        · refine lv_iload_n hx hb dX1_degree_74 rfl (lv_at hl 3 rfl) ?_
          exact wm_iret hx hb hr hlk hP rfl rfl rfl hS (congrArg (fun z => some (Value.int (iZ z))) (show (dgZ (V 0) f a 9 : Int) = n from by rw [hI44.2.2, show (n + 5).toNat = 0 by omega]; show (-5 : Int) = n; omega)) dX1_degree_75
        · refine lv_aload_n hx hb dX1_degree_50 rfl (lv_at hl 0 rfl) ?_
          refine va_get (D := D) (ci := 1) (C := RX1) (T := TX1) (N := 8) hx hb hT inX1 hown hK hP 0 rfl rfl 2 (by decide) (hT _ tb_404) (fun _ h9 => h9) rfl dX1_degree_51 ?_
          refine zi_bi hx hb 72 dX1_degree_54 (by decide) ?_
          refine lv_iload_n hx hb dX1_degree_56 rfl (lv_at hl 1 rfl) ?_
          refine zi_mul hx hb dX1_degree_57 ?_
          refine lv_iload_n hx hb dX1_degree_58 rfl (lv_at hl 2 rfl) ?_
          refine lv_iload_n hx hb dX1_degree_59 rfl (lv_at hl 3 rfl) ?_
          refine rd_S (As := [.int (iZ a), .int (iZ n)]) (rest := [.int (iZ (72 * f)), .ref (na 0)]) (st1 := [.int (iZ (a * 9 + n + 4)), .int (iZ (72 * f)), .ref (na 0)]) S (k_X1_place l a n) tb_442 tb_443 tb_2 tb_444 hd_X1_place ⟨rfl, rfl, by decide, by decide⟩ bl_T (fun _ _ _ => trivial) rfl hl.1 rfl (Nat.le_of_ble_eq_true rfl) dX1_degree_60 ⟨Nat.zero_le _, Nat.zero_le _⟩ rfl ?_
          refine zi_add hx hb dX1_degree_63 ?_
          refine va_iald hx hb hK hP 1 0 rfl rfl (iZ_in (by omega) (by omega) (by decide)) dX1_degree_64 ?_
          refine zi_as (a := V 0 (((72 * f) + (a * 9 + n + 4)).toNat)) (by rw [iZ_cl (by omega) (by omega)]) ?_
          refine zi_fne (tgt := 74) hx hb dX1_degree_65 (by decide) (by omega) (fun hc65 => ?_) (fun hc65 => ?_)
          · refine lv_iload_n hx hb dX1_degree_74 rfl (lv_at hl 3 rfl) ?_
            exact wm_iret hx hb hr hlk hP rfl rfl rfl hS (congrArg (fun z => some (Value.int (iZ z))) (show (dgZ (V 0) f a 9 : Int) = n from by rw [hI44.2.2, dg_at (by omega), if_neg (by rw [hnv (by omega)]; omega)])) dX1_degree_75
          · refine zi_inc (lv' := [(3, .int (iZ (n + (-1)))), (0, .ref mo), (1, .int (iZ f)), (2, .int (iZ a))]) hx hb dX1_degree_68 hl (k := 3) rfl (by decide) rfl (fun ls hl => ?_)
            refine lv_goto (tgt := 44) hx hb dX1_degree_71 (by decide) ?_
            exact ih44 (m44 - 1) (n + (-1)) (by omega) (by (try dsimp only); refine ⟨by omega, by omega, ?_⟩; rw [hI44.2.2, dg_at (by omega), if_pos (by rw [hnv (by omega)]; omega)]; exact congrArg _ (by omega)) ls (lv_sub hl [1, 2, 3, 0] rfl)
      · exfalso
        omega
  · refine zi_const hx hb 1 dX1_degree_9 ?_
    refine lv_goto (tgt := 30) hx hb dX1_degree_10 (by decide) ?_
    exfalso
    omega
set_option maxHeartbeats 4000000 in
set_option maxRecDepth 100000 in
theorem kO_X1_degree (l : Launch) (D : va_G) (mo : Nat) (na : Nat → Nat) (cI cJ : ClassId) (c0 k : Int) (V : Nat → Nat → Int) (f a : Int) (hd : dM mo na) (hk : 0 ≤ k ∧ k ≤ 60) (hf0 : -2147483648 ≤ f ∧ f ≤ 2147483647) (ha0 : -2147483648 ≤ a ∧ a ≤ 2147483647) (h0 : ¬ (0 ≤ f ∧ f < k)) : wm_M l yX1_degree cX1_degree 4 (some .int) ({ frames := 2, cells := 0, slots := 0, locals := 46 }) [.int (iZ f), .int (iZ a)] D mo na cI cJ c0 k V (some (.int (iZ 0))) 1 k (fun Z => Z = V) := by
  refine wm_of (by decide) rfl (Nat.le_of_ble_eq_true rfl) ?_
  intro p e s m below meth c A hAe S hr hlk hP hK hA hAn hS ls hl
  obtain ⟨hx, hb, hml, hown, hT⟩ := id S
  have hl : lv_has ls 4 [(0, .ref mo), (1, .int (iZ f)), (2, .int (iZ a))] := hl
  refine lv_aload_n hx hb dX1_degree_0 rfl (lv_at hl 0 rfl) ?_
  refine lv_aload_n hx hb dX1_degree_1 rfl (lv_at hl 0 rfl) ?_
  refine lv_iload_n hx hb dX1_degree_2 rfl (lv_at hl 1 rfl) ?_
  refine rd_V (As := [.int (iZ f)]) (rest := [.ref mo]) (st1 := [.int (iZ (inZ f 0 (k - 1))), .ref mo]) S (k_X1_isThere l D mo na cI cJ c0 k V f (by omega) (by omega)) tb_466 tb_468 ts_X1_isThere tb_2 tb_469 hd_X1_isThere ⟨rfl, rfl, by decide, by decide⟩ rM_bl (rM_mv hP hK) (va_recv hK hP (ci := 1) (q0 := 0) rfl rfl) rfl hl.1 rfl (Nat.le_of_ble_eq_true rfl) dX1_degree_3 ⟨Nat.zero_le _, Nat.zero_le _⟩ rfl ?_
  have hi6 := inZ_or f 0 (k - 1)
  refine zi_fne (tgt := 13) hx hb dX1_degree_6 (by decide) (by omega) (fun hc6 => ?_) (fun hc6 => ?_)
  · refine lv_iload_n hx hb dX1_degree_13 rfl (lv_at hl 2 rfl) ?_
    refine zi_i2l hx hb dX1_degree_14 (by omega) ?_
    refine zl_const hx hb 0 dX1_degree_15 (by decide) ?_
    refine zl_ldc hx hb 7 hown (hT _ tb_436) (by decide) dX1_degree_16 ?_
    refine rd_S (As := [.long (lZ a), .long (lZ 0), .long (lZ 7)]) (rest := [.ref mo]) (st1 := [.int (iZ (inZ a 0 7)), .ref mo]) S (k_X1_in l a 0 7 (by omega) (by omega) (by omega)) tb_437 tb_438 tb_2 tb_439 hd_X1_in ⟨rfl, rfl, by decide, by decide⟩ bl_T (fun _ _ _ => trivial) rfl hl.1 rfl (Nat.le_of_ble_eq_true rfl) dX1_degree_19 ⟨Nat.zero_le _, Nat.zero_le _⟩ rfl ?_
    have hi22 := inZ_or a 0 7
    refine zi_feq (tgt := 29) hx hb dX1_degree_22 (by decide) (by omega) (fun hc22 => ?_) (fun hc22 => ?_)
    · refine zi_const hx hb 2 dX1_degree_29 ?_
      exfalso
      omega
    · refine zi_const hx hb 0 dX1_degree_25 ?_
      refine lv_goto (tgt := 30) hx hb dX1_degree_26 (by decide) ?_
      exfalso
      omega
  · refine zi_const hx hb 1 dX1_degree_9 ?_
    refine lv_goto (tgt := 30) hx hb dX1_degree_10 (by decide) ?_
    refine va_put (D := D) (ci := 1) (v := .int (iZ 1)) (ty := .int) (C := RX1) (T := TX1) (N := 8) hx hb hT inX1 tyX1 tyX1_ok nmX1 hown hK hP (dM_D hd hA) hS 0 rfl rfl 0 (by decide) (hT _ tb_402) (fun _ h9 => h9) rfl (by decide +kernel) rfl rfl (Nat.le_of_ble_eq_true rfl) dX1_degree_30 (fun H locs hP _ hS => ?_)
    have hP : va_P D vwCl (mX mo na cI cJ 1 k V) H := hP
    refine lv_aload_n hx hb dX1_degree_33 rfl (lv_at hl 0 rfl) ?_
    refine va_get (D := D) (ci := 1) (C := RX1) (T := TX1) (N := 8) hx hb hT inX1 hown hK hP 0 rfl rfl 0 (by decide) (hT _ tb_402) (fun _ h9 => h9) rfl dX1_degree_34 ?_
    refine zi_fle (tgt := 42) hx hb dX1_degree_37 (by decide) (by omega) (fun hc37 => ?_) (fun hc37 => ?_)
    · exfalso
      omega
    · refine zi_const hx hb 0 dX1_degree_40 ?_
      exact wm_iret hx hb hr hlk hP rfl rfl rfl hS (congrArg (fun z => some (Value.int (iZ z))) (show (0 : Int) = 0 from rfl)) dX1_degree_41
set_option maxHeartbeats 4000000 in
set_option maxRecDepth 100000 in
theorem kA_X1_degree (l : Launch) (D : va_G) (mo : Nat) (na : Nat → Nat) (cI cJ : ClassId) (c0 k : Int) (V : Nat → Nat → Int) (f a : Int) (hd : dM mo na) (hk : 0 ≤ k ∧ k ≤ 60) (hf : 0 ≤ f ∧ f < k) (ha0 : -2147483648 ≤ a ∧ a ≤ 2147483647) (h0 : ¬ (0 ≤ a ∧ a < 8)) : wm_M l yX1_degree cX1_degree 4 (some .int) ({ frames := 2, cells := 0, slots := 0, locals := 46 }) [.int (iZ f), .int (iZ a)] D mo na cI cJ c0 k V (some (.int (iZ 0))) 2 k (fun Z => Z = V) := by
  refine wm_of (by decide) rfl (Nat.le_of_ble_eq_true rfl) ?_
  intro p e s m below meth c A hAe S hr hlk hP hK hA hAn hS ls hl
  obtain ⟨hx, hb, hml, hown, hT⟩ := id S
  have hl : lv_has ls 4 [(0, .ref mo), (1, .int (iZ f)), (2, .int (iZ a))] := hl
  refine lv_aload_n hx hb dX1_degree_0 rfl (lv_at hl 0 rfl) ?_
  refine lv_aload_n hx hb dX1_degree_1 rfl (lv_at hl 0 rfl) ?_
  refine lv_iload_n hx hb dX1_degree_2 rfl (lv_at hl 1 rfl) ?_
  refine rd_V (As := [.int (iZ f)]) (rest := [.ref mo]) (st1 := [.int (iZ (inZ f 0 (k - 1))), .ref mo]) S (k_X1_isThere l D mo na cI cJ c0 k V f (by omega) (by omega)) tb_466 tb_468 ts_X1_isThere tb_2 tb_469 hd_X1_isThere ⟨rfl, rfl, by decide, by decide⟩ rM_bl (rM_mv hP hK) (va_recv hK hP (ci := 1) (q0 := 0) rfl rfl) rfl hl.1 rfl (Nat.le_of_ble_eq_true rfl) dX1_degree_3 ⟨Nat.zero_le _, Nat.zero_le _⟩ rfl ?_
  have hi6 := inZ_or f 0 (k - 1)
  refine zi_fne (tgt := 13) hx hb dX1_degree_6 (by decide) (by omega) (fun hc6 => ?_) (fun hc6 => ?_)
  · refine lv_iload_n hx hb dX1_degree_13 rfl (lv_at hl 2 rfl) ?_
    refine zi_i2l hx hb dX1_degree_14 (by omega) ?_
    refine zl_const hx hb 0 dX1_degree_15 (by decide) ?_
    refine zl_ldc hx hb 7 hown (hT _ tb_436) (by decide) dX1_degree_16 ?_
    refine rd_S (As := [.long (lZ a), .long (lZ 0), .long (lZ 7)]) (rest := [.ref mo]) (st1 := [.int (iZ (inZ a 0 7)), .ref mo]) S (k_X1_in l a 0 7 (by omega) (by omega) (by omega)) tb_437 tb_438 tb_2 tb_439 hd_X1_in ⟨rfl, rfl, by decide, by decide⟩ bl_T (fun _ _ _ => trivial) rfl hl.1 rfl (Nat.le_of_ble_eq_true rfl) dX1_degree_19 ⟨Nat.zero_le _, Nat.zero_le _⟩ rfl ?_
    have hi22 := inZ_or a 0 7
    refine zi_feq (tgt := 29) hx hb dX1_degree_22 (by decide) (by omega) (fun hc22 => ?_) (fun hc22 => ?_)
    · refine zi_const hx hb 2 dX1_degree_29 ?_
      refine va_put (D := D) (ci := 1) (v := .int (iZ 2)) (ty := .int) (C := RX1) (T := TX1) (N := 8) hx hb hT inX1 tyX1 tyX1_ok nmX1 hown hK hP (dM_D hd hA) hS 0 rfl rfl 0 (by decide) (hT _ tb_402) (fun _ h9 => h9) rfl (by decide +kernel) rfl rfl (Nat.le_of_ble_eq_true rfl) dX1_degree_30 (fun H locs hP _ hS => ?_)
      have hP : va_P D vwCl (mX mo na cI cJ 2 k V) H := hP
      refine lv_aload_n hx hb dX1_degree_33 rfl (lv_at hl 0 rfl) ?_
      refine va_get (D := D) (ci := 1) (C := RX1) (T := TX1) (N := 8) hx hb hT inX1 hown hK hP 0 rfl rfl 0 (by decide) (hT _ tb_402) (fun _ h9 => h9) rfl dX1_degree_34 ?_
      refine zi_fle (tgt := 42) hx hb dX1_degree_37 (by decide) (by omega) (fun hc37 => ?_) (fun hc37 => ?_)
      · exfalso
        omega
      · refine zi_const hx hb 0 dX1_degree_40 ?_
        exact wm_iret hx hb hr hlk hP rfl rfl rfl hS (congrArg (fun z => some (Value.int (iZ z))) (show (0 : Int) = 0 from rfl)) dX1_degree_41
    · refine zi_const hx hb 0 dX1_degree_25 ?_
      refine lv_goto (tgt := 30) hx hb dX1_degree_26 (by decide) ?_
      exfalso
      omega
  · refine zi_const hx hb 1 dX1_degree_9 ?_
    refine lv_goto (tgt := 30) hx hb dX1_degree_10 (by decide) ?_
    exfalso
    omega
set_option maxHeartbeats 4000000 in
set_option maxRecDepth 100000 in
theorem k_X1_same (l : Launch) (D : va_G) (mo : Nat) (na : Nat → Nat) (cI cJ : ClassId) (c0 k : Int) (V : Nat → Nat → Int) (f g : Int) (hd : dM mo na) (hN : ∀ j, 0 ≤ V 0 j ∧ V 0 j < 32003) (hk : 0 ≤ k ∧ k ≤ 60) (hf : 0 ≤ f ∧ f < k) (hg : 0 ≤ g ∧ g < k) : wm_M l yX1_same cX1_same 4 (some .boolean) ({ frames := 2, cells := 0, slots := 0, locals := 46 }) [.int (iZ f), .int (iZ g)] D mo na cI cJ c0 k V (some (.int (iZ (smZ (V 0) f g)))) 0 k (fun Z => Z = V) := by
  refine wm_of (by decide) rfl (Nat.le_of_ble_eq_true rfl) ?_
  intro p e s m below meth c A hAe S hr hlk hP hK hA hAn hS ls hl
  obtain ⟨hx, hb, hml, hown, hT⟩ := id S
  have hl : lv_has ls 4 [(0, .ref mo), (1, .int (iZ f)), (2, .int (iZ g))] := hl
  refine lv_aload_n hx hb dX1_same_0 rfl (lv_at hl 0 rfl) ?_
  refine lv_aload_n hx hb dX1_same_1 rfl (lv_at hl 0 rfl) ?_
  refine lv_iload_n hx hb dX1_same_2 rfl (lv_at hl 1 rfl) ?_
  refine rd_V (As := [.int (iZ f)]) (rest := [.ref mo]) (st1 := [.int (iZ (inZ f 0 (k - 1))), .ref mo]) S (k_X1_isThere l D mo na cI cJ c0 k V f (by omega) (by omega)) tb_466 tb_468 ts_X1_isThere tb_2 tb_469 hd_X1_isThere ⟨rfl, rfl, by decide, by decide⟩ rM_bl (rM_mv hP hK) (va_recv hK hP (ci := 1) (q0 := 0) rfl rfl) rfl hl.1 rfl (Nat.le_of_ble_eq_true rfl) dX1_same_3 ⟨Nat.zero_le _, Nat.zero_le _⟩ rfl ?_
  have hi6 := inZ_or f 0 (k - 1)
  refine zi_feq (tgt := 21) hx hb dX1_same_6 (by decide) (by omega) (fun hc6 => ?_) (fun hc6 => ?_)
  · refine zi_const hx hb 1 dX1_same_21 ?_
    exfalso
    omega
  · refine lv_aload_n hx hb dX1_same_9 rfl (lv_at hl 0 rfl) ?_
    refine lv_iload_n hx hb dX1_same_10 rfl (lv_at hl 2 rfl) ?_
    refine rd_V (As := [.int (iZ g)]) (rest := [.ref mo]) (st1 := [.int (iZ (inZ g 0 (k - 1))), .ref mo]) S (k_X1_isThere l D mo na cI cJ c0 k V g (by omega) (by omega)) tb_466 tb_468 ts_X1_isThere tb_2 tb_469 hd_X1_isThere ⟨rfl, rfl, by decide, by decide⟩ rM_bl (rM_mv hP hK) (va_recv hK hP (ci := 1) (q0 := 0) rfl rfl) rfl hl.1 rfl (Nat.le_of_ble_eq_true rfl) dX1_same_11 ⟨Nat.zero_le _, Nat.zero_le _⟩ rfl ?_
    have hi14 := inZ_or g 0 (k - 1)
    refine zi_feq (tgt := 21) hx hb dX1_same_14 (by decide) (by omega) (fun hc14 => ?_) (fun hc14 => ?_)
    · refine zi_const hx hb 1 dX1_same_21 ?_
      exfalso
      omega
    · refine zi_const hx hb 0 dX1_same_17 ?_
      refine lv_goto (tgt := 22) hx hb dX1_same_18 (by decide) ?_
      refine va_put (D := D) (ci := 1) (v := .int (iZ 0)) (ty := .int) (C := RX1) (T := TX1) (N := 8) hx hb hT inX1 tyX1 tyX1_ok nmX1 hown hK hP (dM_D hd hA) hS 0 rfl rfl 0 (by decide) (hT _ tb_402) (fun _ h9 => h9) rfl (by decide +kernel) rfl rfl (Nat.le_of_ble_eq_true rfl) dX1_same_22 (fun H locs hP _ hS => ?_)
      have hP : va_P D vwCl (mX mo na cI cJ 0 k V) H := hP
      refine lv_aload_n hx hb dX1_same_25 rfl (lv_at hl 0 rfl) ?_
      refine va_get (D := D) (ci := 1) (C := RX1) (T := TX1) (N := 8) hx hb hT inX1 hown hK hP 0 rfl rfl 0 (by decide) (hT _ tb_402) (fun _ h9 => h9) rfl dX1_same_26 ?_
      refine zi_fle (tgt := 34) hx hb dX1_same_29 (by decide) (by omega) (fun hc29 => ?_) (fun hc29 => ?_)
      · refine zi_const hx hb 0 dX1_same_34 ?_
        refine lv_istore_n (lv' := [(3, .int (iZ 0)), (0, .ref mo), (1, .int (iZ f)), (2, .int (iZ g))]) hx hb dX1_same_35 rfl hl (by decide) rfl (fun ls hl => ?_)
        refine lp_go (nL := 4) (α := Int) (fun z => [(0, .ref mo), (1, .int (iZ f)), (2, .int (iZ g)), (3, .int (iZ z))]) (fun m36 z => 0 ≤ z ∧ z + (m36 : Int) = 72 ∧ ∀ j : Nat, (j : Int) < z → V 0 ((f * 72).toNat + j) = V 0 ((g * 72).toNat + j)) ?_ 72 ((0 : Int)) (by (try dsimp only); exact ⟨by omega, by omega, fun j hj => by omega⟩) ls (lv_sub hl [1, 2, 3, 0] rfl)
        intro m36 z1 hI36 ih36 ls hl
        obtain ⟨i, rfl⟩ : ∃ y : Int, y = z1 := ⟨_, rfl⟩
        have hl : lv_has ls 4 [(0, .ref mo), (1, .int (iZ f)), (2, .int (iZ g)), (3, .int (iZ i))] := hl
        have hI36 : 0 ≤ i ∧ i + (m36 : Int) = 72 ∧ ∀ j : Nat, (j : Int) < i → V 0 ((f * 72).toNat + j) = V 0 ((g * 72).toNat + j) := hI36
        have hf1 : V 0 (72 * f + i).toNat = V 0 ((f * 72).toNat + i.toNat) := congrArg (V 0) (by omega)
        have hg1 : V 0 (72 * g + i).toNat = V 0 ((g * 72).toNat + i.toNat) := congrArg (V 0) (by omega)
        have hr1 := hN (72 * f + i).toNat
        have hr2 := hN (72 * g + i).toNat
        refine lv_iload_n hx hb dX1_same_36 rfl (lv_at hl 3 rfl) ?_
        refine zi_bi hx hb 72 dX1_same_37 (by decide) ?_
        refine zi_cge (tgt := 75) hx hb dX1_same_39 (by decide) (by omega) (by omega) (fun hc39 => ?_) (fun hc39 => ?_)
        · refine zi_const hx hb 1 dX1_same_75 ?_
          exact wm_zret hx hb hr hlk hP rfl rfl rfl hS (congrArg (fun z => some (Value.int (iZ z))) (show (smZ (V 0) f g : Int) = 1 from by unfold smZ; rw [if_pos]; intro j hj; exact hI36.2.2 j (by omega))) (by decide) dX1_same_76
        · refine lv_aload_n hx hb dX1_same_42 rfl (lv_at hl 0 rfl) ?_
          refine va_get (D := D) (ci := 1) (C := RX1) (T := TX1) (N := 8) hx hb hT inX1 hown hK hP 0 rfl rfl 2 (by decide) (hT _ tb_404) (fun _ h9 => h9) rfl dX1_same_43 ?_
          refine zi_bi hx hb 72 dX1_same_46 (by decide) ?_
          refine lv_iload_n hx hb dX1_same_48 rfl (lv_at hl 1 rfl) ?_
          refine zi_mul hx hb dX1_same_49 ?_
          refine lv_iload_n hx hb dX1_same_50 rfl (lv_at hl 3 rfl) ?_
          refine zi_add hx hb dX1_same_51 ?_
          refine va_iald hx hb hK hP 1 0 rfl rfl (iZ_in (by omega) (by omega) (by decide)) dX1_same_52 ?_
          refine zi_as (a := V 0 (((72 * f) + i).toNat)) (by rw [iZ_cl (by omega) (by omega)]) ?_
          refine lv_aload_n hx hb dX1_same_53 rfl (lv_at hl 0 rfl) ?_
          refine va_get (D := D) (ci := 1) (C := RX1) (T := TX1) (N := 8) hx hb hT inX1 hown hK hP 0 rfl rfl 2 (by decide) (hT _ tb_404) (fun _ h9 => h9) rfl dX1_same_54 ?_
          refine zi_bi hx hb 72 dX1_same_57 (by decide) ?_
          refine lv_iload_n hx hb dX1_same_59 rfl (lv_at hl 2 rfl) ?_
          refine zi_mul hx hb dX1_same_60 ?_
          refine lv_iload_n hx hb dX1_same_61 rfl (lv_at hl 3 rfl) ?_
          refine zi_add hx hb dX1_same_62 ?_
          refine va_iald hx hb hK hP 1 0 rfl rfl (iZ_in (by omega) (by omega) (by decide)) dX1_same_63 ?_
          refine zi_as (a := V 0 (((72 * g) + i).toNat)) (by rw [iZ_cl (by omega) (by omega)]) ?_
          refine zi_ceq (tgt := 69) hx hb dX1_same_64 (by decide) (by omega) (by omega) (fun hc64 => ?_) (fun hc64 => ?_)
          · refine zi_inc (lv' := [(3, .int (iZ (i + 1))), (0, .ref mo), (1, .int (iZ f)), (2, .int (iZ g))]) hx hb dX1_same_69 hl (k := 3) rfl (by decide) rfl (fun ls hl => ?_)
            refine lv_goto (tgt := 36) hx hb dX1_same_72 (by decide) ?_
            exact ih36 (m36 - 1) (i + 1) (by omega) (by (try dsimp only); refine ⟨by omega, by omega, ?_⟩; intro j hj; rcases (show (j : Int) < i ∨ j = i.toNat by omega) with h3 | h3; exact hI36.2.2 j h3; rw [h3, ← hf1, ← hg1]; exact hc64) ls (lv_sub hl [1, 2, 3, 0] rfl)
          · refine zi_const hx hb 0 dX1_same_67 ?_
            exact wm_zret hx hb hr hlk hP rfl rfl rfl hS (congrArg (fun z => some (Value.int (iZ z))) (show (smZ (V 0) f g : Int) = 0 from by unfold smZ; rw [if_neg]; intro h; have h2 := h i.toNat (by omega); rw [← hf1, ← hg1] at h2; exact hc64 h2)) (by decide) dX1_same_68
      · exfalso
        omega
set_option maxHeartbeats 4000000 in
set_option maxRecDepth 100000 in
theorem kO_X1_same (l : Launch) (D : va_G) (mo : Nat) (na : Nat → Nat) (cI cJ : ClassId) (c0 k : Int) (V : Nat → Nat → Int) (f g : Int) (hd : dM mo na) (hk : 0 ≤ k ∧ k ≤ 60) (hf0 : -2147483648 ≤ f ∧ f ≤ 2147483647) (hg0 : -2147483648 ≤ g ∧ g ≤ 2147483647) (h0 : ¬ ((0 ≤ f ∧ f < k) ∧ (0 ≤ g ∧ g < k))) : wm_M l yX1_same cX1_same 4 (some .boolean) ({ frames := 2, cells := 0, slots := 0, locals := 46 }) [.int (iZ f), .int (iZ g)] D mo na cI cJ c0 k V (some (.int (iZ 0))) 1 k (fun Z => Z = V) := by
  refine wm_of (by decide) rfl (Nat.le_of_ble_eq_true rfl) ?_
  intro p e s m below meth c A hAe S hr hlk hP hK hA hAn hS ls hl
  obtain ⟨hx, hb, hml, hown, hT⟩ := id S
  have hl : lv_has ls 4 [(0, .ref mo), (1, .int (iZ f)), (2, .int (iZ g))] := hl
  refine lv_aload_n hx hb dX1_same_0 rfl (lv_at hl 0 rfl) ?_
  refine lv_aload_n hx hb dX1_same_1 rfl (lv_at hl 0 rfl) ?_
  refine lv_iload_n hx hb dX1_same_2 rfl (lv_at hl 1 rfl) ?_
  refine rd_V (As := [.int (iZ f)]) (rest := [.ref mo]) (st1 := [.int (iZ (inZ f 0 (k - 1))), .ref mo]) S (k_X1_isThere l D mo na cI cJ c0 k V f (by omega) (by omega)) tb_466 tb_468 ts_X1_isThere tb_2 tb_469 hd_X1_isThere ⟨rfl, rfl, by decide, by decide⟩ rM_bl (rM_mv hP hK) (va_recv hK hP (ci := 1) (q0 := 0) rfl rfl) rfl hl.1 rfl (Nat.le_of_ble_eq_true rfl) dX1_same_3 ⟨Nat.zero_le _, Nat.zero_le _⟩ rfl ?_
  have hi6 := inZ_or f 0 (k - 1)
  refine zi_feq (tgt := 21) hx hb dX1_same_6 (by decide) (by omega) (fun hc6 => ?_) (fun hc6 => ?_)
  · refine zi_const hx hb 1 dX1_same_21 ?_
    refine va_put (D := D) (ci := 1) (v := .int (iZ 1)) (ty := .int) (C := RX1) (T := TX1) (N := 8) hx hb hT inX1 tyX1 tyX1_ok nmX1 hown hK hP (dM_D hd hA) hS 0 rfl rfl 0 (by decide) (hT _ tb_402) (fun _ h9 => h9) rfl (by decide +kernel) rfl rfl (Nat.le_of_ble_eq_true rfl) dX1_same_22 (fun H locs hP _ hS => ?_)
    have hP : va_P D vwCl (mX mo na cI cJ 1 k V) H := hP
    refine lv_aload_n hx hb dX1_same_25 rfl (lv_at hl 0 rfl) ?_
    refine va_get (D := D) (ci := 1) (C := RX1) (T := TX1) (N := 8) hx hb hT inX1 hown hK hP 0 rfl rfl 0 (by decide) (hT _ tb_402) (fun _ h9 => h9) rfl dX1_same_26 ?_
    refine zi_fle (tgt := 34) hx hb dX1_same_29 (by decide) (by omega) (fun hc29 => ?_) (fun hc29 => ?_)
    · exfalso
      omega
    · refine zi_const hx hb 0 dX1_same_32 ?_
      exact wm_zret hx hb hr hlk hP rfl rfl rfl hS (congrArg (fun z => some (Value.int (iZ z))) (show (0 : Int) = 0 from rfl)) (by decide) dX1_same_33
  · refine lv_aload_n hx hb dX1_same_9 rfl (lv_at hl 0 rfl) ?_
    refine lv_iload_n hx hb dX1_same_10 rfl (lv_at hl 2 rfl) ?_
    refine rd_V (As := [.int (iZ g)]) (rest := [.ref mo]) (st1 := [.int (iZ (inZ g 0 (k - 1))), .ref mo]) S (k_X1_isThere l D mo na cI cJ c0 k V g (by omega) (by omega)) tb_466 tb_468 ts_X1_isThere tb_2 tb_469 hd_X1_isThere ⟨rfl, rfl, by decide, by decide⟩ rM_bl (rM_mv hP hK) (va_recv hK hP (ci := 1) (q0 := 0) rfl rfl) rfl hl.1 rfl (Nat.le_of_ble_eq_true rfl) dX1_same_11 ⟨Nat.zero_le _, Nat.zero_le _⟩ rfl ?_
    have hi14 := inZ_or g 0 (k - 1)
    refine zi_feq (tgt := 21) hx hb dX1_same_14 (by decide) (by omega) (fun hc14 => ?_) (fun hc14 => ?_)
    · refine zi_const hx hb 1 dX1_same_21 ?_
      refine va_put (D := D) (ci := 1) (v := .int (iZ 1)) (ty := .int) (C := RX1) (T := TX1) (N := 8) hx hb hT inX1 tyX1 tyX1_ok nmX1 hown hK hP (dM_D hd hA) hS 0 rfl rfl 0 (by decide) (hT _ tb_402) (fun _ h9 => h9) rfl (by decide +kernel) rfl rfl (Nat.le_of_ble_eq_true rfl) dX1_same_22 (fun H locs hP _ hS => ?_)
      have hP : va_P D vwCl (mX mo na cI cJ 1 k V) H := hP
      refine lv_aload_n hx hb dX1_same_25 rfl (lv_at hl 0 rfl) ?_
      refine va_get (D := D) (ci := 1) (C := RX1) (T := TX1) (N := 8) hx hb hT inX1 hown hK hP 0 rfl rfl 0 (by decide) (hT _ tb_402) (fun _ h9 => h9) rfl dX1_same_26 ?_
      refine zi_fle (tgt := 34) hx hb dX1_same_29 (by decide) (by omega) (fun hc29 => ?_) (fun hc29 => ?_)
      · exfalso
        omega
      · refine zi_const hx hb 0 dX1_same_32 ?_
        exact wm_zret hx hb hr hlk hP rfl rfl rfl hS (congrArg (fun z => some (Value.int (iZ z))) (show (0 : Int) = 0 from rfl)) (by decide) dX1_same_33
    · refine zi_const hx hb 0 dX1_same_17 ?_
      refine lv_goto (tgt := 22) hx hb dX1_same_18 (by decide) ?_
      exfalso
      omega
theorem tm_add {g : Nat → Int} {lo : Nat} {i : Int} (hi : 0 ≤ i) {w : Int} (hw : w = (if g (lo + i.toNat) = 0 then 0 else 1)) : cnZ g lo i.toNat + w = cnZ g lo (i + 1).toNat := by
  rw [show (i + 1).toNat = i.toNat + 1 by omega, cnZ_step, hw]
def clZ (i : Int) : Int := if i < 0 then 0 else if 9 < i then 9 else i
theorem cl_or (i : Int) : (i < 0 ∧ clZ i = 0) ∨ (9 < i ∧ clZ i = 9) ∨ (0 ≤ i ∧ i ≤ 9 ∧ clZ i = i) := by unfold clZ; split <;> (try split) <;> omega
set_option maxHeartbeats 4000000 in
set_option maxRecDepth 100000 in
theorem k_X1_terms (l : Launch) (D : va_G) (mo : Nat) (na : Nat → Nat) (cI cJ : ClassId) (c0 k : Int) (V : Nat → Nat → Int) (f a : Int) (hd : dM mo na) (hN : ∀ j, 0 ≤ V 0 j ∧ V 0 j < 32003) (hk : 0 ≤ k ∧ k ≤ 60) (hf : 0 ≤ f ∧ f < k) (ha : 0 ≤ a ∧ a < 8) : wm_M l yX1_terms cX1_terms 5 (some .int) ({ frames := 2, cells := 0, slots := 0, locals := 46 }) [.int (iZ f), .int (iZ a)] D mo na cI cJ c0 k V (some (.int (iZ (tmZ (V 0) f a)))) 0 k (fun Z => Z = V) := by
  refine wm_of (by decide) rfl (Nat.le_of_ble_eq_true rfl) ?_
  intro p e s m below meth c A hAe S hr hlk hP hK hA hAn hS ls hl
  obtain ⟨hx, hb, hml, hown, hT⟩ := id S
  have hl : lv_has ls 5 [(0, .ref mo), (1, .int (iZ f)), (2, .int (iZ a))] := hl
  refine lv_aload_n hx hb dX1_terms_0 rfl (lv_at hl 0 rfl) ?_
  refine lv_aload_n hx hb dX1_terms_1 rfl (lv_at hl 0 rfl) ?_
  refine lv_iload_n hx hb dX1_terms_2 rfl (lv_at hl 1 rfl) ?_
  refine rd_V (As := [.int (iZ f)]) (rest := [.ref mo]) (st1 := [.int (iZ (inZ f 0 (k - 1))), .ref mo]) S (k_X1_isThere l D mo na cI cJ c0 k V f (by omega) (by omega)) tb_466 tb_468 ts_X1_isThere tb_2 tb_469 hd_X1_isThere ⟨rfl, rfl, by decide, by decide⟩ rM_bl (rM_mv hP hK) (va_recv hK hP (ci := 1) (q0 := 0) rfl rfl) rfl hl.1 rfl (Nat.le_of_ble_eq_true rfl) dX1_terms_3 ⟨Nat.zero_le _, Nat.zero_le _⟩ rfl ?_
  have hi6 := inZ_or f 0 (k - 1)
  refine zi_fne (tgt := 13) hx hb dX1_terms_6 (by decide) (by omega) (fun hc6 => ?_) (fun hc6 => ?_)
  · refine lv_iload_n hx hb dX1_terms_13 rfl (lv_at hl 2 rfl) ?_
    refine zi_i2l hx hb dX1_terms_14 (by omega) ?_
    refine zl_ldc hx hb (-1) hown (hT _ tb_457) (by decide) dX1_terms_15 ?_
    refine zl_ldc hx hb 7 hown (hT _ tb_436) (by decide) dX1_terms_18 ?_
    refine rd_S (As := [.long (lZ a), .long (lZ (-1)), .long (lZ 7)]) (rest := [.ref mo]) (st1 := [.int (iZ (inZ a (-1) 7)), .ref mo]) S (k_X1_in l a (-1) 7 (by omega) (by omega) (by omega)) tb_437 tb_438 tb_2 tb_439 hd_X1_in ⟨rfl, rfl, by decide, by decide⟩ bl_T (fun _ _ _ => trivial) rfl hl.1 rfl (Nat.le_of_ble_eq_true rfl) dX1_terms_21 ⟨Nat.zero_le _, Nat.zero_le _⟩ rfl ?_
    have hi24 := inZ_or a (-1) 7
    refine zi_feq (tgt := 31) hx hb dX1_terms_24 (by decide) (by omega) (fun hc24 => ?_) (fun hc24 => ?_)
    · refine zi_const hx hb 2 dX1_terms_31 ?_
      exfalso
      omega
    · refine zi_const hx hb 0 dX1_terms_27 ?_
      refine lv_goto (tgt := 32) hx hb dX1_terms_28 (by decide) ?_
      refine va_put (D := D) (ci := 1) (v := .int (iZ 0)) (ty := .int) (C := RX1) (T := TX1) (N := 8) hx hb hT inX1 tyX1 tyX1_ok nmX1 hown hK hP (dM_D hd hA) hS 0 rfl rfl 0 (by decide) (hT _ tb_402) (fun _ h9 => h9) rfl (by decide +kernel) rfl rfl (Nat.le_of_ble_eq_true rfl) dX1_terms_32 (fun H locs hP _ hS => ?_)
      have hP : va_P D vwCl (mX mo na cI cJ 0 k V) H := hP
      refine zi_const hx hb 0 dX1_terms_35 ?_
      refine lv_istore_n (lv' := [(3, .int (iZ 0)), (0, .ref mo), (1, .int (iZ f)), (2, .int (iZ a))]) hx hb dX1_terms_36 rfl hl (by decide) rfl (fun ls hl => ?_)
      refine zi_const hx hb 0 dX1_terms_37 ?_
      refine lv_istore (lv' := [(4, .int (iZ 0)), (3, .int (iZ 0)), (0, .ref mo), (1, .int (iZ f)), (2, .int (iZ a))]) hx hb dX1_terms_38 hl (by decide) rfl (fun ls hl => ?_)
      refine lp_go (nL := 5) (α := Int × Int) (fun z => [(0, .ref mo), (1, .int (iZ f)), (2, .int (iZ a)), (3, .int (iZ z.1)), (4, .int (iZ z.2))]) (fun m40 z => 0 ≤ z.2 ∧ z.2 + (m40 : Int) = 72 ∧ z.1 = cnZ (V 0) (f * 72 + a * 9).toNat (clZ (z.2 - a * 9)).toNat) ?_ 72 ((0 : Int), (0 : Int)) (by (try dsimp only); refine ⟨by omega, by omega, ?_⟩; have c1 := cl_or (0 - a * 9); rw [show clZ (0 - a * 9) = 0 by omega]; rfl) ls (lv_sub hl [2, 3, 4, 1, 0] rfl)
      intro m40 z1 hI40 ih40 ls hl
      obtain ⟨u, i⟩ := z1
      have hl : lv_has ls 5 [(0, .ref mo), (1, .int (iZ f)), (2, .int (iZ a)), (3, .int (iZ u)), (4, .int (iZ i))] := hl
      have hI40 : 0 ≤ i ∧ i + (m40 : Int) = 72 ∧ u = cnZ (V 0) (f * 72 + a * 9).toNat (clZ (i - a * 9)).toNat := hI40
      have hr1 := hN (72 * f + i).toNat
      have htd : Int.tdiv i 9 = i / 9 := Int.tdiv_eq_ediv_of_nonneg hI40.1
      refine lv_iload hx hb dX1_terms_40 (lv_at hl 4 rfl) ?_
      refine zi_bi hx hb 72 dX1_terms_42 (by decide) ?_
      refine zi_cge (tgt := 92) hx hb dX1_terms_44 (by decide) (by omega) (by omega) (fun hc44 => ?_) (fun hc44 => ?_)
      · refine lv_iload_n hx hb dX1_terms_92 rfl (lv_at hl 3 rfl) ?_
        exact wm_iret hx hb hr hlk hP rfl rfl rfl hS (congrArg (fun z => some (Value.int (iZ z))) (show (tmZ (V 0) f a : Int) = u from by unfold tmZ; rw [if_neg (by omega), hI40.2.2]; have c1 := cl_or (i - a * 9); rw [show clZ (i - a * 9) = 9 by omega]; rfl)) dX1_terms_93
      · refine lv_aload_n hx hb dX1_terms_47 rfl (lv_at hl 0 rfl) ?_
        refine va_get (D := D) (ci := 1) (C := RX1) (T := TX1) (N := 8) hx hb hT inX1 hown hK hP 0 rfl rfl 0 (by decide) (hT _ tb_402) (fun _ h9 => h9) rfl dX1_terms_48 ?_
        refine zi_fne (tgt := 92) hx hb dX1_terms_51 (by decide) (by omega) (fun hc51 => ?_) (fun hc51 => ?_)
        · exfalso
          omega
        · refine lv_aload_n hx hb dX1_terms_54 rfl (lv_at hl 0 rfl) ?_
          refine va_get (D := D) (ci := 1) (C := RX1) (T := TX1) (N := 8) hx hb hT inX1 hown hK hP 0 rfl rfl 2 (by decide) (hT _ tb_404) (fun _ h9 => h9) rfl dX1_terms_55 ?_
          refine zi_bi hx hb 72 dX1_terms_58 (by decide) ?_
          refine lv_iload_n hx hb dX1_terms_60 rfl (lv_at hl 1 rfl) ?_
          refine zi_mul hx hb dX1_terms_61 ?_
          refine lv_iload hx hb dX1_terms_62 (lv_at hl 4 rfl) ?_
          refine zi_add hx hb dX1_terms_64 ?_
          refine va_iald hx hb hK hP 1 0 rfl rfl (iZ_in (by omega) (by omega) (by decide)) dX1_terms_65 ?_
          refine zi_as (a := V 0 (((72 * f) + i).toNat)) (by rw [iZ_cl (by omega) (by omega)]) ?_
          refine zi_feq (tgt := 86) hx hb dX1_terms_66 (by decide) (by omega) (fun hc66 => ?_) (fun hc66 => ?_)
          · refine zi_inc (lv' := [(4, .int (iZ (i + 1))), (0, .ref mo), (1, .int (iZ f)), (2, .int (iZ a)), (3, .int (iZ u))]) hx hb dX1_terms_86 hl (k := 4) rfl (by decide) rfl (fun ls hl => ?_)
            refine lv_goto (tgt := 40) hx hb dX1_terms_89 (by decide) ?_
            exact ih40 (m40 - 1) (u, i + 1) (by omega) (by (try dsimp only); refine ⟨by omega, by omega, ?_⟩; by_cases h9 : a * 9 ≤ i ∧ i < a * 9 + 9; (rw [show clZ (i + 1 - a * 9) = clZ (i - a * 9) + 1 by have c1 := cl_or (i - a * 9); have c2 := cl_or (i + 1 - a * 9); omega, ← tm_add (w := 0) (by have c1 := cl_or (i - a * 9); have c2 := cl_or (i + 1 - a * 9); omega) (by rw [if_pos (by rw [show (f * 72 + a * 9).toNat + (clZ (i - a * 9)).toNat = (72 * f + i).toNat by have c1 := cl_or (i - a * 9); have c2 := cl_or (i + 1 - a * 9); omega]; omega)])]; omega); (rw [show clZ (i + 1 - a * 9) = clZ (i - a * 9) by have c1 := cl_or (i - a * 9); have c2 := cl_or (i + 1 - a * 9); omega]; omega)) ls (lv_sub hl [1, 2, 3, 4, 0] rfl)
          · refine lv_iload_n hx hb dX1_terms_69 rfl (lv_at hl 2 rfl) ?_
            refine zi_const hx hb (-1) dX1_terms_70 ?_
            refine zi_ceq (tgt := 83) hx hb dX1_terms_71 (by decide) (by omega) (by omega) (fun hc71 => ?_) (fun hc71 => ?_)
            · exfalso
              omega
            · refine lv_iload hx hb dX1_terms_74 (lv_at hl 4 rfl) ?_
              refine zi_bi hx hb 9 dX1_terms_76 (by decide) ?_
              refine zi_div hx hb dX1_terms_78 (by omega) (by omega) ?_
              refine lv_iload_n hx hb dX1_terms_79 rfl (lv_at hl 2 rfl) ?_
              refine zi_cne (tgt := 86) hx hb dX1_terms_80 (by decide) (by omega) (by omega) (fun hc80 => ?_) (fun hc80 => ?_)
              · refine zi_inc (lv' := [(4, .int (iZ (i + 1))), (0, .ref mo), (1, .int (iZ f)), (2, .int (iZ a)), (3, .int (iZ u))]) hx hb dX1_terms_86 hl (k := 4) rfl (by decide) rfl (fun ls hl => ?_)
                refine lv_goto (tgt := 40) hx hb dX1_terms_89 (by decide) ?_
                exact ih40 (m40 - 1) (u, i + 1) (by omega) (by (try dsimp only); refine ⟨by omega, by omega, ?_⟩; rw [show clZ (i + 1 - a * 9) = clZ (i - a * 9) by have c1 := cl_or (i - a * 9); have c2 := cl_or (i + 1 - a * 9); omega]; omega) ls (lv_sub hl [1, 2, 3, 4, 0] rfl)
              · refine zi_inc (lv' := [(3, .int (iZ (u + 1))), (0, .ref mo), (1, .int (iZ f)), (2, .int (iZ a)), (4, .int (iZ i))]) hx hb dX1_terms_83 hl (k := 3) rfl (by decide) rfl (fun ls hl => ?_)
                refine zi_inc (lv' := [(4, .int (iZ (i + 1))), (3, .int (iZ (u + 1))), (0, .ref mo), (1, .int (iZ f)), (2, .int (iZ a))]) hx hb dX1_terms_86 hl (k := 4) rfl (by decide) rfl (fun ls hl => ?_)
                refine lv_goto (tgt := 40) hx hb dX1_terms_89 (by decide) ?_
                exact ih40 (m40 - 1) (u + 1, i + 1) (by omega) (by (try dsimp only); refine ⟨by omega, by omega, ?_⟩; rw [show clZ (i + 1 - a * 9) = clZ (i - a * 9) + 1 by have c1 := cl_or (i - a * 9); have c2 := cl_or (i + 1 - a * 9); omega, ← tm_add (w := 1) (by have c1 := cl_or (i - a * 9); have c2 := cl_or (i + 1 - a * 9); omega) (by rw [if_neg (by rw [show (f * 72 + a * 9).toNat + (clZ (i - a * 9)).toNat = (72 * f + i).toNat by have c1 := cl_or (i - a * 9); have c2 := cl_or (i + 1 - a * 9); omega]; omega)])]; omega) ls (lv_sub hl [2, 3, 4, 1, 0] rfl)
  · refine zi_const hx hb 1 dX1_terms_9 ?_
    refine lv_goto (tgt := 32) hx hb dX1_terms_10 (by decide) ?_
    exfalso
    omega
set_option maxHeartbeats 4000000 in
set_option maxRecDepth 100000 in
theorem k1_X1_terms (l : Launch) (D : va_G) (mo : Nat) (na : Nat → Nat) (cI cJ : ClassId) (c0 k : Int) (V : Nat → Nat → Int) (f : Int) (hd : dM mo na) (hN : ∀ j, 0 ≤ V 0 j ∧ V 0 j < 32003) (hk : 0 ≤ k ∧ k ≤ 60) (hf : 0 ≤ f ∧ f < k) : wm_M l yX1_terms cX1_terms 5 (some .int) ({ frames := 2, cells := 0, slots := 0, locals := 46 }) [.int (iZ f), .int (iZ (-1))] D mo na cI cJ c0 k V (some (.int (iZ (tmZ (V 0) f (-1))))) 0 k (fun Z => Z = V) := by
  refine wm_of (by decide) rfl (Nat.le_of_ble_eq_true rfl) ?_
  intro p e s m below meth c A hAe S hr hlk hP hK hA hAn hS ls hl
  obtain ⟨hx, hb, hml, hown, hT⟩ := id S
  have hl : lv_has ls 5 [(0, .ref mo), (1, .int (iZ f)), (2, .int (iZ (-1)))] := hl
  refine lv_aload_n hx hb dX1_terms_0 rfl (lv_at hl 0 rfl) ?_
  refine lv_aload_n hx hb dX1_terms_1 rfl (lv_at hl 0 rfl) ?_
  refine lv_iload_n hx hb dX1_terms_2 rfl (lv_at hl 1 rfl) ?_
  refine rd_V (As := [.int (iZ f)]) (rest := [.ref mo]) (st1 := [.int (iZ (inZ f 0 (k - 1))), .ref mo]) S (k_X1_isThere l D mo na cI cJ c0 k V f (by omega) (by omega)) tb_466 tb_468 ts_X1_isThere tb_2 tb_469 hd_X1_isThere ⟨rfl, rfl, by decide, by decide⟩ rM_bl (rM_mv hP hK) (va_recv hK hP (ci := 1) (q0 := 0) rfl rfl) rfl hl.1 rfl (Nat.le_of_ble_eq_true rfl) dX1_terms_3 ⟨Nat.zero_le _, Nat.zero_le _⟩ rfl ?_
  have hi6 := inZ_or f 0 (k - 1)
  refine zi_fne (tgt := 13) hx hb dX1_terms_6 (by decide) (by omega) (fun hc6 => ?_) (fun hc6 => ?_)
  · refine lv_iload_n hx hb dX1_terms_13 rfl (lv_at hl 2 rfl) ?_
    refine zi_i2l hx hb dX1_terms_14 (by omega) ?_
    refine zl_ldc hx hb (-1) hown (hT _ tb_457) (by decide) dX1_terms_15 ?_
    refine zl_ldc hx hb 7 hown (hT _ tb_436) (by decide) dX1_terms_18 ?_
    refine rd_S (As := [.long (lZ (-1)), .long (lZ (-1)), .long (lZ 7)]) (rest := [.ref mo]) (st1 := [.int (iZ (inZ (-1) (-1) 7)), .ref mo]) S (k_X1_in l (-1) (-1) 7 (by omega) (by omega) (by omega)) tb_437 tb_438 tb_2 tb_439 hd_X1_in ⟨rfl, rfl, by decide, by decide⟩ bl_T (fun _ _ _ => trivial) rfl hl.1 rfl (Nat.le_of_ble_eq_true rfl) dX1_terms_21 ⟨Nat.zero_le _, Nat.zero_le _⟩ rfl ?_
    have hi24 := inZ_or (-1) (-1) 7
    refine zi_feq (tgt := 31) hx hb dX1_terms_24 (by decide) (by omega) (fun hc24 => ?_) (fun hc24 => ?_)
    · refine zi_const hx hb 2 dX1_terms_31 ?_
      exfalso
      omega
    · refine zi_const hx hb 0 dX1_terms_27 ?_
      refine lv_goto (tgt := 32) hx hb dX1_terms_28 (by decide) ?_
      refine va_put (D := D) (ci := 1) (v := .int (iZ 0)) (ty := .int) (C := RX1) (T := TX1) (N := 8) hx hb hT inX1 tyX1 tyX1_ok nmX1 hown hK hP (dM_D hd hA) hS 0 rfl rfl 0 (by decide) (hT _ tb_402) (fun _ h9 => h9) rfl (by decide +kernel) rfl rfl (Nat.le_of_ble_eq_true rfl) dX1_terms_32 (fun H locs hP _ hS => ?_)
      have hP : va_P D vwCl (mX mo na cI cJ 0 k V) H := hP
      refine zi_const hx hb 0 dX1_terms_35 ?_
      refine lv_istore_n (lv' := [(3, .int (iZ 0)), (0, .ref mo), (1, .int (iZ f)), (2, .int (iZ (-1)))]) hx hb dX1_terms_36 rfl hl (by decide) rfl (fun ls hl => ?_)
      refine zi_const hx hb 0 dX1_terms_37 ?_
      refine lv_istore (lv' := [(4, .int (iZ 0)), (3, .int (iZ 0)), (0, .ref mo), (1, .int (iZ f)), (2, .int (iZ (-1)))]) hx hb dX1_terms_38 hl (by decide) rfl (fun ls hl => ?_)
      refine lp_go (nL := 5) (α := Int × Int) (fun z => [(0, .ref mo), (1, .int (iZ f)), (2, .int (iZ (-1))), (3, .int (iZ z.1)), (4, .int (iZ z.2))]) (fun m40 z => 0 ≤ z.2 ∧ z.2 + (m40 : Int) = 72 ∧ z.1 = cnZ (V 0) (f * 72).toNat z.2.toNat) ?_ 72 ((0 : Int), (0 : Int)) (by (try dsimp only); exact ⟨by omega, by omega, rfl⟩) ls (lv_sub hl [2, 3, 4, 1, 0] rfl)
      intro m40 z1 hI40 ih40 ls hl
      obtain ⟨u, i⟩ := z1
      have hl : lv_has ls 5 [(0, .ref mo), (1, .int (iZ f)), (2, .int (iZ (-1))), (3, .int (iZ u)), (4, .int (iZ i))] := hl
      have hI40 : 0 ≤ i ∧ i + (m40 : Int) = 72 ∧ u = cnZ (V 0) (f * 72).toNat i.toNat := hI40
      have hr1 := hN (72 * f + i).toNat
      refine lv_iload hx hb dX1_terms_40 (lv_at hl 4 rfl) ?_
      refine zi_bi hx hb 72 dX1_terms_42 (by decide) ?_
      refine zi_cge (tgt := 92) hx hb dX1_terms_44 (by decide) (by omega) (by omega) (fun hc44 => ?_) (fun hc44 => ?_)
      · refine lv_iload_n hx hb dX1_terms_92 rfl (lv_at hl 3 rfl) ?_
        exact wm_iret hx hb hr hlk hP rfl rfl rfl hS (congrArg (fun z => some (Value.int (iZ z))) (show (tmZ (V 0) f (-1) : Int) = u from by unfold tmZ; rw [if_pos rfl, hI40.2.2, show i.toNat = 72 by omega])) dX1_terms_93
      · refine lv_aload_n hx hb dX1_terms_47 rfl (lv_at hl 0 rfl) ?_
        refine va_get (D := D) (ci := 1) (C := RX1) (T := TX1) (N := 8) hx hb hT inX1 hown hK hP 0 rfl rfl 0 (by decide) (hT _ tb_402) (fun _ h9 => h9) rfl dX1_terms_48 ?_
        refine zi_fne (tgt := 92) hx hb dX1_terms_51 (by decide) (by omega) (fun hc51 => ?_) (fun hc51 => ?_)
        · exfalso
          omega
        · refine lv_aload_n hx hb dX1_terms_54 rfl (lv_at hl 0 rfl) ?_
          refine va_get (D := D) (ci := 1) (C := RX1) (T := TX1) (N := 8) hx hb hT inX1 hown hK hP 0 rfl rfl 2 (by decide) (hT _ tb_404) (fun _ h9 => h9) rfl dX1_terms_55 ?_
          refine zi_bi hx hb 72 dX1_terms_58 (by decide) ?_
          refine lv_iload_n hx hb dX1_terms_60 rfl (lv_at hl 1 rfl) ?_
          refine zi_mul hx hb dX1_terms_61 ?_
          refine lv_iload hx hb dX1_terms_62 (lv_at hl 4 rfl) ?_
          refine zi_add hx hb dX1_terms_64 ?_
          refine va_iald hx hb hK hP 1 0 rfl rfl (iZ_in (by omega) (by omega) (by decide)) dX1_terms_65 ?_
          refine zi_as (a := V 0 (((72 * f) + i).toNat)) (by rw [iZ_cl (by omega) (by omega)]) ?_
          refine zi_feq (tgt := 86) hx hb dX1_terms_66 (by decide) (by omega) (fun hc66 => ?_) (fun hc66 => ?_)
          · refine zi_inc (lv' := [(4, .int (iZ (i + 1))), (0, .ref mo), (1, .int (iZ f)), (2, .int (iZ (-1))), (3, .int (iZ u))]) hx hb dX1_terms_86 hl (k := 4) rfl (by decide) rfl (fun ls hl => ?_)
            refine lv_goto (tgt := 40) hx hb dX1_terms_89 (by decide) ?_
            exact ih40 (m40 - 1) (u, i + 1) (by omega) (by (try dsimp only); refine ⟨by omega, by omega, ?_⟩; rw [← tm_add (w := 0) (by omega) (by rw [if_pos (by rw [show (f * 72).toNat + i.toNat = (72 * f + i).toNat by omega]; omega)])]; omega) ls (lv_sub hl [1, 2, 3, 4, 0] rfl)
          · refine lv_iload_n hx hb dX1_terms_69 rfl (lv_at hl 2 rfl) ?_
            refine zi_const hx hb (-1) dX1_terms_70 ?_
            refine zi_ceq (tgt := 83) hx hb dX1_terms_71 (by decide) (by omega) (by omega) (fun hc71 => ?_) (fun hc71 => ?_)
            · refine zi_inc (lv' := [(3, .int (iZ (u + 1))), (0, .ref mo), (1, .int (iZ f)), (2, .int (iZ (-1))), (4, .int (iZ i))]) hx hb dX1_terms_83 hl (k := 3) rfl (by decide) rfl (fun ls hl => ?_)
              refine zi_inc (lv' := [(4, .int (iZ (i + 1))), (3, .int (iZ (u + 1))), (0, .ref mo), (1, .int (iZ f)), (2, .int (iZ (-1)))]) hx hb dX1_terms_86 hl (k := 4) rfl (by decide) rfl (fun ls hl => ?_)
              refine lv_goto (tgt := 40) hx hb dX1_terms_89 (by decide) ?_
              exact ih40 (m40 - 1) (u + 1, i + 1) (by omega) (by (try dsimp only); refine ⟨by omega, by omega, ?_⟩; rw [← tm_add (w := 1) (by omega) (by rw [if_neg (by rw [show (f * 72).toNat + i.toNat = (72 * f + i).toNat by omega]; omega)])]; omega) ls (lv_sub hl [2, 3, 4, 1, 0] rfl)
            · exfalso
              omega
  · refine zi_const hx hb 1 dX1_terms_9 ?_
    refine lv_goto (tgt := 32) hx hb dX1_terms_10 (by decide) ?_
    exfalso
    omega
set_option maxHeartbeats 4000000 in
set_option maxRecDepth 100000 in
theorem kO_X1_terms (l : Launch) (D : va_G) (mo : Nat) (na : Nat → Nat) (cI cJ : ClassId) (c0 k : Int) (V : Nat → Nat → Int) (f a : Int) (hd : dM mo na) (hk : 0 ≤ k ∧ k ≤ 60) (hf0 : -2147483648 ≤ f ∧ f ≤ 2147483647) (ha0 : -2147483648 ≤ a ∧ a ≤ 2147483647) (h0 : ¬ (0 ≤ f ∧ f < k)) : wm_M l yX1_terms cX1_terms 5 (some .int) ({ frames := 2, cells := 0, slots := 0, locals := 46 }) [.int (iZ f), .int (iZ a)] D mo na cI cJ c0 k V (some (.int (iZ 0))) 1 k (fun Z => Z = V) := by
  refine wm_of (by decide) rfl (Nat.le_of_ble_eq_true rfl) ?_
  intro p e s m below meth c A hAe S hr hlk hP hK hA hAn hS ls hl
  obtain ⟨hx, hb, hml, hown, hT⟩ := id S
  have hl : lv_has ls 5 [(0, .ref mo), (1, .int (iZ f)), (2, .int (iZ a))] := hl
  refine lv_aload_n hx hb dX1_terms_0 rfl (lv_at hl 0 rfl) ?_
  refine lv_aload_n hx hb dX1_terms_1 rfl (lv_at hl 0 rfl) ?_
  refine lv_iload_n hx hb dX1_terms_2 rfl (lv_at hl 1 rfl) ?_
  refine rd_V (As := [.int (iZ f)]) (rest := [.ref mo]) (st1 := [.int (iZ (inZ f 0 (k - 1))), .ref mo]) S (k_X1_isThere l D mo na cI cJ c0 k V f (by omega) (by omega)) tb_466 tb_468 ts_X1_isThere tb_2 tb_469 hd_X1_isThere ⟨rfl, rfl, by decide, by decide⟩ rM_bl (rM_mv hP hK) (va_recv hK hP (ci := 1) (q0 := 0) rfl rfl) rfl hl.1 rfl (Nat.le_of_ble_eq_true rfl) dX1_terms_3 ⟨Nat.zero_le _, Nat.zero_le _⟩ rfl ?_
  have hi6 := inZ_or f 0 (k - 1)
  refine zi_fne (tgt := 13) hx hb dX1_terms_6 (by decide) (by omega) (fun hc6 => ?_) (fun hc6 => ?_)
  · refine lv_iload_n hx hb dX1_terms_13 rfl (lv_at hl 2 rfl) ?_
    refine zi_i2l hx hb dX1_terms_14 (by omega) ?_
    refine zl_ldc hx hb (-1) hown (hT _ tb_457) (by decide) dX1_terms_15 ?_
    refine zl_ldc hx hb 7 hown (hT _ tb_436) (by decide) dX1_terms_18 ?_
    refine rd_S (As := [.long (lZ a), .long (lZ (-1)), .long (lZ 7)]) (rest := [.ref mo]) (st1 := [.int (iZ (inZ a (-1) 7)), .ref mo]) S (k_X1_in l a (-1) 7 (by omega) (by omega) (by omega)) tb_437 tb_438 tb_2 tb_439 hd_X1_in ⟨rfl, rfl, by decide, by decide⟩ bl_T (fun _ _ _ => trivial) rfl hl.1 rfl (Nat.le_of_ble_eq_true rfl) dX1_terms_21 ⟨Nat.zero_le _, Nat.zero_le _⟩ rfl ?_
    have hi24 := inZ_or a (-1) 7
    refine zi_feq (tgt := 31) hx hb dX1_terms_24 (by decide) (by omega) (fun hc24 => ?_) (fun hc24 => ?_)
    · refine zi_const hx hb 2 dX1_terms_31 ?_
      exfalso
      omega
    · refine zi_const hx hb 0 dX1_terms_27 ?_
      refine lv_goto (tgt := 32) hx hb dX1_terms_28 (by decide) ?_
      exfalso
      omega
  · refine zi_const hx hb 1 dX1_terms_9 ?_
    refine lv_goto (tgt := 32) hx hb dX1_terms_10 (by decide) ?_
    refine va_put (D := D) (ci := 1) (v := .int (iZ 1)) (ty := .int) (C := RX1) (T := TX1) (N := 8) hx hb hT inX1 tyX1 tyX1_ok nmX1 hown hK hP (dM_D hd hA) hS 0 rfl rfl 0 (by decide) (hT _ tb_402) (fun _ h9 => h9) rfl (by decide +kernel) rfl rfl (Nat.le_of_ble_eq_true rfl) dX1_terms_32 (fun H locs hP _ hS => ?_)
    have hP : va_P D vwCl (mX mo na cI cJ 1 k V) H := hP
    refine zi_const hx hb 0 dX1_terms_35 ?_
    refine lv_istore_n (lv' := [(3, .int (iZ 0)), (0, .ref mo), (1, .int (iZ f)), (2, .int (iZ a))]) hx hb dX1_terms_36 rfl hl (by decide) rfl (fun ls hl => ?_)
    refine zi_const hx hb 0 dX1_terms_37 ?_
    refine lv_istore (lv' := [(4, .int (iZ 0)), (3, .int (iZ 0)), (0, .ref mo), (1, .int (iZ f)), (2, .int (iZ a))]) hx hb dX1_terms_38 hl (by decide) rfl (fun ls hl => ?_)
    refine lv_iload hx hb dX1_terms_40 (lv_at hl 0 rfl) ?_
    refine zi_bi hx hb 72 dX1_terms_42 (by decide) ?_
    refine zi_cge (tgt := 92) hx hb dX1_terms_44 (by decide) (by omega) (by omega) (fun hc44 => ?_) (fun hc44 => ?_)
    · exfalso
      omega
    · refine lv_aload_n hx hb dX1_terms_47 rfl (lv_at hl 2 rfl) ?_
      refine va_get (D := D) (ci := 1) (C := RX1) (T := TX1) (N := 8) hx hb hT inX1 hown hK hP 0 rfl rfl 0 (by decide) (hT _ tb_402) (fun _ h9 => h9) rfl dX1_terms_48 ?_
      refine zi_fne (tgt := 92) hx hb dX1_terms_51 (by decide) (by omega) (fun hc51 => ?_) (fun hc51 => ?_)
      · refine lv_iload_n hx hb dX1_terms_92 rfl (lv_at hl 1 rfl) ?_
        exact wm_iret hx hb hr hlk hP rfl rfl rfl hS (congrArg (fun z => some (Value.int (iZ z))) (show (0 : Int) = 0 from rfl)) dX1_terms_93
      · exfalso
        omega
set_option maxHeartbeats 4000000 in
set_option maxRecDepth 100000 in
theorem kA_X1_terms (l : Launch) (D : va_G) (mo : Nat) (na : Nat → Nat) (cI cJ : ClassId) (c0 k : Int) (V : Nat → Nat → Int) (f a : Int) (hd : dM mo na) (hk : 0 ≤ k ∧ k ≤ 60) (hf : 0 ≤ f ∧ f < k) (ha0 : -2147483648 ≤ a ∧ a ≤ 2147483647) (h0 : ¬ (-1 ≤ a ∧ a < 8)) : wm_M l yX1_terms cX1_terms 5 (some .int) ({ frames := 2, cells := 0, slots := 0, locals := 46 }) [.int (iZ f), .int (iZ a)] D mo na cI cJ c0 k V (some (.int (iZ 0))) 2 k (fun Z => Z = V) := by
  refine wm_of (by decide) rfl (Nat.le_of_ble_eq_true rfl) ?_
  intro p e s m below meth c A hAe S hr hlk hP hK hA hAn hS ls hl
  obtain ⟨hx, hb, hml, hown, hT⟩ := id S
  have hl : lv_has ls 5 [(0, .ref mo), (1, .int (iZ f)), (2, .int (iZ a))] := hl
  refine lv_aload_n hx hb dX1_terms_0 rfl (lv_at hl 0 rfl) ?_
  refine lv_aload_n hx hb dX1_terms_1 rfl (lv_at hl 0 rfl) ?_
  refine lv_iload_n hx hb dX1_terms_2 rfl (lv_at hl 1 rfl) ?_
  refine rd_V (As := [.int (iZ f)]) (rest := [.ref mo]) (st1 := [.int (iZ (inZ f 0 (k - 1))), .ref mo]) S (k_X1_isThere l D mo na cI cJ c0 k V f (by omega) (by omega)) tb_466 tb_468 ts_X1_isThere tb_2 tb_469 hd_X1_isThere ⟨rfl, rfl, by decide, by decide⟩ rM_bl (rM_mv hP hK) (va_recv hK hP (ci := 1) (q0 := 0) rfl rfl) rfl hl.1 rfl (Nat.le_of_ble_eq_true rfl) dX1_terms_3 ⟨Nat.zero_le _, Nat.zero_le _⟩ rfl ?_
  have hi6 := inZ_or f 0 (k - 1)
  refine zi_fne (tgt := 13) hx hb dX1_terms_6 (by decide) (by omega) (fun hc6 => ?_) (fun hc6 => ?_)
  · refine lv_iload_n hx hb dX1_terms_13 rfl (lv_at hl 2 rfl) ?_
    refine zi_i2l hx hb dX1_terms_14 (by omega) ?_
    refine zl_ldc hx hb (-1) hown (hT _ tb_457) (by decide) dX1_terms_15 ?_
    refine zl_ldc hx hb 7 hown (hT _ tb_436) (by decide) dX1_terms_18 ?_
    refine rd_S (As := [.long (lZ a), .long (lZ (-1)), .long (lZ 7)]) (rest := [.ref mo]) (st1 := [.int (iZ (inZ a (-1) 7)), .ref mo]) S (k_X1_in l a (-1) 7 (by omega) (by omega) (by omega)) tb_437 tb_438 tb_2 tb_439 hd_X1_in ⟨rfl, rfl, by decide, by decide⟩ bl_T (fun _ _ _ => trivial) rfl hl.1 rfl (Nat.le_of_ble_eq_true rfl) dX1_terms_21 ⟨Nat.zero_le _, Nat.zero_le _⟩ rfl ?_
    have hi24 := inZ_or a (-1) 7
    refine zi_feq (tgt := 31) hx hb dX1_terms_24 (by decide) (by omega) (fun hc24 => ?_) (fun hc24 => ?_)
    · refine zi_const hx hb 2 dX1_terms_31 ?_
      refine va_put (D := D) (ci := 1) (v := .int (iZ 2)) (ty := .int) (C := RX1) (T := TX1) (N := 8) hx hb hT inX1 tyX1 tyX1_ok nmX1 hown hK hP (dM_D hd hA) hS 0 rfl rfl 0 (by decide) (hT _ tb_402) (fun _ h9 => h9) rfl (by decide +kernel) rfl rfl (Nat.le_of_ble_eq_true rfl) dX1_terms_32 (fun H locs hP _ hS => ?_)
      have hP : va_P D vwCl (mX mo na cI cJ 2 k V) H := hP
      refine zi_const hx hb 0 dX1_terms_35 ?_
      refine lv_istore_n (lv' := [(3, .int (iZ 0)), (0, .ref mo), (1, .int (iZ f)), (2, .int (iZ a))]) hx hb dX1_terms_36 rfl hl (by decide) rfl (fun ls hl => ?_)
      refine zi_const hx hb 0 dX1_terms_37 ?_
      refine lv_istore (lv' := [(4, .int (iZ 0)), (3, .int (iZ 0)), (0, .ref mo), (1, .int (iZ f)), (2, .int (iZ a))]) hx hb dX1_terms_38 hl (by decide) rfl (fun ls hl => ?_)
      refine lv_iload hx hb dX1_terms_40 (lv_at hl 0 rfl) ?_
      refine zi_bi hx hb 72 dX1_terms_42 (by decide) ?_
      refine zi_cge (tgt := 92) hx hb dX1_terms_44 (by decide) (by omega) (by omega) (fun hc44 => ?_) (fun hc44 => ?_)
      · exfalso
        omega
      · refine lv_aload_n hx hb dX1_terms_47 rfl (lv_at hl 2 rfl) ?_
        refine va_get (D := D) (ci := 1) (C := RX1) (T := TX1) (N := 8) hx hb hT inX1 hown hK hP 0 rfl rfl 0 (by decide) (hT _ tb_402) (fun _ h9 => h9) rfl dX1_terms_48 ?_
        refine zi_fne (tgt := 92) hx hb dX1_terms_51 (by decide) (by omega) (fun hc51 => ?_) (fun hc51 => ?_)
        · refine lv_iload_n hx hb dX1_terms_92 rfl (lv_at hl 1 rfl) ?_
          exact wm_iret hx hb hr hlk hP rfl rfl rfl hS (congrArg (fun z => some (Value.int (iZ z))) (show (0 : Int) = 0 from rfl)) dX1_terms_93
        · exfalso
          omega
    · refine zi_const hx hb 0 dX1_terms_27 ?_
      refine lv_goto (tgt := 32) hx hb dX1_terms_28 (by decide) ?_
      exfalso
      omega
  · refine zi_const hx hb 1 dX1_terms_9 ?_
    refine lv_goto (tgt := 32) hx hb dX1_terms_10 (by decide) ?_
    exfalso
    omega
