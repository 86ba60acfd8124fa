set_option maxHeartbeats 4000000 in
set_option maxRecDepth 100000 in
theorem k_X1_thrown (l : Launch) (D : va_G) (mo : Nat) (na : Nat → Nat) (cI cJ : ClassId) (c0 k : Int) (V : Nat → Nat → Int)   : rd_M l yX1_thrown cX1_thrown 1 (some .int) ({ frames := 0, cells := 0, slots := 0, locals := 0 }) [.ref mo] (rM D mo na cI cJ c0 k V) (some (.int (iZ c0))) := by
  refine rd_of RX1 (by decide) rfl (Nat.le_of_ble_eq_true rfl) ?_
  intro p e s m below meth c S hr hlk hB ls hl
  obtain ⟨hx, hb, hml, hown, hT⟩ := id S
  have hl : lv_has ls 1 [(0, .ref mo)] := hl
  obtain ⟨hP, hK⟩ := id hB
  refine lv_aload_n hx hb dX1_thrown_0 rfl (lv_at hl 0 rfl) ?_
  refine va_get (D := D) (ci := 1) (C := RX1) (T := TX1) (N := 8) hx hb hT inX1 hown hK hP 0 rfl rfl 0 (by decide) (hT _ tb_402) (fun _ h9 => h9) rfl dX1_thrown_1 ?_
  exact rd_iret hx hb hr hlk (congrArg (fun z => some (Value.int (iZ z))) (show (c0 : Int) = c0 from rfl)) dX1_thrown_4
set_option maxHeartbeats 4000000 in
set_option maxRecDepth 100000 in
theorem k_X1_isThere (l : Launch) (D : va_G) (mo : Nat) (na : Nat → Nat) (cI cJ : ClassId) (c0 k : Int) (V : Nat → Nat → Int) (f : Int) (hk : 0 ≤ k ∧ k ≤ 60) (hf0 : -2147483648 ≤ f ∧ f ≤ 2147483647) : rd_M l yX1_isThere cX1_isThere 2 (some .boolean) ({ frames := 1, cells := 0, slots := 0, locals := 25 }) [.ref mo, .int (iZ f)] (rM D mo na cI cJ c0 k V) (some (.int (iZ (inZ f 0 (k - 1))))) := by
  refine rd_of RX1 (by decide) rfl (Nat.le_of_ble_eq_true rfl) ?_
  intro p e s m below meth c S hr hlk hB ls hl
  obtain ⟨hx, hb, hml, hown, hT⟩ := id S
  have hl : lv_has ls 2 [(0, .ref mo), (1, .int (iZ f))] := hl
  obtain ⟨hP, hK⟩ := id hB
  refine lv_iload_n hx hb dX1_isThere_0 rfl (lv_at hl 1 rfl) ?_
  refine zi_i2l hx hb dX1_isThere_1 (by omega) ?_
  refine zl_const hx hb 0 dX1_isThere_2 (by decide) ?_
  refine lv_aload_n hx hb dX1_isThere_3 rfl (lv_at hl 0 rfl) ?_
  refine va_get (D := D) (ci := 1) (C := RX1) (T := TX1) (N := 8) hx hb hT inX1 hown hK hP 0 rfl rfl 1 (by decide) (hT _ tb_403) (fun _ h9 => h9) rfl dX1_isThere_4 ?_
  refine zi_const hx hb 1 dX1_isThere_7 ?_
  refine zi_sub hx hb dX1_isThere_8 ?_
  refine zi_i2l hx hb dX1_isThere_9 (by omega) ?_
  refine rd_S (As := [.long (lZ f), .long (lZ 0), .long (lZ (k - 1))]) (rest := []) (st1 := [.int (iZ (inZ f 0 (k - 1)))]) S (k_X1_in l f 0 (k - 1) (by omega) (by omega) (by omega)) tb_437 tb_438 tb_2 tb_439 hd_X1_in ⟨rfl, rfl, by decide, by decide⟩ bl_T (fun _ _ _ => trivial) rfl hl.1 rfl (Nat.le_of_ble_eq_true rfl) dX1_isThere_10 ⟨Nat.zero_le _, Nat.zero_le _⟩ rfl ?_
  have hi13 := inZ_or f 0 (k - 1)
  have hz : narrow .boolean (.int (iZ (inZ f 0 (k - 1)))) = .int (iZ (inZ f 0 (k - 1))) := by rcases inZ_or f 0 (k - 1) with h | h <;> rw [h.1] <;> decide
  exact rd_zret hx hb hr hlk rfl hz dX1_isThere_13
set_option maxHeartbeats 4000000 in
set_option maxRecDepth 100000 in
theorem k_X1_raise (l : Launch) (D : va_G) (mo : Nat) (na : Nat → Nat) (cI cJ : ClassId) (c0 k : Int) (V : Nat → Nat → Int) (a : Int) (hd : dM mo na)  : wm_M l yX1_raise cX1_raise 2 (some .int) ({ frames := 0, cells := 0, slots := 0, locals := 0 }) [.int (iZ a)] D mo na cI cJ c0 k V (some (.int (iZ 0))) a k (fun Z => Z = V) := by
  refine wm_of (by decide) rfl (Nat.le_of_ble_eq_true rfl) ?_
  intro p e s m below meth c A hAe S hr hlk hP hK hA hAn hS ls hl
  obtain ⟨hx, hb, hml, hown, hT⟩ := id S
  have hl : lv_has ls 2 [(0, .ref mo), (1, .int (iZ a))] := hl
  refine lv_aload_n hx hb dX1_raise_0 rfl (lv_at hl 0 rfl) ?_
  refine lv_iload_n hx hb dX1_raise_1 rfl (lv_at hl 1 rfl) ?_
  refine va_put (D := D) (ci := 1) (v := .int (iZ a)) (ty := .int) (C := RX1) (T := TX1) (N := 8) hx hb hT inX1 tyX1 tyX1_ok nmX1 hown hK hP (dM_D hd hA) hS 0 rfl rfl 0 (by decide) (hT _ tb_402) (fun _ h9 => h9) rfl (by decide +kernel) rfl rfl (Nat.le_of_ble_eq_true rfl) dX1_raise_2 (fun H locs hP _ hS => ?_)
  have hP : va_P D vwCl (mX mo na cI cJ a k V) H := hP
  refine zi_const hx hb 0 dX1_raise_5 ?_
  exact wm_iret hx hb hr hlk hP rfl rfl rfl hS (congrArg (fun z => some (Value.int (iZ z))) (show (0 : Int) = 0 from rfl)) dX1_raise_6
set_option maxHeartbeats 4000000 in
set_option maxRecDepth 100000 in
theorem k_X1_count (l : Launch) (D : va_G) (mo : Nat) (na : Nat → Nat) (cI cJ : ClassId) (c0 k : Int) (V : Nat → Nat → Int)  (hd : dM mo na)  : wm_M l yX1_count cX1_count 1 (some .int) ({ frames := 0, cells := 0, slots := 0, locals := 0 }) [] D mo na cI cJ c0 k V (some (.int (iZ k))) 0 k (fun Z => Z = V) := by
  refine wm_of (by decide) rfl (Nat.le_of_ble_eq_true rfl) ?_
  intro p e s m below meth c A hAe S hr hlk hP hK hA hAn hS ls hl
  obtain ⟨hx, hb, hml, hown, hT⟩ := id S
  have hl : lv_has ls 1 [(0, .ref mo)] := hl
  refine lv_aload_n hx hb dX1_count_0 rfl (lv_at hl 0 rfl) ?_
  refine zi_const hx hb 0 dX1_count_1 ?_
  refine va_put (D := D) (ci := 1) (v := .int (iZ 0)) (ty := .int) (C := RX1) (T := TX1) (N := 8) hx hb hT inX1 tyX1 tyX1_ok nmX1 hown hK hP (dM_D hd hA) hS 0 rfl rfl 0 (by decide) (hT _ tb_402) (fun _ h9 => h9) rfl (by decide +kernel) rfl rfl (Nat.le_of_ble_eq_true rfl) dX1_count_2 (fun H locs hP _ hS => ?_)
  have hP : va_P D vwCl (mX mo na cI cJ 0 k V) H := hP
  refine lv_aload_n hx hb dX1_count_5 rfl (lv_at hl 0 rfl) ?_
  refine va_get (D := D) (ci := 1) (C := RX1) (T := TX1) (N := 8) hx hb hT inX1 hown hK hP 0 rfl rfl 1 (by decide) (hT _ tb_403) (fun _ h9 => h9) rfl dX1_count_6 ?_
  exact wm_iret hx hb hr hlk hP rfl rfl rfl hS (congrArg (fun z => some (Value.int (iZ z))) (show (k : Int) = k from rfl)) dX1_count_9
theorem cn_pos {g : Nat → Int} {lo m : Nat} (h : g (lo + m) ≠ 0) : ∀ n : Nat, m < n → 0 < cnZ g lo n := by
  intro n hn
  induction n with
  | zero => omega
  | succ n ih =>
    have h1 := cnZ_rng g lo n
    rw [cnZ_step]
    by_cases h2 : m = n
    · rw [← h2, if_neg h]
      rw [← h2] at h1
      omega
    · have := ih (by omega)
      split <;> omega
def hsZ (g : Nat → Int) (lo n : Nat) : Int := if 0 < cnZ g lo n then 1 else 0
theorem hsZ_or (g : Nat → Int) (lo n : Nat) : (hsZ g lo n = 1 ∧ 0 < cnZ g lo n) ∨ (hsZ g lo n = 0 ∧ cnZ g lo n = 0) := by
  have h1 := cnZ_rng g lo n
  unfold hsZ
  split <;> omega
set_option maxHeartbeats 4000000 in
set_option maxRecDepth 100000 in
theorem k2_X1_has (l : Launch) (D : va_G) (mo : Nat) (na : Nat → Nat) (cI cJ : ClassId) (c0 k : Int) (V : Nat → Nat → Int) (x y : Int) (hx0 : 0 ≤ x ∧ x ≤ y ∧ y ≤ 8) (hV : ∀ j : Nat, j < 72 → 0 ≤ V 2 j ∧ V 2 j < 32003) : rd_M l yX1_has cX1_has 5 (some .boolean) ({ frames := 0, cells := 0, slots := 0, locals := 0 }) [.ref mo, .ref (na 2), .int (iZ x), .int (iZ y)] (rM D mo na cI cJ c0 k V) (some (.int (iZ (hsZ (V 2) (x * 9).toNat ((y - x) * 9).toNat)))) := by
  refine rd_of RX1 (by decide) rfl (Nat.le_of_ble_eq_true rfl) ?_
  intro p e s m below meth c S hr hlk hB ls hl
  obtain ⟨hx, hb, hml, hown, hT⟩ := id S
  have hl : lv_has ls 5 [(0, .ref mo), (1, .ref (na 2)), (2, .int (iZ x)), (3, .int (iZ y))] := hl
  obtain ⟨hP, hK⟩ := id hB
  refine zi_bi hx hb 9 dX1_has_0 (by decide) ?_
  refine lv_iload_n hx hb dX1_has_2 rfl (lv_at hl 2 rfl) ?_
  refine zi_mul hx hb dX1_has_3 ?_
  refine zi_top (fun v1 ev1 => ?_)
  refine lv_istore (lv' := [(4, .int (iZ v1)), (0, .ref mo), (1, .ref (na 2)), (2, .int (iZ x)), (3, .int (iZ y))]) hx hb dX1_has_4 hl (by decide) rfl (fun ls hl => ?_)
  refine lp_go (nL := 5) (α := Int) (fun z => [(0, .ref mo), (1, .ref (na 2)), (2, .int (iZ x)), (3, .int (iZ y)), (4, .int (iZ z))]) (fun m6 z => x * 9 ≤ z ∧ z + (m6 : Int) = y * 9 ∧ cnZ (V 2) (x * 9).toNat (z - x * 9).toNat = 0) ?_ (((y - x) * 9).toNat) ((v1 : Int)) (by (try dsimp only); refine ⟨by omega, by omega, ?_⟩; rw [show (v1 - x * 9).toNat = 0 by omega]; rfl) ls (lv_sub hl [1, 2, 3, 4, 0] rfl)
  intro m6 z2 hI6 ih6 ls hl
  obtain ⟨i, rfl⟩ : ∃ y : Int, y = z2 := ⟨_, rfl⟩
  have hl : lv_has ls 5 [(0, .ref mo), (1, .ref (na 2)), (2, .int (iZ x)), (3, .int (iZ y)), (4, .int (iZ i))] := hl
  have hI6 : x * 9 ≤ i ∧ i + (m6 : Int) = y * 9 ∧ cnZ (V 2) (x * 9).toNat (i - x * 9).toNat = 0 := hI6
  refine lv_iload hx hb dX1_has_6 (lv_at hl 4 rfl) ?_
  refine zi_bi hx hb 9 dX1_has_8 (by decide) ?_
  refine lv_iload_n hx hb dX1_has_10 rfl (lv_at hl 3 rfl) ?_
  refine zi_mul hx hb dX1_has_11 ?_
  refine zi_cge (tgt := 32) hx hb dX1_has_12 (by decide) (by omega) (by omega) (fun hc12 => ?_) (fun hc12 => ?_)
  · refine zi_const hx hb 0 dX1_has_32 ?_
    exact rd_zret hx hb hr hlk (congrArg (fun z => some (Value.int (iZ z))) (show (hsZ (V 2) (x * 9).toNat ((y - x) * 9).toNat : Int) = 0 from by unfold hsZ; rw [if_neg (by rw [show ((y - x) * 9).toNat = (i - x * 9).toNat by omega]; omega)])) (by decide) dX1_has_33
  · have hva := hV i.toNat (by omega)
    refine lv_aload_n hx hb dX1_has_15 rfl (lv_at hl 1 rfl) ?_
    refine lv_iload hx hb dX1_has_16 (lv_at hl 4 rfl) ?_
    refine va_lald hx hb hK hP 3 1 rfl rfl (iZ_in (by omega) (by omega) (by decide)) dX1_has_18 ?_
    refine zl_as (a := V 2 ((i).toNat)) (by rw [iZ_cl (by omega) (by omega)]) ?_
    refine zl_const hx hb 0 dX1_has_19 (by decide) ?_
    refine zl_ceq (tgt := 26) hx hb dX1_has_20 dX1_has_21 (by decide) (by omega) (by omega) (fun hc20 => ?_) (fun hc20 => ?_)
    · refine zi_inc (lv' := [(4, .int (iZ (i + 1))), (0, .ref mo), (1, .ref (na 2)), (2, .int (iZ x)), (3, .int (iZ y))]) hx hb dX1_has_26 hl (k := 4) rfl (by decide) rfl (fun ls hl => ?_)
      refine lv_goto (tgt := 6) hx hb dX1_has_29 (by decide) ?_
      exact ih6 (m6 - 1) (i + 1) (by omega) (by (try dsimp only); refine ⟨by omega, by omega, ?_⟩; rw [show (i + 1 - x * 9).toNat = (i - x * 9).toNat + 1 by omega, cnZ_step, hI6.2.2, show (x * 9).toNat + (i - x * 9).toNat = i.toNat by omega, if_pos (by omega)]; rfl) ls (lv_sub hl [1, 2, 3, 4, 0] rfl)
    · refine zi_const hx hb 1 dX1_has_24 ?_
      exact rd_zret hx hb hr hlk (congrArg (fun z => some (Value.int (iZ z))) (show (hsZ (V 2) (x * 9).toNat ((y - x) * 9).toNat : Int) = 1 from by unfold hsZ; rw [if_pos (cn_pos (m := (i - x * 9).toNat) (by rw [show (x * 9).toNat + (i - x * 9).toNat = i.toNat by omega]; omega) _ (by omega))])) (by decide) dX1_has_25
set_option maxHeartbeats 4000000 in
set_option maxRecDepth 100000 in
theorem k3_X1_has (l : Launch) (D : va_G) (mo : Nat) (na : Nat → Nat) (cI cJ : ClassId) (c0 k : Int) (V : Nat → Nat → Int) (x y : Int) (hx0 : 0 ≤ x ∧ x ≤ y ∧ y ≤ 8) (hV : ∀ j : Nat, j < 72 → 0 ≤ V 3 j ∧ V 3 j < 32003) : rd_M l yX1_has cX1_has 5 (some .boolean) ({ frames := 0, cells := 0, slots := 0, locals := 0 }) [.ref mo, .ref (na 3), .int (iZ x), .int (iZ y)] (rM D mo na cI cJ c0 k V) (some (.int (iZ (hsZ (V 3) (x * 9).toNat ((y - x) * 9).toNat)))) := by
  refine rd_of RX1 (by decide) rfl (Nat.le_of_ble_eq_true rfl) ?_
  intro p e s m below meth c S hr hlk hB ls hl
  obtain ⟨hx, hb, hml, hown, hT⟩ := id S
  have hl : lv_has ls 5 [(0, .ref mo), (1, .ref (na 3)), (2, .int (iZ x)), (3, .int (iZ y))] := hl
  obtain ⟨hP, hK⟩ := id hB
  refine zi_bi hx hb 9 dX1_has_0 (by decide) ?_
  refine lv_iload_n hx hb dX1_has_2 rfl (lv_at hl 2 rfl) ?_
  refine zi_mul hx hb dX1_has_3 ?_
  refine zi_top (fun v1 ev1 => ?_)
  refine lv_istore (lv' := [(4, .int (iZ v1)), (0, .ref mo), (1, .ref (na 3)), (2, .int (iZ x)), (3, .int (iZ y))]) hx hb dX1_has_4 hl (by decide) rfl (fun ls hl => ?_)
  refine lp_go (nL := 5) (α := Int) (fun z => [(0, .ref mo), (1, .ref (na 3)), (2, .int (iZ x)), (3, .int (iZ y)), (4, .int (iZ z))]) (fun m6 z => x * 9 ≤ z ∧ z + (m6 : Int) = y * 9 ∧ cnZ (V 3) (x * 9).toNat (z - x * 9).toNat = 0) ?_ (((y - x) * 9).toNat) ((v1 : Int)) (by (try dsimp only); refine ⟨by omega, by omega, ?_⟩; rw [show (v1 - x * 9).toNat = 0 by omega]; rfl) ls (lv_sub hl [1, 2, 3, 4, 0] rfl)
  intro m6 z2 hI6 ih6 ls hl
  obtain ⟨i, rfl⟩ : ∃ y : Int, y = z2 := ⟨_, rfl⟩
  have hl : lv_has ls 5 [(0, .ref mo), (1, .ref (na 3)), (2, .int (iZ x)), (3, .int (iZ y)), (4, .int (iZ i))] := hl
  have hI6 : x * 9 ≤ i ∧ i + (m6 : Int) = y * 9 ∧ cnZ (V 3) (x * 9).toNat (i - x * 9).toNat = 0 := hI6
  refine lv_iload hx hb dX1_has_6 (lv_at hl 4 rfl) ?_
  refine zi_bi hx hb 9 dX1_has_8 (by decide) ?_
  refine lv_iload_n hx hb dX1_has_10 rfl (lv_at hl 3 rfl) ?_
  refine zi_mul hx hb dX1_has_11 ?_
  refine zi_cge (tgt := 32) hx hb dX1_has_12 (by decide) (by omega) (by omega) (fun hc12 => ?_) (fun hc12 => ?_)
  · refine zi_const hx hb 0 dX1_has_32 ?_
    exact rd_zret hx hb hr hlk (congrArg (fun z => some (Value.int (iZ z))) (show (hsZ (V 3) (x * 9).toNat ((y - x) * 9).toNat : Int) = 0 from by unfold hsZ; rw [if_neg (by rw [show ((y - x) * 9).toNat = (i - x * 9).toNat by omega]; omega)])) (by decide) dX1_has_33
  · have hva := hV i.toNat (by omega)
    refine lv_aload_n hx hb dX1_has_15 rfl (lv_at hl 1 rfl) ?_
    refine lv_iload hx hb dX1_has_16 (lv_at hl 4 rfl) ?_
    refine va_lald hx hb hK hP 4 1 rfl rfl (iZ_in (by omega) (by omega) (by decide)) dX1_has_18 ?_
    refine zl_as (a := V 3 ((i).toNat)) (by rw [iZ_cl (by omega) (by omega)]) ?_
    refine zl_const hx hb 0 dX1_has_19 (by decide) ?_
    refine zl_ceq (tgt := 26) hx hb dX1_has_20 dX1_has_21 (by decide) (by omega) (by omega) (fun hc20 => ?_) (fun hc20 => ?_)
    · refine zi_inc (lv' := [(4, .int (iZ (i + 1))), (0, .ref mo), (1, .ref (na 3)), (2, .int (iZ x)), (3, .int (iZ y))]) hx hb dX1_has_26 hl (k := 4) rfl (by decide) rfl (fun ls hl => ?_)
      refine lv_goto (tgt := 6) hx hb dX1_has_29 (by decide) ?_
      exact ih6 (m6 - 1) (i + 1) (by omega) (by (try dsimp only); refine ⟨by omega, by omega, ?_⟩; rw [show (i + 1 - x * 9).toNat = (i - x * 9).toNat + 1 by omega, cnZ_step, hI6.2.2, show (x * 9).toNat + (i - x * 9).toNat = i.toNat by omega, if_pos (by omega)]; rfl) ls (lv_sub hl [1, 2, 3, 4, 0] rfl)
    · refine zi_const hx hb 1 dX1_has_24 ?_
      exact rd_zret hx hb hr hlk (congrArg (fun z => some (Value.int (iZ z))) (show (hsZ (V 3) (x * 9).toNat ((y - x) * 9).toNat : Int) = 1 from by unfold hsZ; rw [if_pos (cn_pos (m := (i - x * 9).toNat) (by rw [show (x * 9).toNat + (i - x * 9).toNat = i.toNat by omega]; omega) _ (by omega))])) (by decide) dX1_has_25
set_option maxHeartbeats 4000000 in
set_option maxRecDepth 100000 in
theorem k2_X1_load (l : Launch) (D : va_G) (mo : Nat) (na : Nat → Nat) (cI cJ : ClassId) (c0 k : Int) (V : Nat → Nat → Int) (f : Int) (hd : dM mo na) (hN : ∀ j, 0 ≤ V 0 j ∧ V 0 j < 32003) (hf : 0 ≤ f ∧ f < 60) : wm_M l yX1_load cX1_load 4 none ({ frames := 0, cells := 0, slots := 0, locals := 0 }) [.ref (na 2), .int (iZ f)] D mo na cI cJ c0 k V none c0 k (fun Z => (∀ j : Nat, j < 72 → Z 2 j = V 0 ((f * 72).toNat + j)) ∧ ∀ b, b ≠ 2 → Z b = V b) := by
  refine wm_of (by decide) rfl (Nat.le_of_ble_eq_true rfl) ?_
  intro p e s m below meth c A hAe S hr hlk hP hK hA hAn hS ls hl
  obtain ⟨hx, hb, hml, hown, hT⟩ := id S
  have hl : lv_has ls 4 [(0, .ref mo), (1, .ref (na 2)), (2, .int (iZ f))] := hl
  refine zi_const hx hb 0 dX1_load_0 ?_
  refine lv_istore_n (lv' := [(3, .int (iZ 0)), (0, .ref mo), (1, .ref (na 2)), (2, .int (iZ f))]) hx hb dX1_load_1 rfl hl (by decide) rfl (fun ls hl => ?_)
  refine lp_goM (nL := 4) (α := (Nat → Nat → Int) × Int) (fun z => [(0, .ref mo), (1, .ref (na 2)), (2, .int (iZ f)), (3, .int (iZ z.2))]) (fun _ => c0) (fun _ => k) (fun z => z.1) (fun m2 z => 0 ≤ z.2 ∧ z.2 + (m2 : Int) = 72 ∧ (∀ j : Nat, (j : Int) < z.2 → z.1 2 j = V 0 ((f * 72).toNat + j)) ∧ ∀ b, b ≠ 2 → z.1 b = V b) ?_ 72 (V, (0 : Int)) (by (try dsimp only); exact ⟨by omega, by omega, fun j hj => by omega, fun b _ => rfl⟩) _ _ hP hS ls (lv_sub hl [1, 2, 3, 0] rfl)
  intro m2 z1 hI2 ih2 H locs hP hS ls hl
  obtain ⟨Y, i⟩ := z1
  have hl : lv_has ls 4 [(0, .ref mo), (1, .ref (na 2)), (2, .int (iZ f)), (3, .int (iZ i))] := hl
  have hI2 : 0 ≤ i ∧ i + (m2 : Int) = 72 ∧ (∀ j : Nat, (j : Int) < i → Y 2 j = V 0 ((f * 72).toNat + j)) ∧ ∀ b, b ≠ 2 → Y b = V b := hI2
  have hP : va_P D vwCl (mX mo na cI cJ c0 k Y) H := hP
  have hN2 : ∀ j, 0 ≤ Y 0 j ∧ Y 0 j < 32003 := fun j => by rw [hI2.2.2.2 0 (by decide)]; exact hN j
  refine lv_iload_n hx hb dX1_load_2 rfl (lv_at hl 3 rfl) ?_
  refine zi_bi hx hb 72 dX1_load_3 (by decide) ?_
  refine zi_cge (tgt := 29) hx hb dX1_load_5 (by decide) (by omega) (by omega) (fun hc5 => ?_) (fun hc5 => ?_)
  · exact wm_vret hx hb hr hlk hP (⟨fun j hj => hI2.2.2.1 j (by omega), hI2.2.2.2⟩) rfl rfl hS rfl dX1_load_29
  · refine lv_aload_n hx hb dX1_load_8 rfl (lv_at hl 1 rfl) ?_
    refine lv_iload_n hx hb dX1_load_9 rfl (lv_at hl 3 rfl) ?_
    refine lv_aload_n hx hb dX1_load_10 rfl (lv_at hl 0 rfl) ?_
    refine va_get (D := D) (ci := 1) (C := RX1) (T := TX1) (N := 8) hx hb hT inX1 hown hK hP 0 rfl rfl 2 (by decide) (hT _ tb_404) (fun _ h9 => h9) rfl dX1_load_11 ?_
    refine zi_bi hx hb 72 dX1_load_14 (by decide) ?_
    refine lv_iload_n hx hb dX1_load_16 rfl (lv_at hl 2 rfl) ?_
    refine zi_mul hx hb dX1_load_17 ?_
    refine lv_iload_n hx hb dX1_load_18 rfl (lv_at hl 3 rfl) ?_
    refine zi_add hx hb dX1_load_19 ?_
    refine va_iald hx hb hK hP 1 0 rfl rfl (iZ_in (by omega) (by omega) (by decide)) dX1_load_20 ?_
    refine zi_as (a := Y 0 (((72 * f) + i).toNat)) (by rw [iZ_cl (by omega) (by omega)]) ?_
    have hnn := hN2 (72 * f + i).toNat
    refine zi_i2l hx hb dX1_load_21 (by omega) ?_
    refine mm_l hx hb hK hP hd hA hS 2 72 rfl (fun g => rfl) (by omega) dX1_load_22 (fun H locs hP hS => ?_)
    obtain ⟨V2, eV2⟩ : ∃ Z : Nat → Nat → Int, Z = sV Y 2 (uZ (Y 2) (i).toNat (Y 0 ((72 * f) + i).toNat)) := ⟨_, rfl⟩
    rw [← eV2] at hP
    refine zi_inc (lv' := [(3, .int (iZ (i + 1))), (0, .ref mo), (1, .ref (na 2)), (2, .int (iZ f))]) hx hb dX1_load_23 hl (k := 3) rfl (by decide) rfl (fun ls hl => ?_)
    refine lv_goto (tgt := 2) hx hb dX1_load_26 (by decide) ?_
    exact ih2 (m2 - 1) (V2, i + 1) (by omega) (by (try dsimp only); exact ⟨by omega, by omega, by rw [eV2, sV_a]; exact st_lt hI2.2.2.1 hI2.1 (by rw [hI2.2.2.2 0 (by decide), show (72 * f + i).toNat = (f * 72).toNat + i.toNat by omega]), fun b hb9 => by rw [eV2, sV_b hb9]; exact hI2.2.2.2 b hb9⟩) _ _ hP hS ls (lv_sub hl [1, 2, 3, 0] rfl)
set_option maxHeartbeats 4000000 in
set_option maxRecDepth 100000 in
theorem k3_X1_load (l : Launch) (D : va_G) (mo : Nat) (na : Nat → Nat) (cI cJ : ClassId) (c0 k : Int) (V : Nat → Nat → Int) (f : Int) (hd : dM mo na) (hN : ∀ j, 0 ≤ V 0 j ∧ V 0 j < 32003) (hf : 0 ≤ f ∧ f < 60) : wm_M l yX1_load cX1_load 4 none ({ frames := 0, cells := 0, slots := 0, locals := 0 }) [.ref (na 3), .int (iZ f)] D mo na cI cJ c0 k V none c0 k (fun Z => (∀ j : Nat, j < 72 → Z 3 j = V 0 ((f * 72).toNat + j)) ∧ ∀ b, b ≠ 3 → Z b = V b) := by
  refine wm_of (by decide) rfl (Nat.le_of_ble_eq_true rfl) ?_
  intro p e s m below meth c A hAe S hr hlk hP hK hA hAn hS ls hl
  obtain ⟨hx, hb, hml, hown, hT⟩ := id S
  have hl : lv_has ls 4 [(0, .ref mo), (1, .ref (na 3)), (2, .int (iZ f))] := hl
  refine zi_const hx hb 0 dX1_load_0 ?_
  refine lv_istore_n (lv' := [(3, .int (iZ 0)), (0, .ref mo), (1, .ref (na 3)), (2, .int (iZ f))]) hx hb dX1_load_1 rfl hl (by decide) rfl (fun ls hl => ?_)
  refine lp_goM (nL := 4) (α := (Nat → Nat → Int) × Int) (fun z => [(0, .ref mo), (1, .ref (na 3)), (2, .int (iZ f)), (3, .int (iZ z.2))]) (fun _ => c0) (fun _ => k) (fun z => z.1) (fun m2 z => 0 ≤ z.2 ∧ z.2 + (m2 : Int) = 72 ∧ (∀ j : Nat, (j : Int) < z.2 → z.1 3 j = V 0 ((f * 72).toNat + j)) ∧ ∀ b, b ≠ 3 → z.1 b = V b) ?_ 72 (V, (0 : Int)) (by (try dsimp only); exact ⟨by omega, by omega, fun j hj => by omega, fun b _ => rfl⟩) _ _ hP hS ls (lv_sub hl [1, 2, 3, 0] rfl)
  intro m2 z1 hI2 ih2 H locs hP hS ls hl
  obtain ⟨Y, i⟩ := z1
  have hl : lv_has ls 4 [(0, .ref mo), (1, .ref (na 3)), (2, .int (iZ f)), (3, .int (iZ i))] := hl
  have hI2 : 0 ≤ i ∧ i + (m2 : Int) = 72 ∧ (∀ j : Nat, (j : Int) < i → Y 3 j = V 0 ((f * 72).toNat + j)) ∧ ∀ b, b ≠ 3 → Y b = V b := hI2
  have hP : va_P D vwCl (mX mo na cI cJ c0 k Y) H := hP
  have hN2 : ∀ j, 0 ≤ Y 0 j ∧ Y 0 j < 32003 := fun j => by rw [hI2.2.2.2 0 (by decide)]; exact hN j
  refine lv_iload_n hx hb dX1_load_2 rfl (lv_at hl 3 rfl) ?_
  refine zi_bi hx hb 72 dX1_load_3 (by decide) ?_
  refine zi_cge (tgt := 29) hx hb dX1_load_5 (by decide) (by omega) (by omega) (fun hc5 => ?_) (fun hc5 => ?_)
  · exact wm_vret hx hb hr hlk hP (⟨fun j hj => hI2.2.2.1 j (by omega), hI2.2.2.2⟩) rfl rfl hS rfl dX1_load_29
  · refine lv_aload_n hx hb dX1_load_8 rfl (lv_at hl 1 rfl) ?_
    refine lv_iload_n hx hb dX1_load_9 rfl (lv_at hl 3 rfl) ?_
    refine lv_aload_n hx hb dX1_load_10 rfl (lv_at hl 0 rfl) ?_
    refine va_get (D := D) (ci := 1) (C := RX1) (T := TX1) (N := 8) hx hb hT inX1 hown hK hP 0 rfl rfl 2 (by decide) (hT _ tb_404) (fun _ h9 => h9) rfl dX1_load_11 ?_
    refine zi_bi hx hb 72 dX1_load_14 (by decide) ?_
    refine lv_iload_n hx hb dX1_load_16 rfl (lv_at hl 2 rfl) ?_
    refine zi_mul hx hb dX1_load_17 ?_
    refine lv_iload_n hx hb dX1_load_18 rfl (lv_at hl 3 rfl) ?_
    refine zi_add hx hb dX1_load_19 ?_
    refine va_iald hx hb hK hP 1 0 rfl rfl (iZ_in (by omega) (by omega) (by decide)) dX1_load_20 ?_
    refine zi_as (a := Y 0 (((72 * f) + i).toNat)) (by rw [iZ_cl (by omega) (by omega)]) ?_
    have hnn := hN2 (72 * f + i).toNat
    refine zi_i2l hx hb dX1_load_21 (by omega) ?_
    refine mm_l hx hb hK hP hd hA hS 3 72 rfl (fun g => rfl) (by omega) dX1_load_22 (fun H locs hP hS => ?_)
    obtain ⟨V2, eV2⟩ : ∃ Z : Nat → Nat → Int, Z = sV Y 3 (uZ (Y 3) (i).toNat (Y 0 ((72 * f) + i).toNat)) := ⟨_, rfl⟩
    rw [← eV2] at hP
    refine zi_inc (lv' := [(3, .int (iZ (i + 1))), (0, .ref mo), (1, .ref (na 3)), (2, .int (iZ f))]) hx hb dX1_load_23 hl (k := 3) rfl (by decide) rfl (fun ls hl => ?_)
    refine lv_goto (tgt := 2) hx hb dX1_load_26 (by decide) ?_
    exact ih2 (m2 - 1) (V2, i + 1) (by omega) (by (try dsimp only); exact ⟨by omega, by omega, by rw [eV2, sV_a]; exact st_lt hI2.2.2.1 hI2.1 (by rw [hI2.2.2.2 0 (by decide), show (72 * f + i).toNat = (f * 72).toNat + i.toNat by omega]), fun b hb9 => by rw [eV2, sV_b hb9]; exact hI2.2.2.2 b hb9⟩) _ _ hP hS ls (lv_sub hl [1, 2, 3, 0] rfl)
set_option maxHeartbeats 4000000 in
set_option maxRecDepth 100000 in
theorem k_X1_start (l : Launch) (D : va_G) (mo : Nat) (na : Nat → Nat) (cI cJ : ClassId) (c0 k : Int) (V : Nat → Nat → Int)  (hd : dM mo na)  : wm_M l yX1_start cX1_start 2 none ({ frames := 0, cells := 0, slots := 0, locals := 0 }) [] D mo na cI cJ c0 k V none c0 k (fun Z => (∀ j : Nat, j < 304 → Z 4 j = 0) ∧ ∀ b, b ≠ 4 → Z b = V b) := by
  refine wm_of (by decide) rfl (Nat.le_of_ble_eq_true rfl) ?_
  intro p e s m below meth c A hAe S hr hlk hP hK hA hAn hS ls hl
  obtain ⟨hx, hb, hml, hown, hT⟩ := id S
  have hl : lv_has ls 2 [(0, .ref mo)] := hl
  refine zi_const hx hb 0 dX1_start_0 ?_
  refine lv_istore_n (lv' := [(1, .int (iZ 0)), (0, .ref mo)]) hx hb dX1_start_1 rfl hl (by decide) rfl (fun ls hl => ?_)
  refine lp_goM (nL := 2) (α := (Nat → Nat → Int) × Int) (fun z => [(0, .ref mo), (1, .int (iZ z.2))]) (fun _ => c0) (fun _ => k) (fun z => z.1) (fun m2 z => 0 ≤ z.2 ∧ z.2 + (m2 : Int) = 304 ∧ (∀ j : Nat, (j : Int) < z.2 → z.1 4 j = 0) ∧ ∀ b, b ≠ 4 → z.1 b = V b) ?_ 304 (V, (0 : Int)) (by (try dsimp only); exact ⟨by omega, by omega, fun j hj => by omega, fun b _ => rfl⟩) _ _ hP hS ls (lv_sub hl [1, 0] rfl)
  intro m2 z1 hI2 ih2 H locs hP hS ls hl
  obtain ⟨Y, i⟩ := z1
  have hl : lv_has ls 2 [(0, .ref mo), (1, .int (iZ i))] := hl
  have hI2 : 0 ≤ i ∧ i + (m2 : Int) = 304 ∧ (∀ j : Nat, (j : Int) < i → Y 4 j = 0) ∧ ∀ b, b ≠ 4 → Y b = V b := hI2
  have hP : va_P D vwCl (mX mo na cI cJ c0 k Y) H := hP
  refine lv_iload_n hx hb dX1_start_2 rfl (lv_at hl 1 rfl) ?_
  refine zi_si hx hb 304 dX1_start_3 (by decide) ?_
  refine zi_cge (tgt := 22) hx hb dX1_start_6 (by decide) (by omega) (by omega) (fun hc6 => ?_) (fun hc6 => ?_)
  · exact wm_vret hx hb hr hlk hP (⟨fun j hj => hI2.2.2.1 j (by omega), hI2.2.2.2⟩) rfl rfl hS rfl dX1_start_22
  · refine lv_aload_n hx hb dX1_start_9 rfl (lv_at hl 0 rfl) ?_
    refine va_get (D := D) (ci := 1) (C := RX1) (T := TX1) (N := 8) hx hb hT inX1 hown hK hP 0 rfl rfl 6 (by decide) (hT _ tb_408) (fun _ h9 => h9) rfl dX1_start_10 ?_
    refine lv_iload_n hx hb dX1_start_13 rfl (lv_at hl 1 rfl) ?_
    refine zl_const hx hb 0 dX1_start_14 (by decide) ?_
    refine mm_l hx hb hK hP hd hA hS 4 304 rfl (fun g => rfl) (by omega) dX1_start_15 (fun H locs hP hS => ?_)
    obtain ⟨V2, eV2⟩ : ∃ Z : Nat → Nat → Int, Z = sV Y 4 (uZ (Y 4) (i).toNat 0) := ⟨_, rfl⟩
    rw [← eV2] at hP
    refine zi_inc (lv' := [(1, .int (iZ (i + 1))), (0, .ref mo)]) hx hb dX1_start_16 hl (k := 1) rfl (by decide) rfl (fun ls hl => ?_)
    refine lv_goto (tgt := 2) hx hb dX1_start_19 (by decide) ?_
    exact ih2 (m2 - 1) (V2, i + 1) (by omega) (by (try dsimp only); exact ⟨by omega, by omega, by rw [eV2, sV_a]; exact st_lt (P := fun _ => 0) hI2.2.2.1 hI2.1 rfl, fun b hb9 => by rw [eV2, sV_b hb9]; exact hI2.2.2.2 b hb9⟩) _ _ hP hS ls (lv_sub hl [1, 0] rfl)
theorem kp_hi {g h : Nat → Int} {b z : Nat} {i x : Int} (h1 : ∀ j : Nat, (j : Int) < i → g (b + j) = h j) (hi : 0 ≤ i) (hz : z = b + i.toNat) (hx : x = h i.toNat) : ∀ j : Nat, (j : Int) < i + 1 → uZ g z x (b + j) = h j := by
  intro j hj
  unfold uZ
  by_cases h2 : (j : Int) = i
  · rw [if_pos (by omega), hx, show i.toNat = j by omega]
  · rw [if_neg (by omega)]
    exact h1 j (by omega)
theorem kp_lo {g h : Nat → Int} {z : Nat} {B x : Int} (h1 : ∀ j : Nat, (j : Int) < B ∨ B + 72 ≤ (j : Int) → g j = h j) (hz : B ≤ z ∧ z < B + 72) : ∀ j : Nat, (j : Int) < B ∨ B + 72 ≤ (j : Int) → uZ g z x j = h j := by
  intro j hj
  unfold uZ
  rw [if_neg (by omega)]
  exact h1 j hj
set_option maxHeartbeats 4000000 in
set_option maxRecDepth 100000 in
theorem k_X1_keep (l : Launch) (D : va_G) (mo : Nat) (na : Nat → Nat) (cI cJ : ClassId) (c0 k : Int) (V : Nat → Nat → Int)  (hd : dM mo na) (hk : 0 ≤ k ∧ k < 60) : wm_M l yX1_keep cX1_keep 2 (some .int) ({ frames := 0, cells := 0, slots := 0, locals := 0 }) [] D mo na cI cJ c0 k V (some (.int (iZ k))) 0 (k + 1) (fun Z => (∀ j : Nat, j < 72 → Z 0 ((k * 72).toNat + j) = V 1 j) ∧ ∀ j : Nat, (j : Int) < k * 72 ∨ k * 72 + 72 ≤ (j : Int) → Z 0 j = V 0 j) := by
  refine wm_of (by decide) rfl (Nat.le_of_ble_eq_true rfl) ?_
  intro p e s m below meth c A hAe S hr hlk hP hK hA hAn hS ls hl
  obtain ⟨hx, hb, hml, hown, hT⟩ := id S
  have hl : lv_has ls 2 [(0, .ref mo)] := hl
  refine lv_aload_n hx hb dX1_keep_0 rfl (lv_at hl 0 rfl) ?_
  refine zi_const hx hb 0 dX1_keep_1 ?_
  refine va_put (D := D) (ci := 1) (v := .int (iZ 0)) (ty := .int) (C := RX1) (T := TX1) (N := 8) hx hb hT inX1 tyX1 tyX1_ok nmX1 hown hK hP (dM_D hd hA) hS 0 rfl rfl 0 (by decide) (hT _ tb_402) (fun _ h9 => h9) rfl (by decide +kernel) rfl rfl (Nat.le_of_ble_eq_true rfl) dX1_keep_2 (fun H locs hP _ hS => ?_)
  have hP : va_P D vwCl (mX mo na cI cJ 0 k V) H := hP
  refine zi_const hx hb 0 dX1_keep_5 ?_
  refine lv_istore_n (lv' := [(1, .int (iZ 0)), (0, .ref mo)]) hx hb dX1_keep_6 rfl hl (by decide) rfl (fun ls hl => ?_)
  refine lp_goM (nL := 2) (α := (Nat → Nat → Int) × Int) (fun z => [(0, .ref mo), (1, .int (iZ z.2))]) (fun _ => 0) (fun _ => k) (fun z => z.1) (fun m7 z => 0 ≤ z.2 ∧ z.2 + (m7 : Int) = 72 ∧ (∀ j : Nat, (j : Int) < z.2 → z.1 0 ((k * 72).toNat + j) = V 1 j) ∧ (∀ j : Nat, (j : Int) < k * 72 ∨ k * 72 + 72 ≤ (j : Int) → z.1 0 j = V 0 j) ∧ z.1 1 = V 1) ?_ 72 (V, (0 : Int)) (by (try dsimp only); exact ⟨by omega, by omega, fun j hj => by omega, fun j _ => rfl, rfl⟩) _ _ hP hS ls (lv_sub hl [1, 0] rfl)
  intro m7 z1 hI7 ih7 H locs hP hS ls hl
  obtain ⟨Y, i⟩ := z1
  have hl : lv_has ls 2 [(0, .ref mo), (1, .int (iZ i))] := hl
  have hI7 : 0 ≤ i ∧ i + (m7 : Int) = 72 ∧ (∀ j : Nat, (j : Int) < i → Y 0 ((k * 72).toNat + j) = V 1 j) ∧ (∀ j : Nat, (j : Int) < k * 72 ∨ k * 72 + 72 ≤ (j : Int) → Y 0 j = V 0 j) ∧ Y 1 = V 1 := hI7
  have hP : va_P D vwCl (mX mo na cI cJ 0 k Y) H := hP
  refine lv_iload_n hx hb dX1_keep_7 rfl (lv_at hl 1 rfl) ?_
  refine zi_bi hx hb 72 dX1_keep_8 (by decide) ?_
  refine zi_cge (tgt := 40) hx hb dX1_keep_10 (by decide) (by omega) (by omega) (fun hc10 => ?_) (fun hc10 => ?_)
  · refine lv_aload_n hx hb dX1_keep_40 rfl (lv_at hl 0 rfl) ?_
    refine lv_dup hx hb dX1_keep_41 rfl ?_
    refine va_get (D := D) (ci := 1) (C := RX1) (T := TX1) (N := 8) hx hb hT inX1 hown hK hP 0 rfl rfl 1 (by decide) (hT _ tb_403) (fun _ h9 => h9) rfl dX1_keep_42 ?_
    refine zi_const hx hb 1 dX1_keep_45 ?_
    refine zi_add hx hb dX1_keep_46 ?_
    refine va_put (D := D) (ci := 1) (v := .int (iZ (k + 1))) (ty := .int) (C := RX1) (T := TX1) (N := 8) hx hb hT inX1 tyX1 tyX1_ok nmX1 hown hK hP (dM_D hd hA) hS 0 rfl rfl 1 (by decide) (hT _ tb_403) (fun _ h9 => h9) rfl (by decide +kernel) rfl rfl (Nat.le_of_ble_eq_true rfl) dX1_keep_47 (fun H locs hP _ hS => ?_)
    have hP : va_P D vwCl (mX mo na cI cJ 0 (k + 1) Y) H := hP
    refine lv_aload_n hx hb dX1_keep_50 rfl (lv_at hl 0 rfl) ?_
    refine va_get (D := D) (ci := 1) (C := RX1) (T := TX1) (N := 8) hx hb hT inX1 hown hK hP 0 rfl rfl 1 (by decide) (hT _ tb_403) (fun _ h9 => h9) rfl dX1_keep_51 ?_
    refine zi_const hx hb 1 dX1_keep_54 ?_
    refine zi_sub hx hb dX1_keep_55 ?_
    exact wm_iret hx hb hr hlk hP (⟨fun j hj => hI7.2.2.1 j (by omega), hI7.2.2.2.1⟩) rfl rfl hS (congrArg (fun z => some (Value.int (iZ z))) (show (k : Int) = (k + 1) - 1 from by omega)) dX1_keep_56
  · refine lv_aload_n hx hb dX1_keep_13 rfl (lv_at hl 0 rfl) ?_
    refine va_get (D := D) (ci := 1) (C := RX1) (T := TX1) (N := 8) hx hb hT inX1 hown hK hP 0 rfl rfl 2 (by decide) (hT _ tb_404) (fun _ h9 => h9) rfl dX1_keep_14 ?_
    refine zi_bi hx hb 72 dX1_keep_17 (by decide) ?_
    refine lv_aload_n hx hb dX1_keep_19 rfl (lv_at hl 0 rfl) ?_
    refine va_get (D := D) (ci := 1) (C := RX1) (T := TX1) (N := 8) hx hb hT inX1 hown hK hP 0 rfl rfl 1 (by decide) (hT _ tb_403) (fun _ h9 => h9) rfl dX1_keep_20 ?_
    refine zi_mul hx hb dX1_keep_23 ?_
    refine lv_iload_n hx hb dX1_keep_24 rfl (lv_at hl 1 rfl) ?_
    refine zi_add hx hb dX1_keep_25 ?_
    refine lv_aload_n hx hb dX1_keep_26 rfl (lv_at hl 0 rfl) ?_
    refine va_get (D := D) (ci := 1) (C := RX1) (T := TX1) (N := 8) hx hb hT inX1 hown hK hP 0 rfl rfl 3 (by decide) (hT _ tb_405) (fun _ h9 => h9) rfl dX1_keep_27 ?_
    refine lv_iload_n hx hb dX1_keep_30 rfl (lv_at hl 1 rfl) ?_
    refine va_lald hx hb hK hP 2 1 rfl rfl (iZ_in (by omega) (by omega) (by decide)) dX1_keep_31 ?_
    refine zl_as (a := Y 1 ((i).toNat)) (by rw [iZ_cl (by omega) (by omega)]) ?_
    refine zl_l2i hx hb dX1_keep_32 ?_
    refine mm_i hx hb hK hP hd hA hS (by omega) dX1_keep_33 (fun H locs hP hS => ?_)
    obtain ⟨V2, eV2⟩ : ∃ Z : Nat → Nat → Int, Z = sV Y 0 (uZ (Y 0) ((72 * k) + i).toNat (Y 1 (i).toNat)) := ⟨_, rfl⟩
    rw [← eV2] at hP
    refine zi_inc (lv' := [(1, .int (iZ (i + 1))), (0, .ref mo)]) hx hb dX1_keep_34 hl (k := 1) rfl (by decide) rfl (fun ls hl => ?_)
    refine lv_goto (tgt := 7) hx hb dX1_keep_37 (by decide) ?_
    exact ih7 (m7 - 1) (V2, i + 1) (by omega) (by (try dsimp only); exact ⟨by omega, by omega, by rw [eV2, sV_a]; exact kp_hi hI7.2.2.1 hI7.1 (by omega) (by rw [hI7.2.2.2.2]), by rw [eV2, sV_a]; exact kp_lo hI7.2.2.2.1 (by omega), by rw [eV2]; exact (sV_b (by decide)).trans hI7.2.2.2.2⟩) _ _ hP hS ls (lv_sub hl [1, 0] rfl)
set_option maxHeartbeats 4000000 in
set_option maxRecDepth 100000 in
theorem k_X1_may (l : Launch) (D : va_G) (mo : Nat) (na : Nat → Nat) (cI cJ : ClassId) (c0 k : Int) (V : Nat → Nat → Int) (f g : Int) (hd : dM mo na) (hN : ∀ j, 0 ≤ V 0 j ∧ V 0 j < 32003) (hk : 0 ≤ k ∧ k < 60) (hf : 0 ≤ f ∧ f < k) (hg : 0 ≤ g ∧ g < k) : wm_M l yX1_may cX1_may 3 (some .boolean) ({ frames := 2, cells := 0, slots := 0, locals := 46 }) [.int (iZ f), .int (iZ g)] D mo na cI cJ c0 k V (some (.int (iZ 1))) 0 k (fun Z => (∀ j : Nat, j < 72 → Z 2 j = V 0 ((f * 72).toNat + j)) ∧ (∀ j : Nat, j < 72 → Z 3 j = V 0 ((g * 72).toNat + j)) ∧ Z 0 = V 0) := by
  refine wm_of (by decide) rfl (Nat.le_of_ble_eq_true rfl) ?_
  intro p e s m below meth c A hAe S hr hlk hP hK hA hAn hS ls hl
  obtain ⟨hx, hb, hml, hown, hT⟩ := id S
  have hl : lv_has ls 3 [(0, .ref mo), (1, .int (iZ f)), (2, .int (iZ g))] := hl
  refine lv_aload_n hx hb dX1_may_0 rfl (lv_at hl 0 rfl) ?_
  refine lv_aload_n hx hb dX1_may_1 rfl (lv_at hl 0 rfl) ?_
  refine lv_iload_n hx hb dX1_may_2 rfl (lv_at hl 1 rfl) ?_
  refine rd_V (As := [.int (iZ f)]) (rest := [.ref mo]) (st1 := [.int (iZ (inZ f 0 (k - 1))), .ref mo]) S (k_X1_isThere l D mo na cI cJ c0 k V f (by omega) (by omega)) tb_466 tb_468 ts_X1_isThere tb_2 tb_469 hd_X1_isThere ⟨rfl, rfl, by decide, by decide⟩ rM_bl (rM_mv hP hK) (va_recv hK hP (ci := 1) (q0 := 0) rfl rfl) rfl hl.1 rfl (Nat.le_of_ble_eq_true rfl) dX1_may_3 ⟨Nat.zero_le _, Nat.zero_le _⟩ rfl ?_
  have hi6 := inZ_or f 0 (k - 1)
  refine zi_feq (tgt := 17) hx hb dX1_may_6 (by decide) (by omega) (fun hc6 => ?_) (fun hc6 => ?_)
  · refine zi_const hx hb 1 dX1_may_17 ?_
    refine lv_goto (tgt := 35) hx hb dX1_may_18 (by decide) ?_
    exfalso
    omega
  · refine lv_aload_n hx hb dX1_may_9 rfl (lv_at hl 0 rfl) ?_
    refine lv_iload_n hx hb dX1_may_10 rfl (lv_at hl 2 rfl) ?_
    refine rd_V (As := [.int (iZ g)]) (rest := [.ref mo]) (st1 := [.int (iZ (inZ g 0 (k - 1))), .ref mo]) S (k_X1_isThere l D mo na cI cJ c0 k V g (by omega) (by omega)) tb_466 tb_468 ts_X1_isThere tb_2 tb_469 hd_X1_isThere ⟨rfl, rfl, by decide, by decide⟩ rM_bl (rM_mv hP hK) (va_recv hK hP (ci := 1) (q0 := 0) rfl rfl) rfl hl.1 rfl (Nat.le_of_ble_eq_true rfl) dX1_may_11 ⟨Nat.zero_le _, Nat.zero_le _⟩ rfl ?_
    have hi14 := inZ_or g 0 (k - 1)
    refine zi_fne (tgt := 21) hx hb dX1_may_14 (by decide) (by omega) (fun hc14 => ?_) (fun hc14 => ?_)
    · refine lv_aload_n hx hb dX1_may_21 rfl (lv_at hl 0 rfl) ?_
      refine va_get (D := D) (ci := 1) (C := RX1) (T := TX1) (N := 8) hx hb hT inX1 hown hK hP 0 rfl rfl 1 (by decide) (hT _ tb_403) (fun _ h9 => h9) rfl dX1_may_22 ?_
      refine zi_bi hx hb 60 dX1_may_25 (by decide) ?_
      refine zi_cne (tgt := 34) hx hb dX1_may_27 (by decide) (by omega) (by omega) (fun hc27 => ?_) (fun hc27 => ?_)
      · refine zi_const hx hb 0 dX1_may_34 ?_
        refine va_put (D := D) (ci := 1) (v := .int (iZ 0)) (ty := .int) (C := RX1) (T := TX1) (N := 8) hx hb hT inX1 tyX1 tyX1_ok nmX1 hown hK hP (dM_D hd hA) hS 0 rfl rfl 0 (by decide) (hT _ tb_402) (fun _ h9 => h9) rfl (by decide +kernel) rfl rfl (Nat.le_of_ble_eq_true rfl) dX1_may_35 (fun H locs hP _ hS => ?_)
        have hP : va_P D vwCl (mX mo na cI cJ 0 k V) H := hP
        refine lv_aload_n hx hb dX1_may_38 rfl (lv_at hl 0 rfl) ?_
        refine va_get (D := D) (ci := 1) (C := RX1) (T := TX1) (N := 8) hx hb hT inX1 hown hK hP 0 rfl rfl 0 (by decide) (hT _ tb_402) (fun _ h9 => h9) rfl dX1_may_39 ?_
        refine zi_fle (tgt := 47) hx hb dX1_may_42 (by decide) (by omega) (fun hc42 => ?_) (fun hc42 => ?_)
        · refine lv_aload_n hx hb dX1_may_47 rfl (lv_at hl 0 rfl) ?_
          refine lv_aload_n hx hb dX1_may_48 rfl (lv_at hl 0 rfl) ?_
          refine va_get (D := D) (ci := 1) (C := RX1) (T := TX1) (N := 8) hx hb hT inX1 hown hK hP 0 rfl rfl 4 (by decide) (hT _ tb_406) (fun _ h9 => h9) rfl dX1_may_49 ?_
          refine lv_iload_n hx hb dX1_may_52 rfl (lv_at hl 1 rfl) ?_
          refine wm_V (As := [.ref (na 2), .int (iZ f)]) (rest := []) (st1 := []) (c1 := 0) (k1 := k) S (k2_X1_load l D mo na cI cJ 0 k V f hd hN (by omega)) tb_470 tb_472 ts_X1_load tb_2 tb_473 hd_X1_load ⟨rfl, rfl, by decide, by decide⟩ hP hK hS hA hAn rfl hl.1 rfl (Nat.le_of_ble_eq_true rfl) dX1_may_53 ⟨Nat.zero_le _, Nat.zero_le _⟩ rfl (fun V1 H locs hRV1 hP hS _ _ => ?_)
          have hNV1 : ∀ j, 0 ≤ V1 0 j ∧ V1 0 j < 32003 := fun j => by rw [hRV1.2 0 (by decide)]; exact hN j
          refine lv_aload_n hx hb dX1_may_56 rfl (lv_at hl 0 rfl) ?_
          refine lv_aload_n hx hb dX1_may_57 rfl (lv_at hl 0 rfl) ?_
          refine va_get (D := D) (ci := 1) (C := RX1) (T := TX1) (N := 8) hx hb hT inX1 hown hK hP 0 rfl rfl 5 (by decide) (hT _ tb_407) (fun _ h9 => h9) rfl dX1_may_58 ?_
          refine lv_iload_n hx hb dX1_may_61 rfl (lv_at hl 2 rfl) ?_
          refine wm_V (As := [.ref (na 3), .int (iZ g)]) (rest := []) (st1 := []) (c1 := 0) (k1 := k) S (k3_X1_load l D mo na cI cJ 0 k V1 g hd hNV1 (by omega)) tb_470 tb_472 ts_X1_load tb_2 tb_473 hd_X1_load ⟨rfl, rfl, by decide, by decide⟩ hP hK hS hA hAn rfl hl.1 rfl (Nat.le_of_ble_eq_true rfl) dX1_may_62 ⟨Nat.zero_le _, Nat.zero_le _⟩ rfl (fun V2 H locs hRV2 hP hS _ _ => ?_)
          have hNV2 : ∀ j, 0 ≤ V2 0 j ∧ V2 0 j < 32003 := fun j => by rw [hRV2.2 0 (by decide)]; exact hNV1 j
          refine zi_const hx hb 1 dX1_may_65 ?_
          exact wm_zret hx hb hr hlk hP (⟨fun j hj => by rw [hRV2.2 2 (by decide)]; exact hRV1.1 j hj, fun j hj => by rw [hRV2.1 j hj, hRV1.2 0 (by decide)], by rw [hRV2.2 0 (by decide), hRV1.2 0 (by decide)]⟩) rfl rfl hS (congrArg (fun z => some (Value.int (iZ z))) (show (1 : Int) = 1 from rfl)) (by decide) dX1_may_66
        · exfalso
          omega
      · refine zi_const hx hb 2 dX1_may_30 ?_
        refine lv_goto (tgt := 35) hx hb dX1_may_31 (by decide) ?_
        exfalso
        omega
    · refine zi_const hx hb 1 dX1_may_17 ?_
      refine lv_goto (tgt := 35) hx hb dX1_may_18 (by decide) ?_
      exfalso
      omega
set_option maxHeartbeats 4000000 in
set_option maxRecDepth 100000 in
theorem kO_X1_may (l : Launch) (D : va_G) (mo : Nat) (na : Nat → Nat) (cI cJ : ClassId) (c0 k : Int) (V : Nat → Nat → Int) (f g : Int) (hd : dM mo na) (hk : 0 ≤ k ∧ k ≤ 60) (hf0 : -2147483648 ≤ f ∧ f ≤ 2147483647) (hg0 : -2147483648 ≤ g ∧ g ≤ 2147483647) (h0 : ¬ ((0 ≤ f ∧ f < k) ∧ (0 ≤ g ∧ g < k))) : wm_M l yX1_may cX1_may 3 (some .boolean) ({ frames := 2, cells := 0, slots := 0, locals := 46 }) [.int (iZ f), .int (iZ g)] D mo na cI cJ c0 k V (some (.int (iZ 0))) 1 k (fun Z => Z = V) := by
  refine wm_of (by decide) rfl (Nat.le_of_ble_eq_true rfl) ?_
  intro p e s m below meth c A hAe S hr hlk hP hK hA hAn hS ls hl
  obtain ⟨hx, hb, hml, hown, hT⟩ := id S
  have hl : lv_has ls 3 [(0, .ref mo), (1, .int (iZ f)), (2, .int (iZ g))] := hl
  refine lv_aload_n hx hb dX1_may_0 rfl (lv_at hl 0 rfl) ?_
  refine lv_aload_n hx hb dX1_may_1 rfl (lv_at hl 0 rfl) ?_
  refine lv_iload_n hx hb dX1_may_2 rfl (lv_at hl 1 rfl) ?_
  refine rd_V (As := [.int (iZ f)]) (rest := [.ref mo]) (st1 := [.int (iZ (inZ f 0 (k - 1))), .ref mo]) S (k_X1_isThere l D mo na cI cJ c0 k V f (by omega) (by omega)) tb_466 tb_468 ts_X1_isThere tb_2 tb_469 hd_X1_isThere ⟨rfl, rfl, by decide, by decide⟩ rM_bl (rM_mv hP hK) (va_recv hK hP (ci := 1) (q0 := 0) rfl rfl) rfl hl.1 rfl (Nat.le_of_ble_eq_true rfl) dX1_may_3 ⟨Nat.zero_le _, Nat.zero_le _⟩ rfl ?_
  have hi6 := inZ_or f 0 (k - 1)
  refine zi_feq (tgt := 17) hx hb dX1_may_6 (by decide) (by omega) (fun hc6 => ?_) (fun hc6 => ?_)
  · refine zi_const hx hb 1 dX1_may_17 ?_
    refine lv_goto (tgt := 35) hx hb dX1_may_18 (by decide) ?_
    refine va_put (D := D) (ci := 1) (v := .int (iZ 1)) (ty := .int) (C := RX1) (T := TX1) (N := 8) hx hb hT inX1 tyX1 tyX1_ok nmX1 hown hK hP (dM_D hd hA) hS 0 rfl rfl 0 (by decide) (hT _ tb_402) (fun _ h9 => h9) rfl (by decide +kernel) rfl rfl (Nat.le_of_ble_eq_true rfl) dX1_may_35 (fun H locs hP _ hS => ?_)
    have hP : va_P D vwCl (mX mo na cI cJ 1 k V) H := hP
    refine lv_aload_n hx hb dX1_may_38 rfl (lv_at hl 0 rfl) ?_
    refine va_get (D := D) (ci := 1) (C := RX1) (T := TX1) (N := 8) hx hb hT inX1 hown hK hP 0 rfl rfl 0 (by decide) (hT _ tb_402) (fun _ h9 => h9) rfl dX1_may_39 ?_
    refine zi_fle (tgt := 47) hx hb dX1_may_42 (by decide) (by omega) (fun hc42 => ?_) (fun hc42 => ?_)
    · exfalso
      omega
    · refine zi_const hx hb 0 dX1_may_45 ?_
      exact wm_zret hx hb hr hlk hP rfl rfl rfl hS (congrArg (fun z => some (Value.int (iZ z))) (show (0 : Int) = 0 from rfl)) (by decide) dX1_may_46
  · refine lv_aload_n hx hb dX1_may_9 rfl (lv_at hl 0 rfl) ?_
    refine lv_iload_n hx hb dX1_may_10 rfl (lv_at hl 2 rfl) ?_
    refine rd_V (As := [.int (iZ g)]) (rest := [.ref mo]) (st1 := [.int (iZ (inZ g 0 (k - 1))), .ref mo]) S (k_X1_isThere l D mo na cI cJ c0 k V g (by omega) (by omega)) tb_466 tb_468 ts_X1_isThere tb_2 tb_469 hd_X1_isThere ⟨rfl, rfl, by decide, by decide⟩ rM_bl (rM_mv hP hK) (va_recv hK hP (ci := 1) (q0 := 0) rfl rfl) rfl hl.1 rfl (Nat.le_of_ble_eq_true rfl) dX1_may_11 ⟨Nat.zero_le _, Nat.zero_le _⟩ rfl ?_
    have hi14 := inZ_or g 0 (k - 1)
    refine zi_fne (tgt := 21) hx hb dX1_may_14 (by decide) (by omega) (fun hc14 => ?_) (fun hc14 => ?_)
    · refine lv_aload_n hx hb dX1_may_21 rfl (lv_at hl 0 rfl) ?_
      refine va_get (D := D) (ci := 1) (C := RX1) (T := TX1) (N := 8) hx hb hT inX1 hown hK hP 0 rfl rfl 1 (by decide) (hT _ tb_403) (fun _ h9 => h9) rfl dX1_may_22 ?_
      refine zi_bi hx hb 60 dX1_may_25 (by decide) ?_
      refine zi_cne (tgt := 34) hx hb dX1_may_27 (by decide) (by omega) (by omega) (fun hc27 => ?_) (fun hc27 => ?_)
      · refine zi_const hx hb 0 dX1_may_34 ?_
        exfalso
        omega
      · refine zi_const hx hb 2 dX1_may_30 ?_
        refine lv_goto (tgt := 35) hx hb dX1_may_31 (by decide) ?_
        exfalso
        omega
    · refine zi_const hx hb 1 dX1_may_17 ?_
      refine lv_goto (tgt := 35) hx hb dX1_may_18 (by decide) ?_
      refine va_put (D := D) (ci := 1) (v := .int (iZ 1)) (ty := .int) (C := RX1) (T := TX1) (N := 8) hx hb hT inX1 tyX1 tyX1_ok nmX1 hown hK hP (dM_D hd hA) hS 0 rfl rfl 0 (by decide) (hT _ tb_402) (fun _ h9 => h9) rfl (by decide +kernel) rfl rfl (Nat.le_of_ble_eq_true rfl) dX1_may_35 (fun H locs hP _ hS => ?_)
      have hP : va_P D vwCl (mX mo na cI cJ 1 k V) H := hP
      refine lv_aload_n hx hb dX1_may_38 rfl (lv_at hl 0 rfl) ?_
      refine va_get (D := D) (ci := 1) (C := RX1) (T := TX1) (N := 8) hx hb hT inX1 hown hK hP 0 rfl rfl 0 (by decide) (hT _ tb_402) (fun _ h9 => h9) rfl dX1_may_39 ?_
      refine zi_fle (tgt := 47) hx hb dX1_may_42 (by decide) (by omega) (fun hc42 => ?_) (fun hc42 => ?_)
      · exfalso
        omega
      · refine zi_const hx hb 0 dX1_may_45 ?_
        exact wm_zret hx hb hr hlk hP rfl rfl rfl hS (congrArg (fun z => some (Value.int (iZ z))) (show (0 : Int) = 0 from rfl)) (by decide) dX1_may_46
set_option maxHeartbeats 4000000 in
set_option maxRecDepth 100000 in
theorem kS_X1_may (l : Launch) (D : va_G) (mo : Nat) (na : Nat → Nat) (cI cJ : ClassId) (c0 k : Int) (V : Nat → Nat → Int) (f g : Int) (hd : dM mo na) (hk : k = 60) (hf : 0 ≤ f ∧ f < k) (hg : 0 ≤ g ∧ g < k) : wm_M l yX1_may cX1_may 3 (some .boolean) ({ frames := 2, cells := 0, slots := 0, locals := 46 }) [.int (iZ f), .int (iZ g)] D mo na cI cJ c0 k V (some (.int (iZ 0))) 2 k (fun Z => Z = V) := by
  refine wm_of (by decide) rfl (Nat.le_of_ble_eq_true rfl) ?_
  intro p e s m below meth c A hAe S hr hlk hP hK hA hAn hS ls hl
  obtain ⟨hx, hb, hml, hown, hT⟩ := id S
  have hl : lv_has ls 3 [(0, .ref mo), (1, .int (iZ f)), (2, .int (iZ g))] := hl
  refine lv_aload_n hx hb dX1_may_0 rfl (lv_at hl 0 rfl) ?_
  refine lv_aload_n hx hb dX1_may_1 rfl (lv_at hl 0 rfl) ?_
  refine lv_iload_n hx hb dX1_may_2 rfl (lv_at hl 1 rfl) ?_
  refine rd_V (As := [.int (iZ f)]) (rest := [.ref mo]) (st1 := [.int (iZ (inZ f 0 (k - 1))), .ref mo]) S (k_X1_isThere l D mo na cI cJ c0 k V f (by omega) (by omega)) tb_466 tb_468 ts_X1_isThere tb_2 tb_469 hd_X1_isThere ⟨rfl, rfl, by decide, by decide⟩ rM_bl (rM_mv hP hK) (va_recv hK hP (ci := 1) (q0 := 0) rfl rfl) rfl hl.1 rfl (Nat.le_of_ble_eq_true rfl) dX1_may_3 ⟨Nat.zero_le _, Nat.zero_le _⟩ rfl ?_
  have hi6 := inZ_or f 0 (k - 1)
  refine zi_feq (tgt := 17) hx hb dX1_may_6 (by decide) (by omega) (fun hc6 => ?_) (fun hc6 => ?_)
  · refine zi_const hx hb 1 dX1_may_17 ?_
    refine lv_goto (tgt := 35) hx hb dX1_may_18 (by decide) ?_
    exfalso
    omega
  · refine lv_aload_n hx hb dX1_may_9 rfl (lv_at hl 0 rfl) ?_
    refine lv_iload_n hx hb dX1_may_10 rfl (lv_at hl 2 rfl) ?_
    refine rd_V (As := [.int (iZ g)]) (rest := [.ref mo]) (st1 := [.int (iZ (inZ g 0 (k - 1))), .ref mo]) S (k_X1_isThere l D mo na cI cJ c0 k V g (by omega) (by omega)) tb_466 tb_468 ts_X1_isThere tb_2 tb_469 hd_X1_isThere ⟨rfl, rfl, by decide, by decide⟩ rM_bl (rM_mv hP hK) (va_recv hK hP (ci := 1) (q0 := 0) rfl rfl) rfl hl.1 rfl (Nat.le_of_ble_eq_true rfl) dX1_may_11 ⟨Nat.zero_le _, Nat.zero_le _⟩ rfl ?_
    have hi14 := inZ_or g 0 (k - 1)
    refine zi_fne (tgt := 21) hx hb dX1_may_14 (by decide) (by omega) (fun hc14 => ?_) (fun hc14 => ?_)
    · refine lv_aload_n hx hb dX1_may_21 rfl (lv_at hl 0 rfl) ?_
      refine va_get (D := D) (ci := 1) (C := RX1) (T := TX1) (N := 8) hx hb hT inX1 hown hK hP 0 rfl rfl 1 (by decide) (hT _ tb_403) (fun _ h9 => h9) rfl dX1_may_22 ?_
      refine zi_bi hx hb 60 dX1_may_25 (by decide) ?_
      refine zi_cne (tgt := 34) hx hb dX1_may_27 (by decide) (by omega) (by omega) (fun hc27 => ?_) (fun hc27 => ?_)
      · refine zi_const hx hb 0 dX1_may_34 ?_
        exfalso
        omega
      · refine zi_const hx hb 2 dX1_may_30 ?_
        refine lv_goto (tgt := 35) hx hb dX1_may_31 (by decide) ?_
        refine va_put (D := D) (ci := 1) (v := .int (iZ 2)) (ty := .int) (C := RX1) (T := TX1) (N := 8) hx hb hT inX1 tyX1 tyX1_ok nmX1 hown hK hP (dM_D hd hA) hS 0 rfl rfl 0 (by decide) (hT _ tb_402) (fun _ h9 => h9) rfl (by decide +kernel) rfl rfl (Nat.le_of_ble_eq_true rfl) dX1_may_35 (fun H locs hP _ hS => ?_)
        have hP : va_P D vwCl (mX mo na cI cJ 2 k V) H := hP
        refine lv_aload_n hx hb dX1_may_38 rfl (lv_at hl 0 rfl) ?_
        refine va_get (D := D) (ci := 1) (C := RX1) (T := TX1) (N := 8) hx hb hT inX1 hown hK hP 0 rfl rfl 0 (by decide) (hT _ tb_402) (fun _ h9 => h9) rfl dX1_may_39 ?_
        refine zi_fle (tgt := 47) hx hb dX1_may_42 (by decide) (by omega) (fun hc42 => ?_) (fun hc42 => ?_)
        · exfalso
          omega
        · refine zi_const hx hb 0 dX1_may_45 ?_
          exact wm_zret hx hb hr hlk hP rfl rfl rfl hS (congrArg (fun z => some (Value.int (iZ z))) (show (0 : Int) = 0 from rfl)) (by decide) dX1_may_46
    · refine zi_const hx hb 1 dX1_may_17 ?_
      refine lv_goto (tgt := 35) hx hb dX1_may_18 (by decide) ?_
      exfalso
      omega
