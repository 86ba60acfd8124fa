theorem kdZ_or (k : Int) : (kdZ k = 1 ∧ 0 ≤ k ∧ k < 8) ∨ (kdZ k = 0 ∧ ¬ (0 ≤ k ∧ k < 8)) := by unfold kdZ; split <;> omega
theorem pwZ_or (n : Int) : (pwZ n = 1 ∧ -4 ≤ n ∧ n ≤ 4) ∨ (pwZ n = 0 ∧ ¬ (-4 ≤ n ∧ n ≤ 4)) := by unfold pwZ; split <;> omega
theorem wdZ_or (k n : Int) : (wdZ k n = 1 ∧ 0 ≤ k ∧ k < 15 ∧ -8 ≤ n ∧ n ≤ 8) ∨ (wdZ k n = 0 ∧ ¬ (0 ≤ k ∧ k < 15 ∧ -8 ≤ n ∧ n ≤ 8)) := by unfold wdZ; split <;> omega
def nuZ (F : Nat → Int) (r c n : Int) : Int := if 0 ≤ r ∧ r < 60 ∧ 0 ≤ c ∧ c < 8 ∧ -4 ≤ n ∧ n ≤ 4 then F (r * 72 + c * 9 + n + 4).toNat else 0
def wnZ (G : Nat → Int) (c n : Int) : Int := if 0 ≤ c ∧ c < 15 ∧ -8 ≤ n ∧ n ≤ 8 then G (c * 17 + n + 8).toNat else 0
theorem nuZ_rng {F : Nat → Int} (hF : ∀ j, 0 ≤ F j ∧ F j < 32003) (r c n : Int) : 0 ≤ nuZ F r c n ∧ nuZ F r c n < 32003 := by
  unfold nuZ
  split
  · exact hF _
  · omega
theorem wnZ_rng {G : Nat → Int} (hG : ∀ j, 0 ≤ G j ∧ G j < 32003) (c n : Int) : 0 ≤ wnZ G c n ∧ wnZ G c n < 32003 := by
  unfold wnZ
  split
  · exact hG _
  · omega
def plcZ (r c n : Int) : Int := if 0 ≤ r ∧ r < 60 ∧ 0 ≤ c ∧ c < 8 ∧ -4 ≤ n ∧ n ≤ 4 then 1 else 0
theorem plcZ_or (r c n : Int) : (plcZ r c n = 1 ∧ 0 ≤ r ∧ r < 60 ∧ 0 ≤ c ∧ c < 8 ∧ -4 ≤ n ∧ n ≤ 4) ∨ (plcZ r c n = 0 ∧ ¬ (0 ≤ r ∧ r < 60 ∧ 0 ≤ c ∧ c < 8 ∧ -4 ≤ n ∧ n ≤ 4)) := by unfold plcZ; split <;> omega
set_option maxHeartbeats 4000000 in
set_option maxRecDepth 100000 in
theorem k_X0_isPlace (l : Launch) (r c1 n : Int) (hr : -2147483648 ≤ r ∧ r ≤ 2147483647) (hc1 : -2147483648 ≤ c1 ∧ c1 ≤ 2147483647) (hn : -2147483648 ≤ n ∧ n ≤ 2147483647) : rd_M l yX0_isPlace cX0_isPlace 3 (some .boolean) ({ frames := 1, cells := 0, slots := 0, locals := 20 }) [.int (iZ r), .int (iZ c1), .int (iZ n)] (fun _ => True) (some (.int (iZ (plcZ r c1 n)))) := by
  refine rd_of RX0 (by decide) rfl (Nat.le_of_ble_eq_true rfl) ?_
  intro p e s m below meth c S hr hlk hB ls hl
  obtain ⟨hx, hb, hml, hown, hT⟩ := id S
  have hl : lv_has ls 3 [(0, .int (iZ r)), (1, .int (iZ c1)), (2, .int (iZ n))] := hl
  refine lv_iload_n hx hb dX0_isPlace_0 rfl (lv_at hl 0 rfl) ?_
  refine zi_flt (tgt := 28) hx hb dX0_isPlace_1 (by decide) (by omega) (fun hc1 => ?_) (fun hc1 => ?_)
  · refine zi_const hx hb 0 dX0_isPlace_28 ?_
    exact rd_zret hx hb hr hlk (congrArg (fun z => some (Value.int (iZ z))) (show (plcZ r c1 n : Int) = 0 from by unfold plcZ; (first | rw [if_neg (by omega)] | rw [if_pos (by omega)]))) (by decide) dX0_isPlace_29
  · refine lv_iload_n hx hb dX0_isPlace_4 rfl (lv_at hl 0 rfl) ?_
    refine zi_bi hx hb 60 dX0_isPlace_5 (by decide) ?_
    refine zi_cge (tgt := 28) hx hb dX0_isPlace_7 (by decide) (by omega) (by omega) (fun hc7 => ?_) (fun hc7 => ?_)
    · refine zi_const hx hb 0 dX0_isPlace_28 ?_
      exact rd_zret hx hb hr hlk (congrArg (fun z => some (Value.int (iZ z))) (show (plcZ r c1 n : Int) = 0 from by unfold plcZ; (first | rw [if_neg (by omega)] | rw [if_pos (by omega)]))) (by decide) dX0_isPlace_29
    · refine lv_iload_n hx hb dX0_isPlace_10 rfl (lv_at hl 1 rfl) ?_
      refine rd_S (As := [.int (iZ c1)]) (rest := []) (st1 := [.int (iZ (kdZ c1))]) S (k_X0_isKind l c1 (by omega)) tb_45 tb_46 tb_1 tb_47 hd_X0_isKind ⟨rfl, rfl, by decide, by decide⟩ bl_T (fun _ _ _ => trivial) rfl hl.1 rfl (Nat.le_of_ble_eq_true rfl) dX0_isPlace_11 ⟨Nat.zero_le _, Nat.zero_le _⟩ rfl ?_
      have hf14 := kdZ_or c1
      refine zi_feq (tgt := 28) hx hb dX0_isPlace_14 (by decide) (by omega) (fun hc14 => ?_) (fun hc14 => ?_)
      · refine zi_const hx hb 0 dX0_isPlace_28 ?_
        exact rd_zret hx hb hr hlk (congrArg (fun z => some (Value.int (iZ z))) (show (plcZ r c1 n : Int) = 0 from by unfold plcZ; (first | rw [if_neg (by omega)] | rw [if_pos (by omega)]))) (by decide) dX0_isPlace_29
      · refine lv_iload_n hx hb dX0_isPlace_17 rfl (lv_at hl 2 rfl) ?_
        refine rd_S (As := [.int (iZ n)]) (rest := []) (st1 := [.int (iZ (pwZ n))]) S (k_X0_isPower l n (by omega)) tb_119 tb_120 tb_1 tb_121 hd_X0_isPower ⟨rfl, rfl, by decide, by decide⟩ bl_T (fun _ _ _ => trivial) rfl hl.1 rfl (Nat.le_of_ble_eq_true rfl) dX0_isPlace_18 ⟨Nat.zero_le _, Nat.zero_le _⟩ rfl ?_
        have hf21 := pwZ_or n
        refine zi_feq (tgt := 28) hx hb dX0_isPlace_21 (by decide) (by omega) (fun hc21 => ?_) (fun hc21 => ?_)
        · refine zi_const hx hb 0 dX0_isPlace_28 ?_
          exact rd_zret hx hb hr hlk (congrArg (fun z => some (Value.int (iZ z))) (show (plcZ r c1 n : Int) = 0 from by unfold plcZ; (first | rw [if_neg (by omega)] | rw [if_pos (by omega)]))) (by decide) dX0_isPlace_29
        · refine zi_const hx hb 1 dX0_isPlace_24 ?_
          refine lv_goto (tgt := 29) hx hb dX0_isPlace_25 (by decide) ?_
          exact rd_zret hx hb hr hlk (congrArg (fun z => some (Value.int (iZ z))) (show (plcZ r c1 n : Int) = 1 from by unfold plcZ; (first | rw [if_neg (by omega)] | rw [if_pos (by omega)]))) (by decide) dX0_isPlace_29
set_option maxHeartbeats 4000000 in
set_option maxRecDepth 100000 in
theorem k_X0_number (l : Launch) (D : va_G) (o q1 q2 : Nat) (cI : ClassId) (tE tL : Nat) (F G : Nat → Int) (k : Int) (r c1 n : Int) (hr : -2147483648 ≤ r ∧ r ≤ 2147483647) (hc1 : -2147483648 ≤ c1 ∧ c1 ≤ 2147483647) (hn : -2147483648 ≤ n ∧ n ≤ 2147483647) : rd_M l yX0_number cX0_number 4 (some .int) ({ frames := 2, cells := 0, slots := 0, locals := 42 }) [.ref o, .int (iZ r), .int (iZ c1), .int (iZ n)] (rX D o q1 q2 cI tE tL F G k) (some (.int (iZ (nuZ F r c1 n)))) := by
  refine rd_of RX0 (by decide) rfl (Nat.le_of_ble_eq_true rfl) ?_
  intro p e s m below meth c S hr hlk hB ls hl
  obtain ⟨hx, hb, hml, hown, hT⟩ := id S
  have hl : lv_has ls 4 [(0, .ref o), (1, .int (iZ r)), (2, .int (iZ c1)), (3, .int (iZ n))] := hl
  obtain ⟨hP, hK, hsX⟩ := id hB
  obtain ⟨⟨hZE, hTE⟩, hZL, hTL⟩ := id hsX
  refine lv_iload_n hx hb dX0_number_0 rfl (lv_at hl 1 rfl) ?_
  refine lv_iload_n hx hb dX0_number_1 rfl (lv_at hl 2 rfl) ?_
  refine lv_iload_n hx hb dX0_number_2 rfl (lv_at hl 3 rfl) ?_
  refine rd_S (As := [.int (iZ r), .int (iZ c1), .int (iZ n)]) (rest := []) (st1 := [.int (iZ (plcZ r c1 n))]) S (k_X0_isPlace l r c1 n (by omega) (by omega) (by omega)) tb_151 tb_152 tb_1 tb_153 hd_X0_isPlace ⟨rfl, rfl, by decide, by decide⟩ bl_T (fun _ _ _ => trivial) rfl hl.1 rfl (Nat.le_of_ble_eq_true rfl) dX0_number_3 ⟨Nat.zero_le _, Nat.zero_le _⟩ rfl ?_
  have hf6 := plcZ_or r c1 n
  refine zi_feq (tgt := 23) hx hb dX0_number_6 (by decide) (by omega) (fun hc6 => ?_) (fun hc6 => ?_)
  · refine zi_const hx hb 0 dX0_number_23 ?_
    exact rd_iret hx hb hr hlk (congrArg (fun z => some (Value.int (iZ z))) (show (nuZ F r c1 n : Int) = 0 from by unfold nuZ; (first | rw [if_neg (by omega)] | rw [if_pos (by omega)]))) dX0_number_24
  · refine lv_aload_n hx hb dX0_number_9 rfl (lv_at hl 0 rfl) ?_
    refine va_get (D := D) (ci := 0) (C := RX0) (T := TX0) (N := 3) hx hb hT inX0 hown hK hP 0 rfl rfl 0 (by decide) (hT _ tb_18) (fun _ h9 => h9) rfl dX0_number_10 ?_
    refine lv_iload_n hx hb dX0_number_13 rfl (lv_at hl 1 rfl) ?_
    refine lv_iload_n hx hb dX0_number_14 rfl (lv_at hl 2 rfl) ?_
    refine lv_iload_n hx hb dX0_number_15 rfl (lv_at hl 3 rfl) ?_
    refine rd_S (As := [.int (iZ r), .int (iZ c1), .int (iZ n)]) (rest := [.ref q1]) (st1 := [.int (iZ (r * 72 + c1 * 9 + n + 4)), .ref q1]) S (k_X0_place l r c1 n) tb_154 tb_155 tb_1 tb_156 hd_X0_place ⟨rfl, rfl, by decide, by decide⟩ bl_T (fun _ _ _ => trivial) rfl hl.1 rfl (Nat.le_of_ble_eq_true rfl) dX0_number_16 ⟨Nat.zero_le _, Nat.zero_le _⟩ rfl ?_
    refine va_iald hx hb hK hP 1 0 rfl rfl (iZ_in (by omega) (by omega) (by decide)) dX0_number_19 ?_
    refine zi_as (a := F ((r * 72 + c1 * 9 + n + 4).toNat)) (by rw [iZ_cl (by omega) (by omega)]) ?_
    refine lv_goto (tgt := 24) hx hb dX0_number_20 (by decide) ?_
    exact rd_iret hx hb hr hlk (congrArg (fun z => some (Value.int (iZ z))) (show (nuZ F r c1 n : Int) = F (r * 72 + c1 * 9 + n + 4).toNat from by unfold nuZ; (first | rw [if_neg (by omega)] | rw [if_pos (by omega)]))) dX0_number_24
set_option maxHeartbeats 4000000 in
set_option maxRecDepth 100000 in
theorem k_X0_wideNumber (l : Launch) (D : va_G) (o q1 q2 : Nat) (cI : ClassId) (tE tL : Nat) (F G : Nat → Int) (k : Int) (c1 n : Int) (hc1 : -2147483648 ≤ c1 ∧ c1 ≤ 2147483647) (hn : -2147483648 ≤ n ∧ n ≤ 2147483647) : rd_M l yX0_wideNumber cX0_wideNumber 3 (some .int) ({ frames := 1, cells := 0, slots := 0, locals := 21 }) [.ref o, .int (iZ c1), .int (iZ n)] (rX D o q1 q2 cI tE tL F G k) (some (.int (iZ (wnZ G c1 n)))) := by
  refine rd_of RX0 (by decide) rfl (Nat.le_of_ble_eq_true rfl) ?_
  intro p e s m below meth c S hr hlk hB ls hl
  obtain ⟨hx, hb, hml, hown, hT⟩ := id S
  have hl : lv_has ls 3 [(0, .ref o), (1, .int (iZ c1)), (2, .int (iZ n))] := hl
  obtain ⟨hP, hK, hsX⟩ := id hB
  obtain ⟨⟨hZE, hTE⟩, hZL, hTL⟩ := id hsX
  refine lv_iload_n hx hb dX0_wideNumber_0 rfl (lv_at hl 1 rfl) ?_
  refine lv_iload_n hx hb dX0_wideNumber_1 rfl (lv_at hl 2 rfl) ?_
  refine rd_S (As := [.int (iZ c1), .int (iZ n)]) (rest := []) (st1 := [.int (iZ (wdZ c1 n))]) S (k_X0_isWidePlace l c1 n (by omega) (by omega)) tb_253 tb_254 tb_1 tb_255 hd_X0_isWidePlace ⟨rfl, rfl, by decide, by decide⟩ bl_T (fun _ _ _ => trivial) rfl hl.1 rfl (Nat.le_of_ble_eq_true rfl) dX0_wideNumber_2 ⟨Nat.zero_le _, Nat.zero_le _⟩ rfl ?_
  have hf5 := wdZ_or c1 n
  refine zi_feq (tgt := 21) hx hb dX0_wideNumber_5 (by decide) (by omega) (fun hc5 => ?_) (fun hc5 => ?_)
  · refine zi_const hx hb 0 dX0_wideNumber_21 ?_
    exact rd_iret hx hb hr hlk (congrArg (fun z => some (Value.int (iZ z))) (show (wnZ G c1 n : Int) = 0 from by unfold wnZ; (first | rw [if_neg (by omega)] | rw [if_pos (by omega)]))) dX0_wideNumber_22
  · refine lv_aload_n hx hb dX0_wideNumber_8 rfl (lv_at hl 0 rfl) ?_
    refine va_get (D := D) (ci := 0) (C := RX0) (T := TX0) (N := 3) hx hb hT inX0 hown hK hP 0 rfl rfl 1 (by decide) (hT _ tb_19) (fun _ h9 => h9) rfl dX0_wideNumber_9 ?_
    refine lv_iload_n hx hb dX0_wideNumber_12 rfl (lv_at hl 1 rfl) ?_
    refine lv_iload_n hx hb dX0_wideNumber_13 rfl (lv_at hl 2 rfl) ?_
    refine rd_S (As := [.int (iZ c1), .int (iZ n)]) (rest := [.ref q2]) (st1 := [.int (iZ (c1 * 17 + n + 8)), .ref q2]) S (k_X0_widePlace l c1 n) tb_256 tb_257 tb_1 tb_258 hd_X0_widePlace ⟨rfl, rfl, by decide, by decide⟩ bl_T (fun _ _ _ => trivial) rfl hl.1 rfl (Nat.le_of_ble_eq_true rfl) dX0_wideNumber_14 ⟨Nat.zero_le _, Nat.zero_le _⟩ rfl ?_
    refine va_iald hx hb hK hP 2 0 rfl rfl (iZ_in (by omega) (by omega) (by decide)) dX0_wideNumber_17 ?_
    refine zi_as (a := G ((c1 * 17 + n + 8).toNat)) (by rw [iZ_cl (by omega) (by omega)]) ?_
    refine lv_goto (tgt := 22) hx hb dX0_wideNumber_18 (by decide) ?_
    exact rd_iret hx hb hr hlk (congrArg (fun z => some (Value.int (iZ z))) (show (wnZ G c1 n : Int) = G (c1 * 17 + n + 8).toNat from by unfold wnZ; (first | rw [if_neg (by omega)] | rw [if_pos (by omega)]))) dX0_wideNumber_22
set_option maxHeartbeats 4000000 in
set_option maxRecDepth 100000 in
theorem k_X0_needElement (l : Launch) (D : va_G) (o q1 q2 : Nat) (cI : ClassId) (tE tL : Nat) (F G : Nat → Int) (k : Int) (f : Int) (hf : 0 ≤ f ∧ f < k ∧ k ≤ 60) : rd_M l yX0_needElement cX0_needElement 2 none ({ frames := 0, cells := 0, slots := 0, locals := 0 }) [.ref o, .int (iZ f)] (rX D o q1 q2 cI tE tL F G k) none := by
  refine rd_of RX0 (by decide) rfl (Nat.le_of_ble_eq_true rfl) ?_
  intro p e s m below meth c S hr hlk hB ls hl
  obtain ⟨hx, hb, hml, hown, hT⟩ := id S
  have hl : lv_has ls 2 [(0, .ref o), (1, .int (iZ f))] := hl
  obtain ⟨hP, hK, hsX⟩ := id hB
  obtain ⟨⟨hZE, hTE⟩, hZL, hTL⟩ := id hsX
  refine lv_iload_n hx hb dX0_needElement_0 rfl (lv_at hl 1 rfl) ?_
  refine zi_flt (tgt := 12) hx hb dX0_needElement_1 (by decide) (by omega) (fun hc1 => ?_) (fun hc1 => ?_)
  · exfalso
    omega
  · refine lv_iload_n hx hb dX0_needElement_4 rfl (lv_at hl 1 rfl) ?_
    refine lv_aload_n hx hb dX0_needElement_5 rfl (lv_at hl 0 rfl) ?_
    refine va_get (D := D) (ci := 0) (C := RX0) (T := TX0) (N := 3) hx hb hT inX0 hown hK hP 0 rfl rfl 2 (by decide) (hT _ tb_20) (fun _ h9 => h9) rfl dX0_needElement_6 ?_
    refine zi_clt (tgt := 22) hx hb dX0_needElement_9 (by decide) (by omega) (by omega) (fun hc9 => ?_) (fun hc9 => ?_)
    · exact rd_vret hx hb hr hlk rfl dX0_needElement_22
    · exfalso
      omega
set_option maxHeartbeats 4000000 in
set_option maxRecDepth 100000 in
theorem k_X0_needRoom (l : Launch) (D : va_G) (o q1 q2 : Nat) (cI : ClassId) (tE tL : Nat) (F G : Nat → Int) (k : Int)  (hk : 0 ≤ k ∧ k < 60) : rd_M l yX0_needRoom cX0_needRoom 1 none ({ frames := 0, cells := 0, slots := 0, locals := 0 }) [.ref o] (rX D o q1 q2 cI tE tL F G k) none := by
  refine rd_of RX0 (by decide) rfl (Nat.le_of_ble_eq_true rfl) ?_
  intro p e s m below meth c S hr hlk hB ls hl
  obtain ⟨hx, hb, hml, hown, hT⟩ := id S
  have hl : lv_has ls 1 [(0, .ref o)] := hl
  obtain ⟨hP, hK, hsX⟩ := id hB
  obtain ⟨⟨hZE, hTE⟩, hZL, hTL⟩ := id hsX
  refine lv_aload_n hx hb dX0_needRoom_0 rfl (lv_at hl 0 rfl) ?_
  refine va_get (D := D) (ci := 0) (C := RX0) (T := TX0) (N := 3) hx hb hT inX0 hown hK hP 0 rfl rfl 2 (by decide) (hT _ tb_20) (fun _ h9 => h9) rfl dX0_needRoom_1 ?_
  refine zi_bi hx hb 60 dX0_needRoom_4 (by decide) ?_
  refine zi_clt (tgt := 19) hx hb dX0_needRoom_6 (by decide) (by omega) (by omega) (fun hc6 => ?_) (fun hc6 => ?_)
  · exact rd_vret hx hb hr hlk rfl dX0_needRoom_19
  · exfalso
    omega
set_option maxHeartbeats 4000000 in
set_option maxRecDepth 100000 in
theorem k_X0_needKind (l : Launch) (k : Int) (h0 : 0 ≤ k ∧ k < 8) : rd_M l yX0_needKind cX0_needKind 1 none ({ frames := 1, cells := 0, slots := 0, locals := 20 }) [.int (iZ k)] (fun _ => True) none := by
  refine rd_of RX0 (by decide) rfl (Nat.le_of_ble_eq_true rfl) ?_
  intro p e s m below meth c S hr hlk hB ls hl
  obtain ⟨hx, hb, hml, hown, hT⟩ := id S
  have hl : lv_has ls 1 [(0, .int (iZ k))] := hl
  refine lv_iload_n hx hb dX0_needKind_0 rfl (lv_at hl 0 rfl) ?_
  refine rd_S (As := [.int (iZ k)]) (rest := []) (st1 := [.int (iZ (kdZ k))]) S (k_X0_isKind l k (by omega)) tb_45 tb_46 tb_1 tb_47 hd_X0_isKind ⟨rfl, rfl, by decide, by decide⟩ bl_T (fun _ _ _ => trivial) rfl hl.1 rfl (Nat.le_of_ble_eq_true rfl) dX0_needKind_1 ⟨Nat.zero_le _, Nat.zero_le _⟩ rfl ?_
  have hf4 := kdZ_or k
  refine zi_fne (tgt := 17) hx hb dX0_needKind_4 (by decide) (by omega) (fun hc4 => ?_) (fun hc4 => ?_)
  · exact rd_vret hx hb hr hlk rfl dX0_needKind_17
  · exfalso
    omega
set_option maxHeartbeats 4000000 in
set_option maxRecDepth 100000 in
theorem k_X0_needPower (l : Launch) (n : Int) (h0 : -4 ≤ n ∧ n ≤ 4) : rd_M l yX0_needPower cX0_needPower 1 none ({ frames := 1, cells := 0, slots := 0, locals := 20 }) [.int (iZ n)] (fun _ => True) none := by
  refine rd_of RX0 (by decide) rfl (Nat.le_of_ble_eq_true rfl) ?_
  intro p e s m below meth c S hr hlk hB ls hl
  obtain ⟨hx, hb, hml, hown, hT⟩ := id S
  have hl : lv_has ls 1 [(0, .int (iZ n))] := hl
  refine lv_iload_n hx hb dX0_needPower_0 rfl (lv_at hl 0 rfl) ?_
  refine rd_S (As := [.int (iZ n)]) (rest := []) (st1 := [.int (iZ (pwZ n))]) S (k_X0_isPower l n (by omega)) tb_119 tb_120 tb_1 tb_121 hd_X0_isPower ⟨rfl, rfl, by decide, by decide⟩ bl_T (fun _ _ _ => trivial) rfl hl.1 rfl (Nat.le_of_ble_eq_true rfl) dX0_needPower_1 ⟨Nat.zero_le _, Nat.zero_le _⟩ rfl ?_
  have hf4 := pwZ_or n
  refine zi_fne (tgt := 17) hx hb dX0_needPower_4 (by decide) (by omega) (fun hc4 => ?_) (fun hc4 => ?_)
  · exact rd_vret hx hb hr hlk rfl dX0_needPower_17
  · exfalso
    omega
set_option maxHeartbeats 4000000 in
set_option maxRecDepth 100000 in
theorem k_X0_count (l : Launch) (D : va_G) (o q1 q2 : Nat) (cI : ClassId) (tE tL : Nat) (F G : Nat → Int) (k : Int)  : rd_M l yX0_count cX0_count 1 (some .int) ({ frames := 0, cells := 0, slots := 0, locals := 0 }) [.ref o] (rX D o q1 q2 cI tE tL F G k) (some (.int (iZ k))) := by
  refine rd_of RX0 (by decide) rfl (Nat.le_of_ble_eq_true rfl) ?_
  intro p e s m below meth c S hr hlk hB ls hl
  obtain ⟨hx, hb, hml, hown, hT⟩ := id S
  have hl : lv_has ls 1 [(0, .ref o)] := hl
  obtain ⟨hP, hK, hsX⟩ := id hB
  obtain ⟨⟨hZE, hTE⟩, hZL, hTL⟩ := id hsX
  refine lv_aload_n hx hb dX0_count_0 rfl (lv_at hl 0 rfl) ?_
  refine va_get (D := D) (ci := 0) (C := RX0) (T := TX0) (N := 3) hx hb hT inX0 hown hK hP 0 rfl rfl 2 (by decide) (hT _ tb_20) (fun _ h9 => h9) rfl dX0_count_1 ?_
  exact rd_iret hx hb hr hlk (congrArg (fun z => some (Value.int (iZ z))) (show (k : Int) = k from rfl)) dX0_count_4
