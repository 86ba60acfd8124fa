set_option maxHeartbeats 4000000 in
set_option maxRecDepth 100000 in
theorem k_X0_at (l : Launch) (D : va_G) (o q1 q2 : Nat) (cI : ClassId) (tE tL : Nat) (F G : Nat → Int) (k : Int) (f c1 n : Int) (hF : ∀ j, 0 ≤ F j ∧ F j < 32003) (hf : 0 ≤ f ∧ f < k ∧ k ≤ 60) (hc1 : 0 ≤ c1 ∧ c1 < 8) (hn : -4 ≤ n ∧ n ≤ 4) : rd_M l yX0_at cX0_at 4 (some .int) ({ frames := 3, cells := 0, slots := 0, locals := 65 }) [.ref o, .int (iZ f), .int (iZ c1), .int (iZ n)] (rX D o q1 q2 cI tE tL F G k) (some (.int (iZ (nuZ F f c1 n)))) := by
  refine rd_of RX0 (by decide) rfl (Nat.le_of_ble_eq_true rfl) ?_
  intro p e s m below meth c S hr hlk hB ls hl
  obtain ⟨hx, hb, hml, hown, hT⟩ := id S
  have hl : lv_has ls 4 [(0, .ref o), (1, .int (iZ f)), (2, .int (iZ c1)), (3, .int (iZ n))] := hl
  obtain ⟨hP, hK, hsX⟩ := id hB
  obtain ⟨⟨hZE, hTE⟩, hZL, hTL⟩ := id hsX
  refine lv_aload_n hx hb dX0_at_0 rfl (lv_at hl 0 rfl) ?_
  refine lv_iload_n hx hb dX0_at_1 rfl (lv_at hl 1 rfl) ?_
  refine rd_V (As := [.int (iZ f)]) (rest := []) (st1 := []) S (k_X0_needElement l D o q1 q2 cI tE tL F G k f (by omega)) tb_173 tb_175 ts_X0_needElement tb_1 tb_176 hd_X0_needElement ⟨rfl, rfl, by decide, by decide⟩ rX_bl (rX_mv hB) (rX_recv hB) rfl hl.1 rfl (Nat.le_of_ble_eq_true rfl) dX0_at_2 ⟨Nat.zero_le _, Nat.zero_le _⟩ rfl ?_
  refine lv_iload_n hx hb dX0_at_5 rfl (lv_at hl 2 rfl) ?_
  refine rd_S (As := [.int (iZ c1)]) (rest := []) (st1 := []) S (k_X0_needKind l c1 (by omega)) tb_42 tb_43 tb_1 tb_44 hd_X0_needKind ⟨rfl, rfl, by decide, by decide⟩ bl_T (fun _ _ _ => trivial) rfl hl.1 rfl (Nat.le_of_ble_eq_true rfl) dX0_at_6 ⟨Nat.zero_le _, Nat.zero_le _⟩ rfl ?_
  refine lv_iload_n hx hb dX0_at_9 rfl (lv_at hl 3 rfl) ?_
  refine rd_S (As := [.int (iZ n)]) (rest := []) (st1 := []) S (k_X0_needPower l n (by omega)) tb_116 tb_117 tb_1 tb_118 hd_X0_needPower ⟨rfl, rfl, by decide, by decide⟩ bl_T (fun _ _ _ => trivial) rfl hl.1 rfl (Nat.le_of_ble_eq_true rfl) dX0_at_10 ⟨Nat.zero_le _, Nat.zero_le _⟩ rfl ?_
  refine lv_aload_n hx hb dX0_at_13 rfl (lv_at hl 0 rfl) ?_
  refine lv_iload_n hx hb dX0_at_14 rfl (lv_at hl 1 rfl) ?_
  refine lv_iload_n hx hb dX0_at_15 rfl (lv_at hl 2 rfl) ?_
  refine lv_iload_n hx hb dX0_at_16 rfl (lv_at hl 3 rfl) ?_
  refine rd_V (As := [.int (iZ f), .int (iZ c1), .int (iZ n)]) (rest := []) (st1 := [.int (iZ (nuZ F f c1 n))]) S (k_X0_number l D o q1 q2 cI tE tL F G k f c1 n (by omega) (by omega) (by omega)) tb_197 tb_199 ts_X0_number tb_1 tb_200 hd_X0_number ⟨rfl, rfl, by decide, by decide⟩ rX_bl (rX_mv hB) (rX_recv hB) rfl hl.1 rfl (Nat.le_of_ble_eq_true rfl) dX0_at_17 ⟨Nat.zero_le _, Nat.zero_le _⟩ rfl ?_
  have hn20 := nuZ_rng hF f c1 n
  exact rd_iret hx hb hr hlk (congrArg (fun z => some (Value.int (iZ z))) (show (nuZ F f c1 n : Int) = nuZ F f c1 n from rfl)) dX0_at_20
def tmZ (F : Nat → Int) (f c : Int) : Int := if c = -1 then cnZ F (f * 72).toNat 72 else cnZ F (f * 72 + c * 9).toNat 9
set_option maxHeartbeats 4000000 in
set_option maxRecDepth 100000 in
theorem k_X0_terms (l : Launch) (D : va_G) (o q1 q2 : Nat) (cI : ClassId) (tE tL : Nat) (F G : Nat → Int) (k : Int) (f c1 : Int) (hF : ∀ j, 0 ≤ F j ∧ F j < 32003) (hf : 0 ≤ f ∧ f < k ∧ k ≤ 60) (hc1 : -1 ≤ c1 ∧ c1 < 8) : rd_M l yX0_terms cX0_terms 3 (some .int) ({ frames := 4, cells := 0, slots := 0, locals := 91 }) [.ref o, .int (iZ f), .int (iZ c1)] (rX D o q1 q2 cI tE tL F G k) (some (.int (iZ (tmZ F f c1)))) := by
  refine rd_of RX0 (by decide) rfl (Nat.le_of_ble_eq_true rfl) ?_
  intro p e s m below meth c S hr hlk hB ls hl
  obtain ⟨hx, hb, hml, hown, hT⟩ := id S
  have hl : lv_has ls 3 [(0, .ref o), (1, .int (iZ f)), (2, .int (iZ c1))] := hl
  obtain ⟨hP, hK, hsX⟩ := id hB
  obtain ⟨⟨hZE, hTE⟩, hZL, hTL⟩ := id hsX
  refine lv_aload_n hx hb dX0_terms_0 rfl (lv_at hl 0 rfl) ?_
  refine lv_iload_n hx hb dX0_terms_1 rfl (lv_at hl 1 rfl) ?_
  refine rd_V (As := [.int (iZ f)]) (rest := []) (st1 := []) S (k_X0_needElement l D o q1 q2 cI tE tL F G k f (by omega)) tb_173 tb_175 ts_X0_needElement tb_1 tb_176 hd_X0_needElement ⟨rfl, rfl, by decide, by decide⟩ rX_bl (rX_mv hB) (rX_recv hB) rfl hl.1 rfl (Nat.le_of_ble_eq_true rfl) dX0_terms_2 ⟨Nat.zero_le _, Nat.zero_le _⟩ rfl ?_
  refine lv_iload_n hx hb dX0_terms_5 rfl (lv_at hl 2 rfl) ?_
  refine zi_const hx hb (-1) dX0_terms_6 ?_
  refine zi_cne (tgt := 19) hx hb dX0_terms_7 (by decide) (by omega) (by omega) (fun hc7 => ?_) (fun hc7 => ?_)
  · refine lv_iload_n hx hb dX0_terms_19 rfl (lv_at hl 2 rfl) ?_
    refine rd_S (As := [.int (iZ c1)]) (rest := []) (st1 := []) S (k_X0_needKind l c1 (by omega)) tb_42 tb_43 tb_1 tb_44 hd_X0_needKind ⟨rfl, rfl, by decide, by decide⟩ bl_T (fun _ _ _ => trivial) rfl hl.1 rfl (Nat.le_of_ble_eq_true rfl) dX0_terms_20 ⟨Nat.zero_le _, Nat.zero_le _⟩ rfl ?_
    refine lv_aload_n hx hb dX0_terms_23 rfl (lv_at hl 0 rfl) ?_
    refine lv_iload_n hx hb dX0_terms_24 rfl (lv_at hl 1 rfl) ?_
    refine lv_iload_n hx hb dX0_terms_25 rfl (lv_at hl 2 rfl) ?_
    refine lv_iload_n hx hb dX0_terms_26 rfl (lv_at hl 2 rfl) ?_
    refine rd_V (As := [.int (iZ f), .int (iZ c1), .int (iZ c1)]) (rest := []) (st1 := [.int (iZ (cnZ F (f * 72 + c1 * 9).toNat (Int.toNat ((c1 - c1 + 1) * 9))))]) S (k_X0_countTerms l D o q1 q2 cI tE tL F G k f c1 c1 hF (by omega) (by omega)) tb_219 tb_221 ts_X0_countTerms tb_1 tb_222 hd_X0_countTerms ⟨rfl, rfl, by decide, by decide⟩ rX_bl (rX_mv hB) (rX_recv hB) rfl hl.1 rfl (Nat.le_of_ble_eq_true rfl) dX0_terms_27 ⟨Nat.zero_le _, Nat.zero_le _⟩ rfl ?_
    have hct30 := cnZ_rng F (f * 72 + c1 * 9).toNat (Int.toNat ((c1 - c1 + 1) * 9))
    exact rd_iret hx hb hr hlk (congrArg (fun z => some (Value.int (iZ z))) (show (tmZ F f c1 : Int) = cnZ F (f * 72 + c1 * 9).toNat (Int.toNat ((c1 - c1 + 1) * 9)) from by unfold tmZ; rw [if_neg (by omega), show (c1 - c1 + 1) * 9 = 9 by omega]; rfl)) dX0_terms_30
  · refine lv_aload_n hx hb dX0_terms_10 rfl (lv_at hl 0 rfl) ?_
    refine lv_iload_n hx hb dX0_terms_11 rfl (lv_at hl 1 rfl) ?_
    refine zi_const hx hb 0 dX0_terms_12 ?_
    refine zi_bi hx hb 7 dX0_terms_13 (by decide) ?_
    refine rd_V (As := [.int (iZ f), .int (iZ 0), .int (iZ 7)]) (rest := []) (st1 := [.int (iZ (cnZ F (f * 72 + 0 * 9).toNat (Int.toNat ((7 - 0 + 1) * 9))))]) S (k_X0_countTerms l D o q1 q2 cI tE tL F G k f 0 7 hF (by omega) (by omega)) tb_219 tb_221 ts_X0_countTerms tb_1 tb_222 hd_X0_countTerms ⟨rfl, rfl, by decide, by decide⟩ rX_bl (rX_mv hB) (rX_recv hB) rfl hl.1 rfl (Nat.le_of_ble_eq_true rfl) dX0_terms_15 ⟨Nat.zero_le _, Nat.zero_le _⟩ rfl ?_
    have hct18 := cnZ_rng F (f * 72 + 0 * 9).toNat (Int.toNat ((7 - 0 + 1) * 9))
    exact rd_iret hx hb hr hlk (congrArg (fun z => some (Value.int (iZ z))) (show (tmZ F f c1 : Int) = cnZ F (f * 72 + 0 * 9).toNat (Int.toNat ((7 - 0 + 1) * 9)) from by unfold tmZ; rw [if_pos (by omega), show f * 72 + 0 * 9 = f * 72 by omega]; rfl)) dX0_terms_18
def dgZ (F : Nat → Int) (f c : Int) : Nat → Int
  | 0 => -5
  | m + 1 => if nuZ F f c ((m : Int) - 4) = 0 then dgZ F f c m else (m : Int) - 4
theorem dg_at {F : Nat → Int} {f c n : Int} (h : -4 ≤ n) : dgZ F f c (n + 5).toNat = if nuZ F f c n = 0 then dgZ F f c (n + 4).toNat else n := by
  rw [show (n + 5).toNat = (n + 4).toNat + 1 by omega]
  unfold dgZ
  rw [show (((n + 4).toNat : Nat) : Int) - 4 = n by omega]
  cases h9 : (n + 4).toNat with
  | zero => rfl
  | succ q => rfl
set_option maxHeartbeats 4000000 in
set_option maxRecDepth 100000 in
theorem k_X0_degree (l : Launch) (D : va_G) (o q1 q2 : Nat) (cI : ClassId) (tE tL : Nat) (F G : Nat → Int) (k : Int) (f c1 : Int) (hF : ∀ j, 0 ≤ F j ∧ F j < 32003) (hf : 0 ≤ f ∧ f < k ∧ k ≤ 60) (hc1 : 0 ≤ c1 ∧ c1 < 8) : rd_M l yX0_degree cX0_degree 4 (some .int) ({ frames := 3, cells := 0, slots := 0, locals := 65 }) [.ref o, .int (iZ f), .int (iZ c1)] (rX D o q1 q2 cI tE tL F G k) (some (.int (iZ (dgZ F f c1 9)))) := by
  refine rd_of RX0 (by decide) rfl (Nat.le_of_ble_eq_true rfl) ?_
  intro p e s m below meth c S hr hlk hB ls hl
  obtain ⟨hx, hb, hml, hown, hT⟩ := id S
  have hl : lv_has ls 4 [(0, .ref o), (1, .int (iZ f)), (2, .int (iZ c1))] := hl
  obtain ⟨hP, hK, hsX⟩ := id hB
  obtain ⟨⟨hZE, hTE⟩, hZL, hTL⟩ := id hsX
  refine lv_aload_n hx hb dX0_degree_0 rfl (lv_at hl 0 rfl) ?_
  refine lv_iload_n hx hb dX0_degree_1 rfl (lv_at hl 1 rfl) ?_
  refine rd_V (As := [.int (iZ f)]) (rest := []) (st1 := []) S (k_X0_needElement l D o q1 q2 cI tE tL F G k f (by omega)) tb_173 tb_175 ts_X0_needElement tb_1 tb_176 hd_X0_needElement ⟨rfl, rfl, by decide, by decide⟩ rX_bl (rX_mv hB) (rX_recv hB) rfl hl.1 rfl (Nat.le_of_ble_eq_true rfl) dX0_degree_2 ⟨Nat.zero_le _, Nat.zero_le _⟩ rfl ?_
  refine lv_iload_n hx hb dX0_degree_5 rfl (lv_at hl 2 rfl) ?_
  refine rd_S (As := [.int (iZ c1)]) (rest := []) (st1 := []) S (k_X0_needKind l c1 (by omega)) tb_42 tb_43 tb_1 tb_44 hd_X0_needKind ⟨rfl, rfl, by decide, by decide⟩ bl_T (fun _ _ _ => trivial) rfl hl.1 rfl (Nat.le_of_ble_eq_true rfl) dX0_degree_6 ⟨Nat.zero_le _, Nat.zero_le _⟩ rfl ?_
  refine zi_const hx hb 4 dX0_degree_9 ?_
  refine lv_istore_n (lv' := [(3, .int (iZ 4)), (0, .ref o), (1, .int (iZ f)), (2, .int (iZ c1))]) hx hb dX0_degree_10 rfl hl (by decide) rfl (fun ls hl => ?_)
  refine lp_go (nL := 4) (α := Int) (fun z => [(0, .ref o), (1, .int (iZ f)), (2, .int (iZ c1)), (3, .int (iZ z))]) (fun m11 z => z ≤ 4 ∧ z + 5 = (m11 : Int) ∧ dgZ F f c1 9 = dgZ F f c1 (z + 5).toNat) ?_ 9 ((4 : Int)) (by (try dsimp only); exact ⟨by omega, by omega, rfl⟩) ls (lv_sub hl [1, 2, 3, 0] rfl)
  intro m11 z1 hI11 ih11 ls hl
  obtain ⟨n, rfl⟩ : ∃ y : Int, y = z1 := ⟨_, rfl⟩
  have hl : lv_has ls 4 [(0, .ref o), (1, .int (iZ f)), (2, .int (iZ c1)), (3, .int (iZ n))] := hl
  have hI11 : n ≤ 4 ∧ n + 5 = (m11 : Int) ∧ dgZ F f c1 9 = dgZ F f c1 (n + 5).toNat := hI11
  refine lv_iload_n hx hb dX0_degree_11 rfl (lv_at hl 3 rfl) ?_
  refine zi_bi hx hb (-4) dX0_degree_12 (by decide) ?_
  refine zi_clt (tgt := 35) hx hb dX0_degree_14 (by decide) (by omega) (by omega) (fun hc14 => ?_) (fun hc14 => ?_)
  · refine zi_bi hx hb (-5) dX0_degree_35 (by decide) ?_
    exact rd_iret hx hb hr hlk (congrArg (fun z => some (Value.int (iZ z))) (show (dgZ F f c1 9 : Int) = (-5) from by rw [hI11.2.2, show (n + 5).toNat = 0 by omega]; rfl)) dX0_degree_37
  · refine lv_aload_n hx hb dX0_degree_17 rfl (lv_at hl 0 rfl) ?_
    refine lv_iload_n hx hb dX0_degree_18 rfl (lv_at hl 1 rfl) ?_
    refine lv_iload_n hx hb dX0_degree_19 rfl (lv_at hl 2 rfl) ?_
    refine lv_iload_n hx hb dX0_degree_20 rfl (lv_at hl 3 rfl) ?_
    refine rd_V (As := [.int (iZ f), .int (iZ c1), .int (iZ n)]) (rest := []) (st1 := [.int (iZ (nuZ F f c1 n))]) S (k_X0_number l D o q1 q2 cI tE tL F G k f c1 n (by omega) (by omega) (by omega)) tb_197 tb_199 ts_X0_number tb_1 tb_200 hd_X0_number ⟨rfl, rfl, by decide, by decide⟩ rX_bl (rX_mv hB) (rX_recv hB) rfl hl.1 rfl (Nat.le_of_ble_eq_true rfl) dX0_degree_21 ⟨Nat.zero_le _, Nat.zero_le _⟩ rfl ?_
    have hn24 := nuZ_rng hF f c1 n
    refine zi_feq (tgt := 29) hx hb dX0_degree_24 (by decide) (by omega) (fun hc24 => ?_) (fun hc24 => ?_)
    · refine zi_inc (lv' := [(3, .int (iZ (n + (-1)))), (0, .ref o), (1, .int (iZ f)), (2, .int (iZ c1))]) hx hb dX0_degree_29 hl (k := 3) rfl (by decide) rfl (fun ls hl => ?_)
      refine lv_goto (tgt := 11) hx hb dX0_degree_32 (by decide) ?_
      exact ih11 (m11 - 1) (n + (-1)) (by omega) (by (try dsimp only); refine ⟨by omega, by omega, ?_⟩; rw [hI11.2.2, dg_at (by omega), if_pos (by omega)]; exact congrArg _ (by omega)) ls (lv_sub hl [1, 2, 3, 0] rfl)
    · refine lv_iload_n hx hb dX0_degree_27 rfl (lv_at hl 3 rfl) ?_
      exact rd_iret hx hb hr hlk (congrArg (fun z => some (Value.int (iZ z))) (show (dgZ F f c1 9 : Int) = n from by rw [hI11.2.2, dg_at (by omega), if_neg (by omega)])) dX0_degree_28
set_option maxHeartbeats 4000000 in
set_option maxRecDepth 100000 in
theorem k_X0_rest (l : Launch) (D : va_G) (o q1 q2 : Nat) (cI : ClassId) (tE tL : Nat) (F G : Nat → Int) (k : Int) (f c1 : Int) (hF : ∀ j, 0 ≤ F j ∧ F j < 32003) (hf : 0 ≤ f ∧ f < k ∧ k ≤ 60) (hc1 : 0 ≤ c1 ∧ c1 < 8) : rd_M l yX0_rest cX0_rest 3 (some .int) ({ frames := 5, cells := 0, slots := 0, locals := 113 }) [.ref o, .int (iZ f), .int (iZ c1)] (rX D o q1 q2 cI tE tL F G k) (some (.int (iZ (rsZ F f c1)))) := by
  refine rd_of RX0 (by decide) rfl (Nat.le_of_ble_eq_true rfl) ?_
  intro p e s m below meth c S hr hlk hB ls hl
  obtain ⟨hx, hb, hml, hown, hT⟩ := id S
  have hl : lv_has ls 3 [(0, .ref o), (1, .int (iZ f)), (2, .int (iZ c1))] := hl
  obtain ⟨hP, hK, hsX⟩ := id hB
  obtain ⟨⟨hZE, hTE⟩, hZL, hTL⟩ := id hsX
  refine lv_aload_n hx hb dX0_rest_0 rfl (lv_at hl 0 rfl) ?_
  refine lv_iload_n hx hb dX0_rest_1 rfl (lv_at hl 1 rfl) ?_
  refine rd_V (As := [.int (iZ f)]) (rest := []) (st1 := []) S (k_X0_needElement l D o q1 q2 cI tE tL F G k f (by omega)) tb_173 tb_175 ts_X0_needElement tb_1 tb_176 hd_X0_needElement ⟨rfl, rfl, by decide, by decide⟩ rX_bl (rX_mv hB) (rX_recv hB) rfl hl.1 rfl (Nat.le_of_ble_eq_true rfl) dX0_rest_2 ⟨Nat.zero_le _, Nat.zero_le _⟩ rfl ?_
  refine lv_iload_n hx hb dX0_rest_5 rfl (lv_at hl 2 rfl) ?_
  refine rd_S (As := [.int (iZ c1)]) (rest := []) (st1 := []) S (k_X0_needKind l c1 (by omega)) tb_42 tb_43 tb_1 tb_44 hd_X0_needKind ⟨rfl, rfl, by decide, by decide⟩ bl_T (fun _ _ _ => trivial) rfl hl.1 rfl (Nat.le_of_ble_eq_true rfl) dX0_rest_6 ⟨Nat.zero_le _, Nat.zero_le _⟩ rfl ?_
  refine lv_aload_n hx hb dX0_rest_9 rfl (lv_at hl 0 rfl) ?_
  refine lv_iload_n hx hb dX0_rest_10 rfl (lv_at hl 1 rfl) ?_
  refine lv_iload_n hx hb dX0_rest_11 rfl (lv_at hl 2 rfl) ?_
  refine rd_V (As := [.int (iZ f), .int (iZ c1)]) (rest := []) (st1 := [.int (iZ (rsZ F f c1))]) S (k_X0_restOf l D o q1 q2 cI tE tL F G k f c1 hF (by omega) (by omega)) tb_306 tb_308 ts_X0_restOf tb_1 tb_309 hd_X0_restOf ⟨rfl, rfl, by decide, by decide⟩ rX_bl (rX_mv hB) (rX_recv hB) rfl hl.1 rfl (Nat.le_of_ble_eq_true rfl) dX0_rest_12 ⟨Nat.zero_le _, Nat.zero_le _⟩ rfl ?_
  have hrs15 := rsZ_rng F f c1
  exact rd_iret hx hb hr hlk (congrArg (fun z => some (Value.int (iZ z))) (show (rsZ F f c1 : Int) = rsZ F f c1 from rfl)) dX0_rest_15
def smZ (F : Nat → Int) (f g : Int) : Int := if ∀ j : Nat, j < 72 → F ((f * 72).toNat + j) = F ((g * 72).toNat + j) then 1 else 0
theorem nu_lin {F : Nat → Int} {f c n : Int} (hf : 0 ≤ f ∧ f < 60) (hc : 0 ≤ c ∧ c < 8) (hn : -4 ≤ n ∧ n ≤ 4) : nuZ F f c n = F ((f * 72).toNat + (c * 9 + n + 4).toNat) := by
  unfold nuZ
  rw [if_pos (by omega), show (f * 72 + c * 9 + n + 4).toNat = (f * 72).toNat + (c * 9 + n + 4).toNat by omega]
set_option maxHeartbeats 4000000 in
set_option maxRecDepth 100000 in
theorem k_X0_same (l : Launch) (D : va_G) (o q1 q2 : Nat) (cI : ClassId) (tE tL : Nat) (F G : Nat → Int) (k : Int) (f g : Int) (hF : ∀ j, 0 ≤ F j ∧ F j < 32003) (hf : 0 ≤ f ∧ f < k ∧ k ≤ 60) (hg : 0 ≤ g ∧ g < k) : rd_M l yX0_same cX0_same 5 (some .boolean) ({ frames := 3, cells := 0, slots := 0, locals := 65 }) [.ref o, .int (iZ f), .int (iZ g)] (rX D o q1 q2 cI tE tL F G k) (some (.int (iZ (smZ F f g)))) := by
  refine rd_of RX0 (by decide) rfl (Nat.le_of_ble_eq_true rfl) ?_
  intro p e s m below meth c S hr hlk hB ls hl
  obtain ⟨hx, hb, hml, hown, hT⟩ := id S
  have hl : lv_has ls 5 [(0, .ref o), (1, .int (iZ f)), (2, .int (iZ g))] := hl
  obtain ⟨hP, hK, hsX⟩ := id hB
  obtain ⟨⟨hZE, hTE⟩, hZL, hTL⟩ := id hsX
  refine lv_aload_n hx hb dX0_same_0 rfl (lv_at hl 0 rfl) ?_
  refine lv_iload_n hx hb dX0_same_1 rfl (lv_at hl 1 rfl) ?_
  refine rd_V (As := [.int (iZ f)]) (rest := []) (st1 := []) S (k_X0_needElement l D o q1 q2 cI tE tL F G k f (by omega)) tb_173 tb_175 ts_X0_needElement tb_1 tb_176 hd_X0_needElement ⟨rfl, rfl, by decide, by decide⟩ rX_bl (rX_mv hB) (rX_recv hB) rfl hl.1 rfl (Nat.le_of_ble_eq_true rfl) dX0_same_2 ⟨Nat.zero_le _, Nat.zero_le _⟩ rfl ?_
  refine lv_aload_n hx hb dX0_same_5 rfl (lv_at hl 0 rfl) ?_
  refine lv_iload_n hx hb dX0_same_6 rfl (lv_at hl 2 rfl) ?_
  refine rd_V (As := [.int (iZ g)]) (rest := []) (st1 := []) S (k_X0_needElement l D o q1 q2 cI tE tL F G k g (by omega)) tb_173 tb_175 ts_X0_needElement tb_1 tb_176 hd_X0_needElement ⟨rfl, rfl, by decide, by decide⟩ rX_bl (rX_mv hB) (rX_recv hB) rfl hl.1 rfl (Nat.le_of_ble_eq_true rfl) dX0_same_7 ⟨Nat.zero_le _, Nat.zero_le _⟩ rfl ?_
  refine zi_const hx hb 0 dX0_same_10 ?_
  refine lv_istore_n (lv' := [(3, .int (iZ 0)), (0, .ref o), (1, .int (iZ f)), (2, .int (iZ g))]) hx hb dX0_same_11 rfl hl (by decide) rfl (fun ls hl => ?_)
  refine lp_go (nL := 5) (α := Int) (fun z => [(0, .ref o), (1, .int (iZ f)), (2, .int (iZ g)), (3, .int (iZ z))]) (fun m12 z => 0 ≤ z ∧ z + (m12 : Int) = 8 ∧ ∀ j : Nat, (j : Int) < z * 9 → F ((f * 72).toNat + j) = F ((g * 72).toNat + j)) ?_ 8 ((0 : Int)) (by (try dsimp only); refine ⟨by omega, by omega, ?_⟩; intro i hi; omega) ls (lv_sub hl [1, 2, 3, 0] rfl)
  intro m12 z1 hI12 ih12 ls hl
  obtain ⟨c1, rfl⟩ : ∃ y : Int, y = z1 := ⟨_, rfl⟩
  have hl : lv_has ls 5 [(0, .ref o), (1, .int (iZ f)), (2, .int (iZ g)), (3, .int (iZ c1))] := hl
  have hI12 : 0 ≤ c1 ∧ c1 + (m12 : Int) = 8 ∧ ∀ j : Nat, (j : Int) < c1 * 9 → F ((f * 72).toNat + j) = F ((g * 72).toNat + j) := hI12
  refine lv_iload_n hx hb dX0_same_12 rfl (lv_at hl 3 rfl) ?_
  refine zi_bi hx hb 8 dX0_same_13 (by decide) ?_
  refine zi_cge (tgt := 61) hx hb dX0_same_15 (by decide) (by omega) (by omega) (fun hc15 => ?_) (fun hc15 => ?_)
  · refine zi_const hx hb 1 dX0_same_61 ?_
    exact rd_zret hx hb hr hlk (congrArg (fun z => some (Value.int (iZ z))) (show (smZ F f g : Int) = 1 from by unfold smZ; rw [if_pos]; intro j hj; exact hI12.2.2 j (by omega))) (by decide) dX0_same_62
  · refine zi_bi hx hb (-4) dX0_same_18 (by decide) ?_
    refine lv_istore (lv' := [(4, .int (iZ (-4))), (0, .ref o), (1, .int (iZ f)), (2, .int (iZ g)), (3, .int (iZ c1))]) hx hb dX0_same_20 hl (by decide) rfl (fun ls hl => ?_)
    refine lp_go (nL := 5) (α := Int) (fun z => [(0, .ref o), (1, .int (iZ f)), (2, .int (iZ g)), (3, .int (iZ c1)), (4, .int (iZ z))]) (fun m22 z => -4 ≤ z ∧ z + (m22 : Int) = 5 ∧ ∀ j : Nat, (j : Int) < c1 * 9 + z + 4 → F ((f * 72).toNat + j) = F ((g * 72).toNat + j)) ?_ 9 (((-4) : Int)) (by (try dsimp only); refine ⟨by omega, by omega, ?_⟩; intro j hj; exact hI12.2.2 j (by omega)) ls (lv_sub hl [1, 2, 3, 4, 0] rfl)
    intro m22 z2 hI22 ih22 ls hl
    obtain ⟨n, rfl⟩ : ∃ y : Int, y = z2 := ⟨_, rfl⟩
    have hl : lv_has ls 5 [(0, .ref o), (1, .int (iZ f)), (2, .int (iZ g)), (3, .int (iZ c1)), (4, .int (iZ n))] := hl
    have hI22 : -4 ≤ n ∧ n + (m22 : Int) = 5 ∧ ∀ j : Nat, (j : Int) < c1 * 9 + n + 4 → F ((f * 72).toNat + j) = F ((g * 72).toNat + j) := hI22
    refine lv_iload hx hb dX0_same_22 (lv_at hl 4 rfl) ?_
    refine zi_const hx hb 4 dX0_same_24 ?_
    refine zi_cgt (tgt := 55) hx hb dX0_same_25 (by decide) (by omega) (by omega) (fun hc25 => ?_) (fun hc25 => ?_)
    · refine zi_inc (lv' := [(3, .int (iZ (c1 + 1))), (0, .ref o), (1, .int (iZ f)), (2, .int (iZ g)), (4, .int (iZ n))]) hx hb dX0_same_55 hl (k := 3) rfl (by decide) rfl (fun ls hl => ?_)
      refine lv_goto (tgt := 12) hx hb dX0_same_58 (by decide) ?_
      exact ih12 (m12 - 1) (c1 + 1) (by omega) (by (try dsimp only); refine ⟨by omega, by omega, ?_⟩; intro j hj; exact hI22.2.2 j (by omega)) ls (lv_sub hl [1, 2, 3, 0] rfl)
    · refine lv_aload_n hx hb dX0_same_28 rfl (lv_at hl 0 rfl) ?_
      refine lv_iload_n hx hb dX0_same_29 rfl (lv_at hl 1 rfl) ?_
      refine lv_iload_n hx hb dX0_same_30 rfl (lv_at hl 3 rfl) ?_
      refine lv_iload hx hb dX0_same_31 (lv_at hl 4 rfl) ?_
      refine rd_V (As := [.int (iZ f), .int (iZ c1), .int (iZ n)]) (rest := []) (st1 := [.int (iZ (nuZ F f c1 n))]) S (k_X0_number l D o q1 q2 cI tE tL F G k f c1 n (by omega) (by omega) (by omega)) tb_197 tb_199 ts_X0_number tb_1 tb_200 hd_X0_number ⟨rfl, rfl, by decide, by decide⟩ rX_bl (rX_mv hB) (rX_recv hB) rfl hl.1 rfl (Nat.le_of_ble_eq_true rfl) dX0_same_33 ⟨Nat.zero_le _, Nat.zero_le _⟩ rfl ?_
      have hn36 := nuZ_rng hF f c1 n
      refine lv_aload_n hx hb dX0_same_36 rfl (lv_at hl 0 rfl) ?_
      refine lv_iload_n hx hb dX0_same_37 rfl (lv_at hl 2 rfl) ?_
      refine lv_iload_n hx hb dX0_same_38 rfl (lv_at hl 3 rfl) ?_
      refine lv_iload hx hb dX0_same_39 (lv_at hl 4 rfl) ?_
      refine rd_V (As := [.int (iZ g), .int (iZ c1), .int (iZ n)]) (rest := [.int (iZ (nuZ F f c1 n))]) (st1 := [.int (iZ (nuZ F g c1 n)), .int (iZ (nuZ F f c1 n))]) S (k_X0_number l D o q1 q2 cI tE tL F G k g c1 n (by omega) (by omega) (by omega)) tb_197 tb_199 ts_X0_number tb_1 tb_200 hd_X0_number ⟨rfl, rfl, by decide, by decide⟩ rX_bl (rX_mv hB) (rX_recv hB) rfl hl.1 rfl (Nat.le_of_ble_eq_true rfl) dX0_same_41 ⟨Nat.zero_le _, Nat.zero_le _⟩ rfl ?_
      have hn44 := nuZ_rng hF g c1 n
      refine zi_ceq (tgt := 49) hx hb dX0_same_44 (by decide) (by omega) (by omega) (fun hc44 => ?_) (fun hc44 => ?_)
      · refine zi_inc (lv' := [(4, .int (iZ (n + 1))), (0, .ref o), (1, .int (iZ f)), (2, .int (iZ g)), (3, .int (iZ c1))]) hx hb dX0_same_49 hl (k := 4) rfl (by decide) rfl (fun ls hl => ?_)
        refine lv_goto (tgt := 22) hx hb dX0_same_52 (by decide) ?_
        exact ih22 (m22 - 1) (n + 1) (by omega) (by (try dsimp only); refine ⟨by omega, by omega, ?_⟩; intro j hj; rcases (show (j : Int) < c1 * 9 + n + 4 ∨ j = (c1 * 9 + n + 4).toNat by omega) with h3 | h3; exact hI22.2.2 j h3; rw [h3, ← nu_lin (F := F) (f := f) (c := c1) (n := n) (by omega) (by omega) (by omega), ← nu_lin (F := F) (f := g) (c := c1) (n := n) (by omega) (by omega) (by omega)]; exact hc44) ls (lv_sub hl [1, 2, 3, 4, 0] rfl)
      · refine zi_const hx hb 0 dX0_same_47 ?_
        exact rd_zret hx hb hr hlk (congrArg (fun z => some (Value.int (iZ z))) (show (smZ F f g : Int) = 0 from by unfold smZ; rw [if_neg]; intro h; have h2 := h (c1 * 9 + n + 4).toNat (by omega); rw [← nu_lin (F := F) (f := f) (c := c1) (n := n) (by omega) (by omega) (by omega), ← nu_lin (F := F) (f := g) (c := c1) (n := n) (by omega) (by omega) (by omega)] at h2; exact hc44 h2)) (by decide) dX0_same_48
def kvZ (b c d : Int) (z : Int) : Int := pwP b (lPz z).toNat * pwP (if ePz z < 0 then d else c) (if 0 ≤ ePz z then ePz z else -ePz z).toNat % 32003
def suZ (F : Nat → Int) (f a b c xi ei : Int) : Nat → Int
  | 0 => 0
  | m + 1 => (suZ F f a b c xi ei m + kvZ b c ei m * vxZ F f m a xi) % 32003
theorem suZ_rng (F : Nat → Int) (f a b c xi ei : Int) (m : Nat) : 0 ≤ suZ F f a b c xi ei m ∧ suZ F f a b c xi ei m < 32003 := by
  cases m with
  | zero => exact ⟨Int.le_refl _, by unfold suZ; omega⟩
  | succ m => unfold suZ; omega
theorem kvZ_rng (b c d z : Int) : 0 ≤ kvZ b c d z ∧ kvZ b c d z < 32003 := by unfold kvZ; omega
def vlZ (F : Nat → Int) (f x l e : Int) : Int := if (x % 32003 = 0 ∧ dxZ F f = 1) ∨ (e % 32003 = 0 ∧ deZ F f = 1) then -1 else suZ F f (x % 32003) (l % 32003) (e % 32003) (pwP (x % 32003) 32001) (pwP (e % 32003) 32001) 8
theorem ab_at {z : Int} (h : -2147483647 ≤ z ∧ z ≤ 2147483647) : (if 0 ≤ iZ z then iZ z else 0 - iZ z) = iZ (if 0 ≤ z then z else -z) := by
  have h1 : (0 ≤ iZ z) ↔ 0 ≤ z := iZ_le (a := 0) (by omega) (by omega)
  by_cases h0 : 0 ≤ z
  · rw [if_pos (h1.mpr h0), if_pos h0]
  · rw [if_neg (fun q => h0 (h1.mp q)), if_neg h0]
    show iZ 0 - iZ z = _
    rw [iZ_sub]
    congr 1
    omega
theorem su_step {F : Nat → Int} {f a b c xi ei v z kv : Int} (hz : 0 ≤ z) (hv : v = suZ F f a b c xi ei z.toNat) (hk : kv = kvZ b c ei z) : (v + kv * vxZ F f z a xi) % 32003 = suZ F f a b c xi ei (z + 1).toNat := by
  rw [show (z + 1).toNat = z.toNat + 1 by omega]
  unfold suZ
  rw [show ((z.toNat : Nat) : Int) = z by omega, hk, hv]
set_option maxHeartbeats 4000000 in
set_option maxRecDepth 100000 in
theorem k_X0_value (l : Launch) (D : va_G) (o q1 q2 : Nat) (cI : ClassId) (tE tL : Nat) (F G : Nat → Int) (k : Int) (f x1 l1 e1 : Int) (hF : ∀ j, 0 ≤ F j ∧ F j < 32003) (hf : 0 ≤ f ∧ f < k ∧ k ≤ 60) (hx1 : -9223372036854775808 ≤ x1 ∧ x1 ≤ 9223372036854775807) (hl1 : -9223372036854775808 ≤ l1 ∧ l1 ≤ 9223372036854775807) (he1 : -9223372036854775808 ≤ e1 ∧ e1 ≤ 9223372036854775807) : rd_M l yX0_value cX0_value 17 (some .int) ({ frames := 5, cells := 0, slots := 0, locals := 112 }) [.ref o, .int (iZ f), .long (lZ x1), .long (lZ l1), .long (lZ e1)] (rX D o q1 q2 cI tE tL F G k) (some (.int (iZ (vlZ F f x1 l1 e1)))) := by
  refine rd_of RX0 (by decide) rfl (Nat.le_of_ble_eq_true rfl) ?_
  intro p e s m below meth c S hr hlk hB ls hl
  obtain ⟨hx, hb, hml, hown, hT⟩ := id S
  have hl : lv_has ls 17 [(0, .ref o), (1, .int (iZ f)), (2, .long (lZ x1)), (4, .long (lZ l1)), (6, .long (lZ e1))] := hl
  obtain ⟨hP, hK, hsX⟩ := id hB
  obtain ⟨⟨hZE, hTE⟩, hZL, hTL⟩ := id hsX
  refine lv_aload_n hx hb dX0_value_0 rfl (lv_at hl 0 rfl) ?_
  refine lv_iload_n hx hb dX0_value_1 rfl (lv_at hl 1 rfl) ?_
  refine rd_V (As := [.int (iZ f)]) (rest := []) (st1 := []) S (k_X0_needElement l D o q1 q2 cI tE tL F G k f (by omega)) tb_173 tb_175 ts_X0_needElement tb_1 tb_176 hd_X0_needElement ⟨rfl, rfl, by decide, by decide⟩ rX_bl (rX_mv hB) (rX_recv hB) rfl hl.1 rfl (Nat.le_of_ble_eq_true rfl) dX0_value_2 ⟨Nat.zero_le _, Nat.zero_le _⟩ rfl ?_
  refine lv_lload_n hx hb dX0_value_5 rfl (lv_at hl 2 rfl) ?_
  refine rd_S (As := [.long (lZ x1)]) (rest := []) (st1 := [.int (iZ (x1 % 32003))]) S (k_X0_reduce l x1 (by omega)) tb_157 tb_158 tb_1 tb_159 hd_X0_reduce ⟨rfl, rfl, by decide, by decide⟩ bl_T (fun _ _ _ => trivial) rfl hl.1 rfl (Nat.le_of_ble_eq_true rfl) dX0_value_6 ⟨Nat.zero_le _, Nat.zero_le _⟩ rfl ?_
  refine zi_top (fun v1 ev1 => ?_)
  refine lv_istore (lv' := [(8, .int (iZ v1)), (0, .ref o), (1, .int (iZ f)), (2, .long (lZ x1)), (4, .long (lZ l1)), (6, .long (lZ e1))]) hx hb dX0_value_9 hl (by decide) rfl (fun ls hl => ?_)
  refine lv_lload hx hb dX0_value_11 (lv_at hl 4 rfl) ?_
  refine rd_S (As := [.long (lZ l1)]) (rest := []) (st1 := [.int (iZ (l1 % 32003))]) S (k_X0_reduce l l1 (by omega)) tb_157 tb_158 tb_1 tb_159 hd_X0_reduce ⟨rfl, rfl, by decide, by decide⟩ bl_T (fun _ _ _ => trivial) rfl hl.1 rfl (Nat.le_of_ble_eq_true rfl) dX0_value_13 ⟨Nat.zero_le _, Nat.zero_le _⟩ rfl ?_
  refine zi_top (fun v2 ev2 => ?_)
  refine lv_istore (lv' := [(9, .int (iZ v2)), (8, .int (iZ v1)), (0, .ref o), (1, .int (iZ f)), (2, .long (lZ x1)), (4, .long (lZ l1)), (6, .long (lZ e1))]) hx hb dX0_value_16 hl (by decide) rfl (fun ls hl => ?_)
  refine lv_lload hx hb dX0_value_18 (lv_at hl 6 rfl) ?_
  refine rd_S (As := [.long (lZ e1)]) (rest := []) (st1 := [.int (iZ (e1 % 32003))]) S (k_X0_reduce l e1 (by omega)) tb_157 tb_158 tb_1 tb_159 hd_X0_reduce ⟨rfl, rfl, by decide, by decide⟩ bl_T (fun _ _ _ => trivial) rfl hl.1 rfl (Nat.le_of_ble_eq_true rfl) dX0_value_20 ⟨Nat.zero_le _, Nat.zero_le _⟩ rfl ?_
  refine zi_top (fun v3 ev3 => ?_)
  refine lv_istore (lv' := [(10, .int (iZ v3)), (9, .int (iZ v2)), (8, .int (iZ v1)), (0, .ref o), (1, .int (iZ f)), (2, .long (lZ x1)), (4, .long (lZ l1)), (6, .long (lZ e1))]) hx hb dX0_value_23 hl (by decide) rfl (fun ls hl => ?_)
  refine lv_iload hx hb dX0_value_25 (lv_at hl 2 rfl) ?_
  refine zi_fne (tgt := 38) hx hb dX0_value_27 (by decide) (by omega) (fun hc27 => ?_) (fun hc27 => ?_)
  · refine lv_iload hx hb dX0_value_38 (lv_at hl 0 rfl) ?_
    refine zi_fne (tgt := 53) hx hb dX0_value_40 (by decide) (by omega) (fun hc40 => ?_) (fun hc40 => ?_)
    · have hq1 := pwP_rng v1 32001
      have hq2 := pwP_rng v3 32001
      refine lv_iload hx hb dX0_value_53 (lv_at hl 2 rfl) ?_
      refine rd_S (As := [.int (iZ v1)]) (rest := []) (st1 := [.int (iZ (pwP v1 32001))]) S (k_X0_inverse l v1 (by omega)) tb_313 tb_314 tb_1 tb_315 hd_X0_inverse ⟨rfl, rfl, by decide, by decide⟩ bl_T (fun _ _ _ => trivial) rfl hl.1 rfl (Nat.le_of_ble_eq_true rfl) dX0_value_55 ⟨Nat.zero_le _, Nat.zero_le _⟩ rfl ?_
      refine zi_top (fun v4 ev4 => ?_)
      refine lv_istore (lv' := [(11, .int (iZ v4)), (10, .int (iZ v3)), (9, .int (iZ v2)), (8, .int (iZ v1)), (0, .ref o), (1, .int (iZ f)), (2, .long (lZ x1)), (4, .long (lZ l1)), (6, .long (lZ e1))]) hx hb dX0_value_58 hl (by decide) rfl (fun ls hl => ?_)
      refine lv_iload hx hb dX0_value_60 (lv_at hl 1 rfl) ?_
      refine rd_S (As := [.int (iZ v3)]) (rest := []) (st1 := [.int (iZ (pwP v3 32001))]) S (k_X0_inverse l v3 (by omega)) tb_313 tb_314 tb_1 tb_315 hd_X0_inverse ⟨rfl, rfl, by decide, by decide⟩ bl_T (fun _ _ _ => trivial) rfl hl.1 rfl (Nat.le_of_ble_eq_true rfl) dX0_value_62 ⟨Nat.zero_le _, Nat.zero_le _⟩ rfl ?_
      refine zi_top (fun v5 ev5 => ?_)
      refine lv_istore (lv' := [(12, .int (iZ v5)), (11, .int (iZ v4)), (10, .int (iZ v3)), (9, .int (iZ v2)), (8, .int (iZ v1)), (0, .ref o), (1, .int (iZ f)), (2, .long (lZ x1)), (4, .long (lZ l1)), (6, .long (lZ e1))]) hx hb dX0_value_65 hl (by decide) rfl (fun ls hl => ?_)
      refine zi_const hx hb 0 dX0_value_67 ?_
      refine lv_istore (lv' := [(13, .int (iZ 0)), (12, .int (iZ v5)), (11, .int (iZ v4)), (10, .int (iZ v3)), (9, .int (iZ v2)), (8, .int (iZ v1)), (0, .ref o), (1, .int (iZ f)), (2, .long (lZ x1)), (4, .long (lZ l1)), (6, .long (lZ e1))]) hx hb dX0_value_68 hl (by decide) rfl (fun ls hl => ?_)
      refine zi_const hx hb 0 dX0_value_70 ?_
      refine lv_istore (lv' := [(14, .int (iZ 0)), (13, .int (iZ 0)), (12, .int (iZ v5)), (11, .int (iZ v4)), (10, .int (iZ v3)), (9, .int (iZ v2)), (8, .int (iZ v1)), (0, .ref o), (1, .int (iZ f)), (2, .long (lZ x1)), (4, .long (lZ l1)), (6, .long (lZ e1))]) hx hb dX0_value_71 hl (by decide) rfl (fun ls hl => ?_)
      refine lp_go (nL := 17) (α := Int × Int) (fun z => [(0, .ref o), (1, .int (iZ f)), (8, .int (iZ v1)), (9, .int (iZ v2)), (10, .int (iZ v3)), (11, .int (iZ v4)), (12, .int (iZ v5)), (13, .int (iZ z.1)), (14, .int (iZ z.2))]) (fun m73 z => 0 ≤ z.2 ∧ z.2 + (m73 : Int) = 8 ∧ z.1 = suZ F f v1 v2 v3 v4 v5 z.2.toNat) ?_ 8 ((0 : Int), (0 : Int)) (by (try dsimp only); exact ⟨by omega, by omega, rfl⟩) ls (lv_sub hl [7, 8, 6, 5, 4, 3, 2, 1, 0] rfl)
      intro m73 z6 hI73 ih73 ls hl
      obtain ⟨v, c1⟩ := z6
      have hl : lv_has ls 17 [(0, .ref o), (1, .int (iZ f)), (8, .int (iZ v1)), (9, .int (iZ v2)), (10, .int (iZ v3)), (11, .int (iZ v4)), (12, .int (iZ v5)), (13, .int (iZ v)), (14, .int (iZ c1))] := hl
      have hI73 : 0 ≤ c1 ∧ c1 + (m73 : Int) = 8 ∧ v = suZ F f v1 v2 v3 v4 v5 c1.toNat := hI73
      have hel := lPz_rng c1
      have hee := ePz_rng c1
      have hvr := suZ_rng F f v1 v2 v3 v4 v5 c1.toNat
      rw [← hI73.2.2] at hvr
      have hp1 := pwP_rng v2 (lPz c1).toNat
      have hp2 := pwP_rng v5 (Int.toNat (if 0 ≤ ePz c1 then ePz c1 else -ePz c1))
      have hp3 := pwP_rng v3 (Int.toNat (if 0 ≤ ePz c1 then ePz c1 else -ePz c1))
      have hab : 0 ≤ (if 0 ≤ ePz c1 then ePz c1 else -ePz c1) ∧ (if 0 ≤ ePz c1 then ePz c1 else -ePz c1) ≤ 2 := by split <;> omega
      refine lv_iload hx hb dX0_value_73 (lv_at hl 8 rfl) ?_
      refine zi_bi hx hb 8 dX0_value_75 (by decide) ?_
      refine zi_cge (tgt := 153) hx hb dX0_value_77 (by decide) (by omega) (by omega) (fun hc77 => ?_) (fun hc77 => ?_)
      · refine lv_iload hx hb dX0_value_153 (lv_at hl 7 rfl) ?_
        exact rd_iret hx hb hr hlk (congrArg (fun z => some (Value.int (iZ z))) (show (vlZ F f x1 l1 e1 : Int) = v from by unfold vlZ; rw [if_neg (by omega), hI73.2.2, show c1.toNat = 8 by omega, ev4, ev5, ev1, ev2, ev3])) dX0_value_155
      · refine lv_iload hx hb dX0_value_80 (lv_at hl 8 rfl) ?_
        refine rd_S (As := [.int (iZ c1)]) (rest := []) (st1 := [.int (iZ (ePz c1))]) S (k_X0_exponentialPower l tE tL c1 (by omega)) tb_239 tb_240 tb_1 tb_241 hd_X0_exponentialPower ⟨rfl, rfl, by decide, by decide⟩ sB_bl (sB_mv hsX) rfl hl.1 rfl (Nat.le_of_ble_eq_true rfl) dX0_value_82 ⟨Nat.zero_le _, Nat.zero_le _⟩ rfl ?_
        refine lv_istore (lv' := [(15, .int (iZ (ePz c1))), (0, .ref o), (1, .int (iZ f)), (8, .int (iZ v1)), (9, .int (iZ v2)), (10, .int (iZ v3)), (11, .int (iZ v4)), (12, .int (iZ v5)), (13, .int (iZ v)), (14, .int (iZ c1))]) hx hb dX0_value_85 hl (by decide) rfl (fun ls hl => ?_)
        refine lv_iload hx hb dX0_value_87 (lv_at hl 4 rfl) ?_
        refine lv_iload hx hb dX0_value_89 (lv_at hl 9 rfl) ?_
        refine rd_S (As := [.int (iZ c1)]) (rest := [.int (iZ v2)]) (st1 := [.int (iZ (lPz c1)), .int (iZ v2)]) S (k_X0_logPower l tE tL c1 (by omega)) tb_244 tb_245 tb_1 tb_246 hd_X0_logPower ⟨rfl, rfl, by decide, by decide⟩ sB_bl (sB_mv hsX) rfl hl.1 rfl (Nat.le_of_ble_eq_true rfl) dX0_value_91 ⟨Nat.zero_le _, Nat.zero_le _⟩ rfl ?_
        refine rd_S (As := [.int (iZ v2), .int (iZ (lPz c1))]) (rest := []) (st1 := [.int (iZ (pwP v2 (Int.toNat (lPz c1))))]) S (k_X0_power l v2 (lPz c1) (by omega) (by omega)) tb_316 tb_317 tb_1 tb_318 hd_X0_power ⟨rfl, rfl, by decide, by decide⟩ bl_T (fun _ _ _ => trivial) rfl hl.1 rfl (Nat.le_of_ble_eq_true rfl) dX0_value_94 ⟨Nat.zero_le _, Nat.zero_le _⟩ rfl ?_
        refine lv_iload hx hb dX0_value_97 (lv_at hl 0 rfl) ?_
        refine zi_fge (tgt := 107) hx hb dX0_value_99 (by decide) (by omega) (fun hc99 => ?_) (fun hc99 => ?_)
        · refine lv_iload hx hb dX0_value_107 (lv_at hl 5 rfl) ?_
          refine lv_iload hx hb dX0_value_109 (lv_at hl 0 rfl) ?_
          refine va_mabs hx hb (by rw [hml]; exact hl.1.symm) hown (hT _ tb_382) (hT _ tb_383) (hT _ tb_9) (hT _ tb_384) (by decide) (Nat.le_of_ble_eq_true rfl) (Nat.zero_le _) (Nat.zero_le _) dX0_value_111 ?_
          refine zi_as (ab_at (z := ePz c1) (by omega)) ?_
          refine rd_S (As := [.int (iZ v3), .int (iZ (if 0 ≤ ePz c1 then ePz c1 else -(ePz c1)))]) (rest := [.int (iZ (pwP v2 (Int.toNat (lPz c1))))]) (st1 := [.int (iZ (pwP v3 (Int.toNat (if 0 ≤ ePz c1 then ePz c1 else -(ePz c1))))), .int (iZ (pwP v2 (Int.toNat (lPz c1))))]) S (k_X0_power l v3 (if 0 ≤ ePz c1 then ePz c1 else -(ePz c1)) (by omega) (by omega)) tb_316 tb_317 tb_1 tb_318 hd_X0_power ⟨rfl, rfl, by decide, by decide⟩ bl_T (fun _ _ _ => trivial) rfl hl.1 rfl (Nat.le_of_ble_eq_true rfl) dX0_value_114 ⟨Nat.zero_le _, Nat.zero_le _⟩ rfl ?_
          refine rd_S (As := [.int (iZ (pwP v2 (Int.toNat (lPz c1)))), .int (iZ (pwP v3 (Int.toNat (if 0 ≤ ePz c1 then ePz c1 else -(ePz c1)))))]) (rest := []) (st1 := [.int (iZ ((pwP v2 (Int.toNat (lPz c1))) * (pwP v3 (Int.toNat (if 0 ≤ ePz c1 then ePz c1 else -(ePz c1)))) % 32003))]) S (k_X0_multiply l (pwP v2 (Int.toNat (lPz c1))) (pwP v3 (Int.toNat (if 0 ≤ ePz c1 then ePz c1 else -(ePz c1)))) (by omega) (by omega)) tb_319 tb_320 tb_1 tb_321 hd_X0_multiply ⟨rfl, rfl, by decide, by decide⟩ bl_T (fun _ _ _ => trivial) rfl hl.1 rfl (Nat.le_of_ble_eq_true rfl) dX0_value_117 ⟨Nat.zero_le _, Nat.zero_le _⟩ rfl ?_
          refine zi_top (fun v7 ev7 => ?_)
          refine lv_istore (lv' := [(16, .int (iZ v7)), (15, .int (iZ (ePz c1))), (0, .ref o), (1, .int (iZ f)), (8, .int (iZ v1)), (9, .int (iZ v2)), (10, .int (iZ v3)), (11, .int (iZ v4)), (12, .int (iZ v5)), (13, .int (iZ v)), (14, .int (iZ c1))]) hx hb dX0_value_120 hl (by decide) rfl (fun ls hl => ?_)
          have hkv : 0 ≤ v7 ∧ v7 < 32003 := by rw [ev7]; omega
          have hkm := mul_rng hkv (vxZ_rng F f c1 v1 v4)
          refine lv_iload hx hb dX0_value_122 (lv_at hl 9 rfl) ?_
          refine zi_i2l hx hb dX0_value_124 (by omega) ?_
          refine lv_iload hx hb dX0_value_125 (lv_at hl 0 rfl) ?_
          refine zi_i2l hx hb dX0_value_127 (by omega) ?_
          refine lv_aload_n hx hb dX0_value_128 rfl (lv_at hl 2 rfl) ?_
          refine lv_iload_n hx hb dX0_value_129 rfl (lv_at hl 3 rfl) ?_
          refine lv_iload hx hb dX0_value_130 (lv_at hl 10 rfl) ?_
          refine lv_iload hx hb dX0_value_132 (lv_at hl 4 rfl) ?_
          refine lv_iload hx hb dX0_value_134 (lv_at hl 7 rfl) ?_
          refine rd_V (As := [.int (iZ f), .int (iZ c1), .int (iZ v1), .int (iZ v4)]) (rest := [.long (lZ v7), .long (lZ v)]) (st1 := [.int (iZ (vxZ F f c1 v1 v4)), .long (lZ v7), .long (lZ v)]) S (k_X0_valueInX l D o q1 q2 cI tE tL F G k f c1 v1 v4 hF (by omega) (by omega) (by omega) (by omega)) tb_385 tb_387 ts_X0_valueInX tb_1 tb_388 hd_X0_valueInX ⟨rfl, rfl, by decide, by decide⟩ rX_bl (rX_mv hB) (rX_recv hB) rfl hl.1 rfl (Nat.le_of_ble_eq_true rfl) dX0_value_136 ⟨Nat.zero_le _, Nat.zero_le _⟩ rfl ?_
          have hvx139 := vxZ_rng F f c1 v1 v4
          refine zi_i2l hx hb dX0_value_139 (by omega) ?_
          refine zl_mul hx hb dX0_value_140 ?_
          refine zl_add hx hb dX0_value_141 ?_
          refine rd_S (As := [.long (lZ (v + (v7 * (vxZ F f c1 v1 v4))))]) (rest := []) (st1 := [.int (iZ ((v + (v7 * (vxZ F f c1 v1 v4))) % 32003))]) S (k_X0_reduce l (v + (v7 * (vxZ F f c1 v1 v4))) (by omega)) tb_157 tb_158 tb_1 tb_159 hd_X0_reduce ⟨rfl, rfl, by decide, by decide⟩ bl_T (fun _ _ _ => trivial) rfl hl.1 rfl (Nat.le_of_ble_eq_true rfl) dX0_value_142 ⟨Nat.zero_le _, Nat.zero_le _⟩ rfl ?_
          refine zi_top (fun v8 ev8 => ?_)
          refine lv_istore (lv' := [(13, .int (iZ v8)), (16, .int (iZ v7)), (15, .int (iZ (ePz c1))), (0, .ref o), (1, .int (iZ f)), (8, .int (iZ v1)), (9, .int (iZ v2)), (10, .int (iZ v3)), (11, .int (iZ v4)), (12, .int (iZ v5)), (14, .int (iZ c1))]) hx hb dX0_value_145 hl (by decide) rfl (fun ls hl => ?_)
          refine zi_inc (lv' := [(14, .int (iZ (c1 + 1))), (13, .int (iZ v8)), (16, .int (iZ v7)), (15, .int (iZ (ePz c1))), (0, .ref o), (1, .int (iZ f)), (8, .int (iZ v1)), (9, .int (iZ v2)), (10, .int (iZ v3)), (11, .int (iZ v4)), (12, .int (iZ v5))]) hx hb dX0_value_147 hl (k := 10) rfl (by decide) rfl (fun ls hl => ?_)
          refine lv_goto (tgt := 73) hx hb dX0_value_150 (by decide) ?_
          exact ih73 (m73 - 1) (v8, c1 + 1) (by omega) (by (try dsimp only); refine ⟨by omega, by omega, ?_⟩; rw [ev8]; exact su_step (by omega) hI73.2.2 (by rw [ev7]; unfold kvZ; rw [if_neg (show ¬ ePz c1 < 0 by omega)])) ls (lv_sub hl [4, 5, 6, 7, 8, 9, 10, 1, 0] rfl)
        · refine lv_iload hx hb dX0_value_102 (lv_at hl 7 rfl) ?_
          refine lv_goto (tgt := 109) hx hb dX0_value_104 (by decide) ?_
          refine lv_iload hx hb dX0_value_109 (lv_at hl 0 rfl) ?_
          refine va_mabs hx hb (by rw [hml]; exact hl.1.symm) hown (hT _ tb_382) (hT _ tb_383) (hT _ tb_9) (hT _ tb_384) (by decide) (Nat.le_of_ble_eq_true rfl) (Nat.zero_le _) (Nat.zero_le _) dX0_value_111 ?_
          refine zi_as (ab_at (z := ePz c1) (by omega)) ?_
          refine rd_S (As := [.int (iZ v5), .int (iZ (if 0 ≤ ePz c1 then ePz c1 else -(ePz c1)))]) (rest := [.int (iZ (pwP v2 (Int.toNat (lPz c1))))]) (st1 := [.int (iZ (pwP v5 (Int.toNat (if 0 ≤ ePz c1 then ePz c1 else -(ePz c1))))), .int (iZ (pwP v2 (Int.toNat (lPz c1))))]) S (k_X0_power l v5 (if 0 ≤ ePz c1 then ePz c1 else -(ePz c1)) (by omega) (by omega)) tb_316 tb_317 tb_1 tb_318 hd_X0_power ⟨rfl, rfl, by decide, by decide⟩ bl_T (fun _ _ _ => trivial) rfl hl.1 rfl (Nat.le_of_ble_eq_true rfl) dX0_value_114 ⟨Nat.zero_le _, Nat.zero_le _⟩ rfl ?_
          refine rd_S (As := [.int (iZ (pwP v2 (Int.toNat (lPz c1)))), .int (iZ (pwP v5 (Int.toNat (if 0 ≤ ePz c1 then ePz c1 else -(ePz c1)))))]) (rest := []) (st1 := [.int (iZ ((pwP v2 (Int.toNat (lPz c1))) * (pwP v5 (Int.toNat (if 0 ≤ ePz c1 then ePz c1 else -(ePz c1)))) % 32003))]) S (k_X0_multiply l (pwP v2 (Int.toNat (lPz c1))) (pwP v5 (Int.toNat (if 0 ≤ ePz c1 then ePz c1 else -(ePz c1)))) (by omega) (by omega)) tb_319 tb_320 tb_1 tb_321 hd_X0_multiply ⟨rfl, rfl, by decide, by decide⟩ bl_T (fun _ _ _ => trivial) rfl hl.1 rfl (Nat.le_of_ble_eq_true rfl) dX0_value_117 ⟨Nat.zero_le _, Nat.zero_le _⟩ rfl ?_
          refine zi_top (fun v9 ev9 => ?_)
          refine lv_istore (lv' := [(16, .int (iZ v9)), (15, .int (iZ (ePz c1))), (0, .ref o), (1, .int (iZ f)), (8, .int (iZ v1)), (9, .int (iZ v2)), (10, .int (iZ v3)), (11, .int (iZ v4)), (12, .int (iZ v5)), (13, .int (iZ v)), (14, .int (iZ c1))]) hx hb dX0_value_120 hl (by decide) rfl (fun ls hl => ?_)
          have hkv : 0 ≤ v9 ∧ v9 < 32003 := by rw [ev9]; omega
          have hkm := mul_rng hkv (vxZ_rng F f c1 v1 v4)
          refine lv_iload hx hb dX0_value_122 (lv_at hl 9 rfl) ?_
          refine zi_i2l hx hb dX0_value_124 (by omega) ?_
          refine lv_iload hx hb dX0_value_125 (lv_at hl 0 rfl) ?_
          refine zi_i2l hx hb dX0_value_127 (by omega) ?_
          refine lv_aload_n hx hb dX0_value_128 rfl (lv_at hl 2 rfl) ?_
          refine lv_iload_n hx hb dX0_value_129 rfl (lv_at hl 3 rfl) ?_
          refine lv_iload hx hb dX0_value_130 (lv_at hl 10 rfl) ?_
          refine lv_iload hx hb dX0_value_132 (lv_at hl 4 rfl) ?_
          refine lv_iload hx hb dX0_value_134 (lv_at hl 7 rfl) ?_
          refine rd_V (As := [.int (iZ f), .int (iZ c1), .int (iZ v1), .int (iZ v4)]) (rest := [.long (lZ v9), .long (lZ v)]) (st1 := [.int (iZ (vxZ F f c1 v1 v4)), .long (lZ v9), .long (lZ v)]) S (k_X0_valueInX l D o q1 q2 cI tE tL F G k f c1 v1 v4 hF (by omega) (by omega) (by omega) (by omega)) tb_385 tb_387 ts_X0_valueInX tb_1 tb_388 hd_X0_valueInX ⟨rfl, rfl, by decide, by decide⟩ rX_bl (rX_mv hB) (rX_recv hB) rfl hl.1 rfl (Nat.le_of_ble_eq_true rfl) dX0_value_136 ⟨Nat.zero_le _, Nat.zero_le _⟩ rfl ?_
          have hvx139 := vxZ_rng F f c1 v1 v4
          refine zi_i2l hx hb dX0_value_139 (by omega) ?_
          refine zl_mul hx hb dX0_value_140 ?_
          refine zl_add hx hb dX0_value_141 ?_
          refine rd_S (As := [.long (lZ (v + (v9 * (vxZ F f c1 v1 v4))))]) (rest := []) (st1 := [.int (iZ ((v + (v9 * (vxZ F f c1 v1 v4))) % 32003))]) S (k_X0_reduce l (v + (v9 * (vxZ F f c1 v1 v4))) (by omega)) tb_157 tb_158 tb_1 tb_159 hd_X0_reduce ⟨rfl, rfl, by decide, by decide⟩ bl_T (fun _ _ _ => trivial) rfl hl.1 rfl (Nat.le_of_ble_eq_true rfl) dX0_value_142 ⟨Nat.zero_le _, Nat.zero_le _⟩ rfl ?_
          refine zi_top (fun v10 ev10 => ?_)
          refine lv_istore (lv' := [(13, .int (iZ v10)), (16, .int (iZ v9)), (15, .int (iZ (ePz c1))), (0, .ref o), (1, .int (iZ f)), (8, .int (iZ v1)), (9, .int (iZ v2)), (10, .int (iZ v3)), (11, .int (iZ v4)), (12, .int (iZ v5)), (14, .int (iZ c1))]) hx hb dX0_value_145 hl (by decide) rfl (fun ls hl => ?_)
          refine zi_inc (lv' := [(14, .int (iZ (c1 + 1))), (13, .int (iZ v10)), (16, .int (iZ v9)), (15, .int (iZ (ePz c1))), (0, .ref o), (1, .int (iZ f)), (8, .int (iZ v1)), (9, .int (iZ v2)), (10, .int (iZ v3)), (11, .int (iZ v4)), (12, .int (iZ v5))]) hx hb dX0_value_147 hl (k := 10) rfl (by decide) rfl (fun ls hl => ?_)
          refine lv_goto (tgt := 73) hx hb dX0_value_150 (by decide) ?_
          exact ih73 (m73 - 1) (v10, c1 + 1) (by omega) (by (try dsimp only); refine ⟨by omega, by omega, ?_⟩; rw [ev10]; exact su_step (by omega) hI73.2.2 (by rw [ev9]; unfold kvZ; rw [if_pos (show ePz c1 < 0 by omega)])) ls (lv_sub hl [4, 5, 6, 7, 8, 9, 10, 1, 0] rfl)
    · refine lv_aload_n hx hb dX0_value_43 rfl (lv_at hl 3 rfl) ?_
      refine lv_iload_n hx hb dX0_value_44 rfl (lv_at hl 4 rfl) ?_
      refine rd_V (As := [.int (iZ f)]) (rest := []) (st1 := [.int (iZ (deZ F f))]) S (k_X0_dividesByE l D o q1 q2 cI tE tL F G k f hF (by omega)) tb_378 tb_380 ts_X0_dividesByE tb_1 tb_381 hd_X0_dividesByE ⟨rfl, rfl, by decide, by decide⟩ rX_bl (rX_mv hB) (rX_recv hB) rfl hl.1 rfl (Nat.le_of_ble_eq_true rfl) dX0_value_45 ⟨Nat.zero_le _, Nat.zero_le _⟩ rfl ?_
      have hde48 := deZ_or F f
      refine zi_feq (tgt := 53) hx hb dX0_value_48 (by decide) (by omega) (fun hc48 => ?_) (fun hc48 => ?_)
      · have hq1 := pwP_rng v1 32001
        have hq2 := pwP_rng v3 32001
        refine lv_iload hx hb dX0_value_53 (lv_at hl 2 rfl) ?_
        refine rd_S (As := [.int (iZ v1)]) (rest := []) (st1 := [.int (iZ (pwP v1 32001))]) S (k_X0_inverse l v1 (by omega)) tb_313 tb_314 tb_1 tb_315 hd_X0_inverse ⟨rfl, rfl, by decide, by decide⟩ bl_T (fun _ _ _ => trivial) rfl hl.1 rfl (Nat.le_of_ble_eq_true rfl) dX0_value_55 ⟨Nat.zero_le _, Nat.zero_le _⟩ rfl ?_
        refine zi_top (fun v11 ev11 => ?_)
        refine lv_istore (lv' := [(11, .int (iZ v11)), (10, .int (iZ v3)), (9, .int (iZ v2)), (8, .int (iZ v1)), (0, .ref o), (1, .int (iZ f)), (2, .long (lZ x1)), (4, .long (lZ l1)), (6, .long (lZ e1))]) hx hb dX0_value_58 hl (by decide) rfl (fun ls hl => ?_)
        refine lv_iload hx hb dX0_value_60 (lv_at hl 1 rfl) ?_
        refine rd_S (As := [.int (iZ v3)]) (rest := []) (st1 := [.int (iZ (pwP v3 32001))]) S (k_X0_inverse l v3 (by omega)) tb_313 tb_314 tb_1 tb_315 hd_X0_inverse ⟨rfl, rfl, by decide, by decide⟩ bl_T (fun _ _ _ => trivial) rfl hl.1 rfl (Nat.le_of_ble_eq_true rfl) dX0_value_62 ⟨Nat.zero_le _, Nat.zero_le _⟩ rfl ?_
        refine zi_top (fun v12 ev12 => ?_)
        refine lv_istore (lv' := [(12, .int (iZ v12)), (11, .int (iZ v11)), (10, .int (iZ v3)), (9, .int (iZ v2)), (8, .int (iZ v1)), (0, .ref o), (1, .int (iZ f)), (2, .long (lZ x1)), (4, .long (lZ l1)), (6, .long (lZ e1))]) hx hb dX0_value_65 hl (by decide) rfl (fun ls hl => ?_)
        refine zi_const hx hb 0 dX0_value_67 ?_
        refine lv_istore (lv' := [(13, .int (iZ 0)), (12, .int (iZ v12)), (11, .int (iZ v11)), (10, .int (iZ v3)), (9, .int (iZ v2)), (8, .int (iZ v1)), (0, .ref o), (1, .int (iZ f)), (2, .long (lZ x1)), (4, .long (lZ l1)), (6, .long (lZ e1))]) hx hb dX0_value_68 hl (by decide) rfl (fun ls hl => ?_)
        refine zi_const hx hb 0 dX0_value_70 ?_
        refine lv_istore (lv' := [(14, .int (iZ 0)), (13, .int (iZ 0)), (12, .int (iZ v12)), (11, .int (iZ v11)), (10, .int (iZ v3)), (9, .int (iZ v2)), (8, .int (iZ v1)), (0, .ref o), (1, .int (iZ f)), (2, .long (lZ x1)), (4, .long (lZ l1)), (6, .long (lZ e1))]) hx hb dX0_value_71 hl (by decide) rfl (fun ls hl => ?_)
        refine lp_go (nL := 17) (α := Int × Int) (fun z => [(0, .ref o), (1, .int (iZ f)), (8, .int (iZ v1)), (9, .int (iZ v2)), (10, .int (iZ v3)), (11, .int (iZ v11)), (12, .int (iZ v12)), (13, .int (iZ z.1)), (14, .int (iZ z.2))]) (fun m73 z => 0 ≤ z.2 ∧ z.2 + (m73 : Int) = 8 ∧ z.1 = suZ F f v1 v2 v3 v11 v12 z.2.toNat) ?_ 8 ((0 : Int), (0 : Int)) (by (try dsimp only); exact ⟨by omega, by omega, rfl⟩) ls (lv_sub hl [7, 8, 6, 5, 4, 3, 2, 1, 0] rfl)
        intro m73 z13 hI73 ih73 ls hl
        obtain ⟨v, c1⟩ := z13
        have hl : lv_has ls 17 [(0, .ref o), (1, .int (iZ f)), (8, .int (iZ v1)), (9, .int (iZ v2)), (10, .int (iZ v3)), (11, .int (iZ v11)), (12, .int (iZ v12)), (13, .int (iZ v)), (14, .int (iZ c1))] := hl
        have hI73 : 0 ≤ c1 ∧ c1 + (m73 : Int) = 8 ∧ v = suZ F f v1 v2 v3 v11 v12 c1.toNat := hI73
        have hel := lPz_rng c1
        have hee := ePz_rng c1
        have hvr := suZ_rng F f v1 v2 v3 v11 v12 c1.toNat
        rw [← hI73.2.2] at hvr
        have hp1 := pwP_rng v2 (lPz c1).toNat
        have hp2 := pwP_rng v12 (Int.toNat (if 0 ≤ ePz c1 then ePz c1 else -ePz c1))
        have hp3 := pwP_rng v3 (Int.toNat (if 0 ≤ ePz c1 then ePz c1 else -ePz c1))
        have hab : 0 ≤ (if 0 ≤ ePz c1 then ePz c1 else -ePz c1) ∧ (if 0 ≤ ePz c1 then ePz c1 else -ePz c1) ≤ 2 := by split <;> omega
        refine lv_iload hx hb dX0_value_73 (lv_at hl 8 rfl) ?_
        refine zi_bi hx hb 8 dX0_value_75 (by decide) ?_
        refine zi_cge (tgt := 153) hx hb dX0_value_77 (by decide) (by omega) (by omega) (fun hc77 => ?_) (fun hc77 => ?_)
        · refine lv_iload hx hb dX0_value_153 (lv_at hl 7 rfl) ?_
          exact rd_iret hx hb hr hlk (congrArg (fun z => some (Value.int (iZ z))) (show (vlZ F f x1 l1 e1 : Int) = v from by unfold vlZ; rw [if_neg (by omega), hI73.2.2, show c1.toNat = 8 by omega, ev11, ev12, ev1, ev2, ev3])) dX0_value_155
        · refine lv_iload hx hb dX0_value_80 (lv_at hl 8 rfl) ?_
          refine rd_S (As := [.int (iZ c1)]) (rest := []) (st1 := [.int (iZ (ePz c1))]) S (k_X0_exponentialPower l tE tL c1 (by omega)) tb_239 tb_240 tb_1 tb_241 hd_X0_exponentialPower ⟨rfl, rfl, by decide, by decide⟩ sB_bl (sB_mv hsX) rfl hl.1 rfl (Nat.le_of_ble_eq_true rfl) dX0_value_82 ⟨Nat.zero_le _, Nat.zero_le _⟩ rfl ?_
          refine lv_istore (lv' := [(15, .int (iZ (ePz c1))), (0, .ref o), (1, .int (iZ f)), (8, .int (iZ v1)), (9, .int (iZ v2)), (10, .int (iZ v3)), (11, .int (iZ v11)), (12, .int (iZ v12)), (13, .int (iZ v)), (14, .int (iZ c1))]) hx hb dX0_value_85 hl (by decide) rfl (fun ls hl => ?_)
          refine lv_iload hx hb dX0_value_87 (lv_at hl 4 rfl) ?_
          refine lv_iload hx hb dX0_value_89 (lv_at hl 9 rfl) ?_
          refine rd_S (As := [.int (iZ c1)]) (rest := [.int (iZ v2)]) (st1 := [.int (iZ (lPz c1)), .int (iZ v2)]) S (k_X0_logPower l tE tL c1 (by omega)) tb_244 tb_245 tb_1 tb_246 hd_X0_logPower ⟨rfl, rfl, by decide, by decide⟩ sB_bl (sB_mv hsX) rfl hl.1 rfl (Nat.le_of_ble_eq_true rfl) dX0_value_91 ⟨Nat.zero_le _, Nat.zero_le _⟩ rfl ?_
          refine rd_S (As := [.int (iZ v2), .int (iZ (lPz c1))]) (rest := []) (st1 := [.int (iZ (pwP v2 (Int.toNat (lPz c1))))]) S (k_X0_power l v2 (lPz c1) (by omega) (by omega)) tb_316 tb_317 tb_1 tb_318 hd_X0_power ⟨rfl, rfl, by decide, by decide⟩ bl_T (fun _ _ _ => trivial) rfl hl.1 rfl (Nat.le_of_ble_eq_true rfl) dX0_value_94 ⟨Nat.zero_le _, Nat.zero_le _⟩ rfl ?_
          refine lv_iload hx hb dX0_value_97 (lv_at hl 0 rfl) ?_
          refine zi_fge (tgt := 107) hx hb dX0_value_99 (by decide) (by omega) (fun hc99 => ?_) (fun hc99 => ?_)
          · refine lv_iload hx hb dX0_value_107 (lv_at hl 5 rfl) ?_
            refine lv_iload hx hb dX0_value_109 (lv_at hl 0 rfl) ?_
            refine va_mabs hx hb (by rw [hml]; exact hl.1.symm) hown (hT _ tb_382) (hT _ tb_383) (hT _ tb_9) (hT _ tb_384) (by decide) (Nat.le_of_ble_eq_true rfl) (Nat.zero_le _) (Nat.zero_le _) dX0_value_111 ?_
            refine zi_as (ab_at (z := ePz c1) (by omega)) ?_
            refine rd_S (As := [.int (iZ v3), .int (iZ (if 0 ≤ ePz c1 then ePz c1 else -(ePz c1)))]) (rest := [.int (iZ (pwP v2 (Int.toNat (lPz c1))))]) (st1 := [.int (iZ (pwP v3 (Int.toNat (if 0 ≤ ePz c1 then ePz c1 else -(ePz c1))))), .int (iZ (pwP v2 (Int.toNat (lPz c1))))]) S (k_X0_power l v3 (if 0 ≤ ePz c1 then ePz c1 else -(ePz c1)) (by omega) (by omega)) tb_316 tb_317 tb_1 tb_318 hd_X0_power ⟨rfl, rfl, by decide, by decide⟩ bl_T (fun _ _ _ => trivial) rfl hl.1 rfl (Nat.le_of_ble_eq_true rfl) dX0_value_114 ⟨Nat.zero_le _, Nat.zero_le _⟩ rfl ?_
            refine rd_S (As := [.int (iZ (pwP v2 (Int.toNat (lPz c1)))), .int (iZ (pwP v3 (Int.toNat (if 0 ≤ ePz c1 then ePz c1 else -(ePz c1)))))]) (rest := []) (st1 := [.int (iZ ((pwP v2 (Int.toNat (lPz c1))) * (pwP v3 (Int.toNat (if 0 ≤ ePz c1 then ePz c1 else -(ePz c1)))) % 32003))]) S (k_X0_multiply l (pwP v2 (Int.toNat (lPz c1))) (pwP v3 (Int.toNat (if 0 ≤ ePz c1 then ePz c1 else -(ePz c1)))) (by omega) (by omega)) tb_319 tb_320 tb_1 tb_321 hd_X0_multiply ⟨rfl, rfl, by decide, by decide⟩ bl_T (fun _ _ _ => trivial) rfl hl.1 rfl (Nat.le_of_ble_eq_true rfl) dX0_value_117 ⟨Nat.zero_le _, Nat.zero_le _⟩ rfl ?_
            refine zi_top (fun v14 ev14 => ?_)
            refine lv_istore (lv' := [(16, .int (iZ v14)), (15, .int (iZ (ePz c1))), (0, .ref o), (1, .int (iZ f)), (8, .int (iZ v1)), (9, .int (iZ v2)), (10, .int (iZ v3)), (11, .int (iZ v11)), (12, .int (iZ v12)), (13, .int (iZ v)), (14, .int (iZ c1))]) hx hb dX0_value_120 hl (by decide) rfl (fun ls hl => ?_)
            have hkv : 0 ≤ v14 ∧ v14 < 32003 := by rw [ev14]; omega
            have hkm := mul_rng hkv (vxZ_rng F f c1 v1 v11)
            refine lv_iload hx hb dX0_value_122 (lv_at hl 9 rfl) ?_
            refine zi_i2l hx hb dX0_value_124 (by omega) ?_
            refine lv_iload hx hb dX0_value_125 (lv_at hl 0 rfl) ?_
            refine zi_i2l hx hb dX0_value_127 (by omega) ?_
            refine lv_aload_n hx hb dX0_value_128 rfl (lv_at hl 2 rfl) ?_
            refine lv_iload_n hx hb dX0_value_129 rfl (lv_at hl 3 rfl) ?_
            refine lv_iload hx hb dX0_value_130 (lv_at hl 10 rfl) ?_
            refine lv_iload hx hb dX0_value_132 (lv_at hl 4 rfl) ?_
            refine lv_iload hx hb dX0_value_134 (lv_at hl 7 rfl) ?_
            refine rd_V (As := [.int (iZ f), .int (iZ c1), .int (iZ v1), .int (iZ v11)]) (rest := [.long (lZ v14), .long (lZ v)]) (st1 := [.int (iZ (vxZ F f c1 v1 v11)), .long (lZ v14), .long (lZ v)]) S (k_X0_valueInX l D o q1 q2 cI tE tL F G k f c1 v1 v11 hF (by omega) (by omega) (by omega) (by omega)) tb_385 tb_387 ts_X0_valueInX tb_1 tb_388 hd_X0_valueInX ⟨rfl, rfl, by decide, by decide⟩ rX_bl (rX_mv hB) (rX_recv hB) rfl hl.1 rfl (Nat.le_of_ble_eq_true rfl) dX0_value_136 ⟨Nat.zero_le _, Nat.zero_le _⟩ rfl ?_
            have hvx139 := vxZ_rng F f c1 v1 v11
            refine zi_i2l hx hb dX0_value_139 (by omega) ?_
            refine zl_mul hx hb dX0_value_140 ?_
            refine zl_add hx hb dX0_value_141 ?_
            refine rd_S (As := [.long (lZ (v + (v14 * (vxZ F f c1 v1 v11))))]) (rest := []) (st1 := [.int (iZ ((v + (v14 * (vxZ F f c1 v1 v11))) % 32003))]) S (k_X0_reduce l (v + (v14 * (vxZ F f c1 v1 v11))) (by omega)) tb_157 tb_158 tb_1 tb_159 hd_X0_reduce ⟨rfl, rfl, by decide, by decide⟩ bl_T (fun _ _ _ => trivial) rfl hl.1 rfl (Nat.le_of_ble_eq_true rfl) dX0_value_142 ⟨Nat.zero_le _, Nat.zero_le _⟩ rfl ?_
            refine zi_top (fun v15 ev15 => ?_)
            refine lv_istore (lv' := [(13, .int (iZ v15)), (16, .int (iZ v14)), (15, .int (iZ (ePz c1))), (0, .ref o), (1, .int (iZ f)), (8, .int (iZ v1)), (9, .int (iZ v2)), (10, .int (iZ v3)), (11, .int (iZ v11)), (12, .int (iZ v12)), (14, .int (iZ c1))]) hx hb dX0_value_145 hl (by decide) rfl (fun ls hl => ?_)
            refine zi_inc (lv' := [(14, .int (iZ (c1 + 1))), (13, .int (iZ v15)), (16, .int (iZ v14)), (15, .int (iZ (ePz c1))), (0, .ref o), (1, .int (iZ f)), (8, .int (iZ v1)), (9, .int (iZ v2)), (10, .int (iZ v3)), (11, .int (iZ v11)), (12, .int (iZ v12))]) hx hb dX0_value_147 hl (k := 10) rfl (by decide) rfl (fun ls hl => ?_)
            refine lv_goto (tgt := 73) hx hb dX0_value_150 (by decide) ?_
            exact ih73 (m73 - 1) (v15, c1 + 1) (by omega) (by (try dsimp only); refine ⟨by omega, by omega, ?_⟩; rw [ev15]; exact su_step (by omega) hI73.2.2 (by rw [ev14]; unfold kvZ; rw [if_neg (show ¬ ePz c1 < 0 by omega)])) ls (lv_sub hl [4, 5, 6, 7, 8, 9, 10, 1, 0] rfl)
          · refine lv_iload hx hb dX0_value_102 (lv_at hl 7 rfl) ?_
            refine lv_goto (tgt := 109) hx hb dX0_value_104 (by decide) ?_
            refine lv_iload hx hb dX0_value_109 (lv_at hl 0 rfl) ?_
            refine va_mabs hx hb (by rw [hml]; exact hl.1.symm) hown (hT _ tb_382) (hT _ tb_383) (hT _ tb_9) (hT _ tb_384) (by decide) (Nat.le_of_ble_eq_true rfl) (Nat.zero_le _) (Nat.zero_le _) dX0_value_111 ?_
            refine zi_as (ab_at (z := ePz c1) (by omega)) ?_
            refine rd_S (As := [.int (iZ v12), .int (iZ (if 0 ≤ ePz c1 then ePz c1 else -(ePz c1)))]) (rest := [.int (iZ (pwP v2 (Int.toNat (lPz c1))))]) (st1 := [.int (iZ (pwP v12 (Int.toNat (if 0 ≤ ePz c1 then ePz c1 else -(ePz c1))))), .int (iZ (pwP v2 (Int.toNat (lPz c1))))]) S (k_X0_power l v12 (if 0 ≤ ePz c1 then ePz c1 else -(ePz c1)) (by omega) (by omega)) tb_316 tb_317 tb_1 tb_318 hd_X0_power ⟨rfl, rfl, by decide, by decide⟩ bl_T (fun _ _ _ => trivial) rfl hl.1 rfl (Nat.le_of_ble_eq_true rfl) dX0_value_114 ⟨Nat.zero_le _, Nat.zero_le _⟩ rfl ?_
            refine rd_S (As := [.int (iZ (pwP v2 (Int.toNat (lPz c1)))), .int (iZ (pwP v12 (Int.toNat (if 0 ≤ ePz c1 then ePz c1 else -(ePz c1)))))]) (rest := []) (st1 := [.int (iZ ((pwP v2 (Int.toNat (lPz c1))) * (pwP v12 (Int.toNat (if 0 ≤ ePz c1 then ePz c1 else -(ePz c1)))) % 32003))]) S (k_X0_multiply l (pwP v2 (Int.toNat (lPz c1))) (pwP v12 (Int.toNat (if 0 ≤ ePz c1 then ePz c1 else -(ePz c1)))) (by omega) (by omega)) tb_319 tb_320 tb_1 tb_321 hd_X0_multiply ⟨rfl, rfl, by decide, by decide⟩ bl_T (fun _ _ _ => trivial) rfl hl.1 rfl (Nat.le_of_ble_eq_true rfl) dX0_value_117 ⟨Nat.zero_le _, Nat.zero_le _⟩ rfl ?_
            refine zi_top (fun v16 ev16 => ?_)
            refine lv_istore (lv' := [(16, .int (iZ v16)), (15, .int (iZ (ePz c1))), (0, .ref o), (1, .int (iZ f)), (8, .int (iZ v1)), (9, .int (iZ v2)), (10, .int (iZ v3)), (11, .int (iZ v11)), (12, .int (iZ v12)), (13, .int (iZ v)), (14, .int (iZ c1))]) hx hb dX0_value_120 hl (by decide) rfl (fun ls hl => ?_)
            have hkv : 0 ≤ v16 ∧ v16 < 32003 := by rw [ev16]; omega
            have hkm := mul_rng hkv (vxZ_rng F f c1 v1 v11)
            refine lv_iload hx hb dX0_value_122 (lv_at hl 9 rfl) ?_
            refine zi_i2l hx hb dX0_value_124 (by omega) ?_
            refine lv_iload hx hb dX0_value_125 (lv_at hl 0 rfl) ?_
            refine zi_i2l hx hb dX0_value_127 (by omega) ?_
            refine lv_aload_n hx hb dX0_value_128 rfl (lv_at hl 2 rfl) ?_
            refine lv_iload_n hx hb dX0_value_129 rfl (lv_at hl 3 rfl) ?_
            refine lv_iload hx hb dX0_value_130 (lv_at hl 10 rfl) ?_
            refine lv_iload hx hb dX0_value_132 (lv_at hl 4 rfl) ?_
            refine lv_iload hx hb dX0_value_134 (lv_at hl 7 rfl) ?_
            refine rd_V (As := [.int (iZ f), .int (iZ c1), .int (iZ v1), .int (iZ v11)]) (rest := [.long (lZ v16), .long (lZ v)]) (st1 := [.int (iZ (vxZ F f c1 v1 v11)), .long (lZ v16), .long (lZ v)]) S (k_X0_valueInX l D o q1 q2 cI tE tL F G k f c1 v1 v11 hF (by omega) (by omega) (by omega) (by omega)) tb_385 tb_387 ts_X0_valueInX tb_1 tb_388 hd_X0_valueInX ⟨rfl, rfl, by decide, by decide⟩ rX_bl (rX_mv hB) (rX_recv hB) rfl hl.1 rfl (Nat.le_of_ble_eq_true rfl) dX0_value_136 ⟨Nat.zero_le _, Nat.zero_le _⟩ rfl ?_
            have hvx139 := vxZ_rng F f c1 v1 v11
            refine zi_i2l hx hb dX0_value_139 (by omega) ?_
            refine zl_mul hx hb dX0_value_140 ?_
            refine zl_add hx hb dX0_value_141 ?_
            refine rd_S (As := [.long (lZ (v + (v16 * (vxZ F f c1 v1 v11))))]) (rest := []) (st1 := [.int (iZ ((v + (v16 * (vxZ F f c1 v1 v11))) % 32003))]) S (k_X0_reduce l (v + (v16 * (vxZ F f c1 v1 v11))) (by omega)) tb_157 tb_158 tb_1 tb_159 hd_X0_reduce ⟨rfl, rfl, by decide, by decide⟩ bl_T (fun _ _ _ => trivial) rfl hl.1 rfl (Nat.le_of_ble_eq_true rfl) dX0_value_142 ⟨Nat.zero_le _, Nat.zero_le _⟩ rfl ?_
            refine zi_top (fun v17 ev17 => ?_)
            refine lv_istore (lv' := [(13, .int (iZ v17)), (16, .int (iZ v16)), (15, .int (iZ (ePz c1))), (0, .ref o), (1, .int (iZ f)), (8, .int (iZ v1)), (9, .int (iZ v2)), (10, .int (iZ v3)), (11, .int (iZ v11)), (12, .int (iZ v12)), (14, .int (iZ c1))]) hx hb dX0_value_145 hl (by decide) rfl (fun ls hl => ?_)
            refine zi_inc (lv' := [(14, .int (iZ (c1 + 1))), (13, .int (iZ v17)), (16, .int (iZ v16)), (15, .int (iZ (ePz c1))), (0, .ref o), (1, .int (iZ f)), (8, .int (iZ v1)), (9, .int (iZ v2)), (10, .int (iZ v3)), (11, .int (iZ v11)), (12, .int (iZ v12))]) hx hb dX0_value_147 hl (k := 10) rfl (by decide) rfl (fun ls hl => ?_)
            refine lv_goto (tgt := 73) hx hb dX0_value_150 (by decide) ?_
            exact ih73 (m73 - 1) (v17, c1 + 1) (by omega) (by (try dsimp only); refine ⟨by omega, by omega, ?_⟩; rw [ev17]; exact su_step (by omega) hI73.2.2 (by rw [ev16]; unfold kvZ; rw [if_pos (show ePz c1 < 0 by omega)])) ls (lv_sub hl [4, 5, 6, 7, 8, 9, 10, 1, 0] rfl)
      · refine zi_const hx hb (-1) dX0_value_51 ?_
        exact rd_iret hx hb hr hlk (congrArg (fun z => some (Value.int (iZ z))) (show (vlZ F f x1 l1 e1 : Int) = (-1) from by unfold vlZ; rw [if_pos (by omega)])) dX0_value_52
  · refine lv_aload_n hx hb dX0_value_30 rfl (lv_at hl 3 rfl) ?_
    refine lv_iload_n hx hb dX0_value_31 rfl (lv_at hl 4 rfl) ?_
    refine rd_V (As := [.int (iZ f)]) (rest := []) (st1 := [.int (iZ (dxZ F f))]) S (k_X0_dividesByX l D o q1 q2 cI tE tL F G k f hF (by omega)) tb_374 tb_376 ts_X0_dividesByX tb_1 tb_377 hd_X0_dividesByX ⟨rfl, rfl, by decide, by decide⟩ rX_bl (rX_mv hB) (rX_recv hB) rfl hl.1 rfl (Nat.le_of_ble_eq_true rfl) dX0_value_32 ⟨Nat.zero_le _, Nat.zero_le _⟩ rfl ?_
    have hdx35 := dxZ_or F f
    refine zi_fne (tgt := 51) hx hb dX0_value_35 (by decide) (by omega) (fun hc35 => ?_) (fun hc35 => ?_)
    · refine zi_const hx hb (-1) dX0_value_51 ?_
      exact rd_iret hx hb hr hlk (congrArg (fun z => some (Value.int (iZ z))) (show (vlZ F f x1 l1 e1 : Int) = (-1) from by unfold vlZ; rw [if_pos (by omega)])) dX0_value_52
    · refine lv_iload hx hb dX0_value_38 (lv_at hl 0 rfl) ?_
      refine zi_fne (tgt := 53) hx hb dX0_value_40 (by decide) (by omega) (fun hc40 => ?_) (fun hc40 => ?_)
      · have hq1 := pwP_rng v1 32001
        have hq2 := pwP_rng v3 32001
        refine lv_iload hx hb dX0_value_53 (lv_at hl 2 rfl) ?_
        refine rd_S (As := [.int (iZ v1)]) (rest := []) (st1 := [.int (iZ (pwP v1 32001))]) S (k_X0_inverse l v1 (by omega)) tb_313 tb_314 tb_1 tb_315 hd_X0_inverse ⟨rfl, rfl, by decide, by decide⟩ bl_T (fun _ _ _ => trivial) rfl hl.1 rfl (Nat.le_of_ble_eq_true rfl) dX0_value_55 ⟨Nat.zero_le _, Nat.zero_le _⟩ rfl ?_
        refine zi_top (fun v18 ev18 => ?_)
        refine lv_istore (lv' := [(11, .int (iZ v18)), (10, .int (iZ v3)), (9, .int (iZ v2)), (8, .int (iZ v1)), (0, .ref o), (1, .int (iZ f)), (2, .long (lZ x1)), (4, .long (lZ l1)), (6, .long (lZ e1))]) hx hb dX0_value_58 hl (by decide) rfl (fun ls hl => ?_)
        refine lv_iload hx hb dX0_value_60 (lv_at hl 1 rfl) ?_
        refine rd_S (As := [.int (iZ v3)]) (rest := []) (st1 := [.int (iZ (pwP v3 32001))]) S (k_X0_inverse l v3 (by omega)) tb_313 tb_314 tb_1 tb_315 hd_X0_inverse ⟨rfl, rfl, by decide, by decide⟩ bl_T (fun _ _ _ => trivial) rfl hl.1 rfl (Nat.le_of_ble_eq_true rfl) dX0_value_62 ⟨Nat.zero_le _, Nat.zero_le _⟩ rfl ?_
        refine zi_top (fun v19 ev19 => ?_)
        refine lv_istore (lv' := [(12, .int (iZ v19)), (11, .int (iZ v18)), (10, .int (iZ v3)), (9, .int (iZ v2)), (8, .int (iZ v1)), (0, .ref o), (1, .int (iZ f)), (2, .long (lZ x1)), (4, .long (lZ l1)), (6, .long (lZ e1))]) hx hb dX0_value_65 hl (by decide) rfl (fun ls hl => ?_)
        refine zi_const hx hb 0 dX0_value_67 ?_
        refine lv_istore (lv' := [(13, .int (iZ 0)), (12, .int (iZ v19)), (11, .int (iZ v18)), (10, .int (iZ v3)), (9, .int (iZ v2)), (8, .int (iZ v1)), (0, .ref o), (1, .int (iZ f)), (2, .long (lZ x1)), (4, .long (lZ l1)), (6, .long (lZ e1))]) hx hb dX0_value_68 hl (by decide) rfl (fun ls hl => ?_)
        refine zi_const hx hb 0 dX0_value_70 ?_
        refine lv_istore (lv' := [(14, .int (iZ 0)), (13, .int (iZ 0)), (12, .int (iZ v19)), (11, .int (iZ v18)), (10, .int (iZ v3)), (9, .int (iZ v2)), (8, .int (iZ v1)), (0, .ref o), (1, .int (iZ f)), (2, .long (lZ x1)), (4, .long (lZ l1)), (6, .long (lZ e1))]) hx hb dX0_value_71 hl (by decide) rfl (fun ls hl => ?_)
        refine lp_go (nL := 17) (α := Int × Int) (fun z => [(0, .ref o), (1, .int (iZ f)), (8, .int (iZ v1)), (9, .int (iZ v2)), (10, .int (iZ v3)), (11, .int (iZ v18)), (12, .int (iZ v19)), (13, .int (iZ z.1)), (14, .int (iZ z.2))]) (fun m73 z => 0 ≤ z.2 ∧ z.2 + (m73 : Int) = 8 ∧ z.1 = suZ F f v1 v2 v3 v18 v19 z.2.toNat) ?_ 8 ((0 : Int), (0 : Int)) (by (try dsimp only); exact ⟨by omega, by omega, rfl⟩) ls (lv_sub hl [7, 8, 6, 5, 4, 3, 2, 1, 0] rfl)
        intro m73 z20 hI73 ih73 ls hl
        obtain ⟨v, c1⟩ := z20
        have hl : lv_has ls 17 [(0, .ref o), (1, .int (iZ f)), (8, .int (iZ v1)), (9, .int (iZ v2)), (10, .int (iZ v3)), (11, .int (iZ v18)), (12, .int (iZ v19)), (13, .int (iZ v)), (14, .int (iZ c1))] := hl
        have hI73 : 0 ≤ c1 ∧ c1 + (m73 : Int) = 8 ∧ v = suZ F f v1 v2 v3 v18 v19 c1.toNat := hI73
        have hel := lPz_rng c1
        have hee := ePz_rng c1
        have hvr := suZ_rng F f v1 v2 v3 v18 v19 c1.toNat
        rw [← hI73.2.2] at hvr
        have hp1 := pwP_rng v2 (lPz c1).toNat
        have hp2 := pwP_rng v19 (Int.toNat (if 0 ≤ ePz c1 then ePz c1 else -ePz c1))
        have hp3 := pwP_rng v3 (Int.toNat (if 0 ≤ ePz c1 then ePz c1 else -ePz c1))
        have hab : 0 ≤ (if 0 ≤ ePz c1 then ePz c1 else -ePz c1) ∧ (if 0 ≤ ePz c1 then ePz c1 else -ePz c1) ≤ 2 := by split <;> omega
        refine lv_iload hx hb dX0_value_73 (lv_at hl 8 rfl) ?_
        refine zi_bi hx hb 8 dX0_value_75 (by decide) ?_
        refine zi_cge (tgt := 153) hx hb dX0_value_77 (by decide) (by omega) (by omega) (fun hc77 => ?_) (fun hc77 => ?_)
        · refine lv_iload hx hb dX0_value_153 (lv_at hl 7 rfl) ?_
          exact rd_iret hx hb hr hlk (congrArg (fun z => some (Value.int (iZ z))) (show (vlZ F f x1 l1 e1 : Int) = v from by unfold vlZ; rw [if_neg (by omega), hI73.2.2, show c1.toNat = 8 by omega, ev18, ev19, ev1, ev2, ev3])) dX0_value_155
        · refine lv_iload hx hb dX0_value_80 (lv_at hl 8 rfl) ?_
          refine rd_S (As := [.int (iZ c1)]) (rest := []) (st1 := [.int (iZ (ePz c1))]) S (k_X0_exponentialPower l tE tL c1 (by omega)) tb_239 tb_240 tb_1 tb_241 hd_X0_exponentialPower ⟨rfl, rfl, by decide, by decide⟩ sB_bl (sB_mv hsX) rfl hl.1 rfl (Nat.le_of_ble_eq_true rfl) dX0_value_82 ⟨Nat.zero_le _, Nat.zero_le _⟩ rfl ?_
          refine lv_istore (lv' := [(15, .int (iZ (ePz c1))), (0, .ref o), (1, .int (iZ f)), (8, .int (iZ v1)), (9, .int (iZ v2)), (10, .int (iZ v3)), (11, .int (iZ v18)), (12, .int (iZ v19)), (13, .int (iZ v)), (14, .int (iZ c1))]) hx hb dX0_value_85 hl (by decide) rfl (fun ls hl => ?_)
          refine lv_iload hx hb dX0_value_87 (lv_at hl 4 rfl) ?_
          refine lv_iload hx hb dX0_value_89 (lv_at hl 9 rfl) ?_
          refine rd_S (As := [.int (iZ c1)]) (rest := [.int (iZ v2)]) (st1 := [.int (iZ (lPz c1)), .int (iZ v2)]) S (k_X0_logPower l tE tL c1 (by omega)) tb_244 tb_245 tb_1 tb_246 hd_X0_logPower ⟨rfl, rfl, by decide, by decide⟩ sB_bl (sB_mv hsX) rfl hl.1 rfl (Nat.le_of_ble_eq_true rfl) dX0_value_91 ⟨Nat.zero_le _, Nat.zero_le _⟩ rfl ?_
          refine rd_S (As := [.int (iZ v2), .int (iZ (lPz c1))]) (rest := []) (st1 := [.int (iZ (pwP v2 (Int.toNat (lPz c1))))]) S (k_X0_power l v2 (lPz c1) (by omega) (by omega)) tb_316 tb_317 tb_1 tb_318 hd_X0_power ⟨rfl, rfl, by decide, by decide⟩ bl_T (fun _ _ _ => trivial) rfl hl.1 rfl (Nat.le_of_ble_eq_true rfl) dX0_value_94 ⟨Nat.zero_le _, Nat.zero_le _⟩ rfl ?_
          refine lv_iload hx hb dX0_value_97 (lv_at hl 0 rfl) ?_
          refine zi_fge (tgt := 107) hx hb dX0_value_99 (by decide) (by omega) (fun hc99 => ?_) (fun hc99 => ?_)
          · refine lv_iload hx hb dX0_value_107 (lv_at hl 5 rfl) ?_
            refine lv_iload hx hb dX0_value_109 (lv_at hl 0 rfl) ?_
            refine va_mabs hx hb (by rw [hml]; exact hl.1.symm) hown (hT _ tb_382) (hT _ tb_383) (hT _ tb_9) (hT _ tb_384) (by decide) (Nat.le_of_ble_eq_true rfl) (Nat.zero_le _) (Nat.zero_le _) dX0_value_111 ?_
            refine zi_as (ab_at (z := ePz c1) (by omega)) ?_
            refine rd_S (As := [.int (iZ v3), .int (iZ (if 0 ≤ ePz c1 then ePz c1 else -(ePz c1)))]) (rest := [.int (iZ (pwP v2 (Int.toNat (lPz c1))))]) (st1 := [.int (iZ (pwP v3 (Int.toNat (if 0 ≤ ePz c1 then ePz c1 else -(ePz c1))))), .int (iZ (pwP v2 (Int.toNat (lPz c1))))]) S (k_X0_power l v3 (if 0 ≤ ePz c1 then ePz c1 else -(ePz c1)) (by omega) (by omega)) tb_316 tb_317 tb_1 tb_318 hd_X0_power ⟨rfl, rfl, by decide, by decide⟩ bl_T (fun _ _ _ => trivial) rfl hl.1 rfl (Nat.le_of_ble_eq_true rfl) dX0_value_114 ⟨Nat.zero_le _, Nat.zero_le _⟩ rfl ?_
            refine rd_S (As := [.int (iZ (pwP v2 (Int.toNat (lPz c1)))), .int (iZ (pwP v3 (Int.toNat (if 0 ≤ ePz c1 then ePz c1 else -(ePz c1)))))]) (rest := []) (st1 := [.int (iZ ((pwP v2 (Int.toNat (lPz c1))) * (pwP v3 (Int.toNat (if 0 ≤ ePz c1 then ePz c1 else -(ePz c1)))) % 32003))]) S (k_X0_multiply l (pwP v2 (Int.toNat (lPz c1))) (pwP v3 (Int.toNat (if 0 ≤ ePz c1 then ePz c1 else -(ePz c1)))) (by omega) (by omega)) tb_319 tb_320 tb_1 tb_321 hd_X0_multiply ⟨rfl, rfl, by decide, by decide⟩ bl_T (fun _ _ _ => trivial) rfl hl.1 rfl (Nat.le_of_ble_eq_true rfl) dX0_value_117 ⟨Nat.zero_le _, Nat.zero_le _⟩ rfl ?_
            refine zi_top (fun v21 ev21 => ?_)
            refine lv_istore (lv' := [(16, .int (iZ v21)), (15, .int (iZ (ePz c1))), (0, .ref o), (1, .int (iZ f)), (8, .int (iZ v1)), (9, .int (iZ v2)), (10, .int (iZ v3)), (11, .int (iZ v18)), (12, .int (iZ v19)), (13, .int (iZ v)), (14, .int (iZ c1))]) hx hb dX0_value_120 hl (by decide) rfl (fun ls hl => ?_)
            have hkv : 0 ≤ v21 ∧ v21 < 32003 := by rw [ev21]; omega
            have hkm := mul_rng hkv (vxZ_rng F f c1 v1 v18)
            refine lv_iload hx hb dX0_value_122 (lv_at hl 9 rfl) ?_
            refine zi_i2l hx hb dX0_value_124 (by omega) ?_
            refine lv_iload hx hb dX0_value_125 (lv_at hl 0 rfl) ?_
            refine zi_i2l hx hb dX0_value_127 (by omega) ?_
            refine lv_aload_n hx hb dX0_value_128 rfl (lv_at hl 2 rfl) ?_
            refine lv_iload_n hx hb dX0_value_129 rfl (lv_at hl 3 rfl) ?_
            refine lv_iload hx hb dX0_value_130 (lv_at hl 10 rfl) ?_
            refine lv_iload hx hb dX0_value_132 (lv_at hl 4 rfl) ?_
            refine lv_iload hx hb dX0_value_134 (lv_at hl 7 rfl) ?_
            refine rd_V (As := [.int (iZ f), .int (iZ c1), .int (iZ v1), .int (iZ v18)]) (rest := [.long (lZ v21), .long (lZ v)]) (st1 := [.int (iZ (vxZ F f c1 v1 v18)), .long (lZ v21), .long (lZ v)]) S (k_X0_valueInX l D o q1 q2 cI tE tL F G k f c1 v1 v18 hF (by omega) (by omega) (by omega) (by omega)) tb_385 tb_387 ts_X0_valueInX tb_1 tb_388 hd_X0_valueInX ⟨rfl, rfl, by decide, by decide⟩ rX_bl (rX_mv hB) (rX_recv hB) rfl hl.1 rfl (Nat.le_of_ble_eq_true rfl) dX0_value_136 ⟨Nat.zero_le _, Nat.zero_le _⟩ rfl ?_
            have hvx139 := vxZ_rng F f c1 v1 v18
            refine zi_i2l hx hb dX0_value_139 (by omega) ?_
            refine zl_mul hx hb dX0_value_140 ?_
            refine zl_add hx hb dX0_value_141 ?_
            refine rd_S (As := [.long (lZ (v + (v21 * (vxZ F f c1 v1 v18))))]) (rest := []) (st1 := [.int (iZ ((v + (v21 * (vxZ F f c1 v1 v18))) % 32003))]) S (k_X0_reduce l (v + (v21 * (vxZ F f c1 v1 v18))) (by omega)) tb_157 tb_158 tb_1 tb_159 hd_X0_reduce ⟨rfl, rfl, by decide, by decide⟩ bl_T (fun _ _ _ => trivial) rfl hl.1 rfl (Nat.le_of_ble_eq_true rfl) dX0_value_142 ⟨Nat.zero_le _, Nat.zero_le _⟩ rfl ?_
            refine zi_top (fun v22 ev22 => ?_)
            refine lv_istore (lv' := [(13, .int (iZ v22)), (16, .int (iZ v21)), (15, .int (iZ (ePz c1))), (0, .ref o), (1, .int (iZ f)), (8, .int (iZ v1)), (9, .int (iZ v2)), (10, .int (iZ v3)), (11, .int (iZ v18)), (12, .int (iZ v19)), (14, .int (iZ c1))]) hx hb dX0_value_145 hl (by decide) rfl (fun ls hl => ?_)
            refine zi_inc (lv' := [(14, .int (iZ (c1 + 1))), (13, .int (iZ v22)), (16, .int (iZ v21)), (15, .int (iZ (ePz c1))), (0, .ref o), (1, .int (iZ f)), (8, .int (iZ v1)), (9, .int (iZ v2)), (10, .int (iZ v3)), (11, .int (iZ v18)), (12, .int (iZ v19))]) hx hb dX0_value_147 hl (k := 10) rfl (by decide) rfl (fun ls hl => ?_)
            refine lv_goto (tgt := 73) hx hb dX0_value_150 (by decide) ?_
            exact ih73 (m73 - 1) (v22, c1 + 1) (by omega) (by (try dsimp only); refine ⟨by omega, by omega, ?_⟩; rw [ev22]; exact su_step (by omega) hI73.2.2 (by rw [ev21]; unfold kvZ; rw [if_neg (show ¬ ePz c1 < 0 by omega)])) ls (lv_sub hl [4, 5, 6, 7, 8, 9, 10, 1, 0] rfl)
          · refine lv_iload hx hb dX0_value_102 (lv_at hl 7 rfl) ?_
            refine lv_goto (tgt := 109) hx hb dX0_value_104 (by decide) ?_
            refine lv_iload hx hb dX0_value_109 (lv_at hl 0 rfl) ?_
            refine va_mabs hx hb (by rw [hml]; exact hl.1.symm) hown (hT _ tb_382) (hT _ tb_383) (hT _ tb_9) (hT _ tb_384) (by decide) (Nat.le_of_ble_eq_true rfl) (Nat.zero_le _) (Nat.zero_le _) dX0_value_111 ?_
            refine zi_as (ab_at (z := ePz c1) (by omega)) ?_
            refine rd_S (As := [.int (iZ v19), .int (iZ (if 0 ≤ ePz c1 then ePz c1 else -(ePz c1)))]) (rest := [.int (iZ (pwP v2 (Int.toNat (lPz c1))))]) (st1 := [.int (iZ (pwP v19 (Int.toNat (if 0 ≤ ePz c1 then ePz c1 else -(ePz c1))))), .int (iZ (pwP v2 (Int.toNat (lPz c1))))]) S (k_X0_power l v19 (if 0 ≤ ePz c1 then ePz c1 else -(ePz c1)) (by omega) (by omega)) tb_316 tb_317 tb_1 tb_318 hd_X0_power ⟨rfl, rfl, by decide, by decide⟩ bl_T (fun _ _ _ => trivial) rfl hl.1 rfl (Nat.le_of_ble_eq_true rfl) dX0_value_114 ⟨Nat.zero_le _, Nat.zero_le _⟩ rfl ?_
            refine rd_S (As := [.int (iZ (pwP v2 (Int.toNat (lPz c1)))), .int (iZ (pwP v19 (Int.toNat (if 0 ≤ ePz c1 then ePz c1 else -(ePz c1)))))]) (rest := []) (st1 := [.int (iZ ((pwP v2 (Int.toNat (lPz c1))) * (pwP v19 (Int.toNat (if 0 ≤ ePz c1 then ePz c1 else -(ePz c1)))) % 32003))]) S (k_X0_multiply l (pwP v2 (Int.toNat (lPz c1))) (pwP v19 (Int.toNat (if 0 ≤ ePz c1 then ePz c1 else -(ePz c1)))) (by omega) (by omega)) tb_319 tb_320 tb_1 tb_321 hd_X0_multiply ⟨rfl, rfl, by decide, by decide⟩ bl_T (fun _ _ _ => trivial) rfl hl.1 rfl (Nat.le_of_ble_eq_true rfl) dX0_value_117 ⟨Nat.zero_le _, Nat.zero_le _⟩ rfl ?_
            refine zi_top (fun v23 ev23 => ?_)
            refine lv_istore (lv' := [(16, .int (iZ v23)), (15, .int (iZ (ePz c1))), (0, .ref o), (1, .int (iZ f)), (8, .int (iZ v1)), (9, .int (iZ v2)), (10, .int (iZ v3)), (11, .int (iZ v18)), (12, .int (iZ v19)), (13, .int (iZ v)), (14, .int (iZ c1))]) hx hb dX0_value_120 hl (by decide) rfl (fun ls hl => ?_)
            have hkv : 0 ≤ v23 ∧ v23 < 32003 := by rw [ev23]; omega
            have hkm := mul_rng hkv (vxZ_rng F f c1 v1 v18)
            refine lv_iload hx hb dX0_value_122 (lv_at hl 9 rfl) ?_
            refine zi_i2l hx hb dX0_value_124 (by omega) ?_
            refine lv_iload hx hb dX0_value_125 (lv_at hl 0 rfl) ?_
            refine zi_i2l hx hb dX0_value_127 (by omega) ?_
            refine lv_aload_n hx hb dX0_value_128 rfl (lv_at hl 2 rfl) ?_
            refine lv_iload_n hx hb dX0_value_129 rfl (lv_at hl 3 rfl) ?_
            refine lv_iload hx hb dX0_value_130 (lv_at hl 10 rfl) ?_
            refine lv_iload hx hb dX0_value_132 (lv_at hl 4 rfl) ?_
            refine lv_iload hx hb dX0_value_134 (lv_at hl 7 rfl) ?_
            refine rd_V (As := [.int (iZ f), .int (iZ c1), .int (iZ v1), .int (iZ v18)]) (rest := [.long (lZ v23), .long (lZ v)]) (st1 := [.int (iZ (vxZ F f c1 v1 v18)), .long (lZ v23), .long (lZ v)]) S (k_X0_valueInX l D o q1 q2 cI tE tL F G k f c1 v1 v18 hF (by omega) (by omega) (by omega) (by omega)) tb_385 tb_387 ts_X0_valueInX tb_1 tb_388 hd_X0_valueInX ⟨rfl, rfl, by decide, by decide⟩ rX_bl (rX_mv hB) (rX_recv hB) rfl hl.1 rfl (Nat.le_of_ble_eq_true rfl) dX0_value_136 ⟨Nat.zero_le _, Nat.zero_le _⟩ rfl ?_
            have hvx139 := vxZ_rng F f c1 v1 v18
            refine zi_i2l hx hb dX0_value_139 (by omega) ?_
            refine zl_mul hx hb dX0_value_140 ?_
            refine zl_add hx hb dX0_value_141 ?_
            refine rd_S (As := [.long (lZ (v + (v23 * (vxZ F f c1 v1 v18))))]) (rest := []) (st1 := [.int (iZ ((v + (v23 * (vxZ F f c1 v1 v18))) % 32003))]) S (k_X0_reduce l (v + (v23 * (vxZ F f c1 v1 v18))) (by omega)) tb_157 tb_158 tb_1 tb_159 hd_X0_reduce ⟨rfl, rfl, by decide, by decide⟩ bl_T (fun _ _ _ => trivial) rfl hl.1 rfl (Nat.le_of_ble_eq_true rfl) dX0_value_142 ⟨Nat.zero_le _, Nat.zero_le _⟩ rfl ?_
            refine zi_top (fun v24 ev24 => ?_)
            refine lv_istore (lv' := [(13, .int (iZ v24)), (16, .int (iZ v23)), (15, .int (iZ (ePz c1))), (0, .ref o), (1, .int (iZ f)), (8, .int (iZ v1)), (9, .int (iZ v2)), (10, .int (iZ v3)), (11, .int (iZ v18)), (12, .int (iZ v19)), (14, .int (iZ c1))]) hx hb dX0_value_145 hl (by decide) rfl (fun ls hl => ?_)
            refine zi_inc (lv' := [(14, .int (iZ (c1 + 1))), (13, .int (iZ v24)), (16, .int (iZ v23)), (15, .int (iZ (ePz c1))), (0, .ref o), (1, .int (iZ f)), (8, .int (iZ v1)), (9, .int (iZ v2)), (10, .int (iZ v3)), (11, .int (iZ v18)), (12, .int (iZ v19))]) hx hb dX0_value_147 hl (k := 10) rfl (by decide) rfl (fun ls hl => ?_)
            refine lv_goto (tgt := 73) hx hb dX0_value_150 (by decide) ?_
            exact ih73 (m73 - 1) (v24, c1 + 1) (by omega) (by (try dsimp only); refine ⟨by omega, by omega, ?_⟩; rw [ev24]; exact su_step (by omega) hI73.2.2 (by rw [ev23]; unfold kvZ; rw [if_pos (show ePz c1 < 0 by omega)])) ls (lv_sub hl [4, 5, 6, 7, 8, 9, 10, 1, 0] rfl)
      · refine lv_aload_n hx hb dX0_value_43 rfl (lv_at hl 3 rfl) ?_
        refine lv_iload_n hx hb dX0_value_44 rfl (lv_at hl 4 rfl) ?_
        refine rd_V (As := [.int (iZ f)]) (rest := []) (st1 := [.int (iZ (deZ F f))]) S (k_X0_dividesByE l D o q1 q2 cI tE tL F G k f hF (by omega)) tb_378 tb_380 ts_X0_dividesByE tb_1 tb_381 hd_X0_dividesByE ⟨rfl, rfl, by decide, by decide⟩ rX_bl (rX_mv hB) (rX_recv hB) rfl hl.1 rfl (Nat.le_of_ble_eq_true rfl) dX0_value_45 ⟨Nat.zero_le _, Nat.zero_le _⟩ rfl ?_
        have hde48 := deZ_or F f
        refine zi_feq (tgt := 53) hx hb dX0_value_48 (by decide) (by omega) (fun hc48 => ?_) (fun hc48 => ?_)
        · have hq1 := pwP_rng v1 32001
          have hq2 := pwP_rng v3 32001
          refine lv_iload hx hb dX0_value_53 (lv_at hl 2 rfl) ?_
          refine rd_S (As := [.int (iZ v1)]) (rest := []) (st1 := [.int (iZ (pwP v1 32001))]) S (k_X0_inverse l v1 (by omega)) tb_313 tb_314 tb_1 tb_315 hd_X0_inverse ⟨rfl, rfl, by decide, by decide⟩ bl_T (fun _ _ _ => trivial) rfl hl.1 rfl (Nat.le_of_ble_eq_true rfl) dX0_value_55 ⟨Nat.zero_le _, Nat.zero_le _⟩ rfl ?_
          refine zi_top (fun v25 ev25 => ?_)
          refine lv_istore (lv' := [(11, .int (iZ v25)), (10, .int (iZ v3)), (9, .int (iZ v2)), (8, .int (iZ v1)), (0, .ref o), (1, .int (iZ f)), (2, .long (lZ x1)), (4, .long (lZ l1)), (6, .long (lZ e1))]) hx hb dX0_value_58 hl (by decide) rfl (fun ls hl => ?_)
          refine lv_iload hx hb dX0_value_60 (lv_at hl 1 rfl) ?_
          refine rd_S (As := [.int (iZ v3)]) (rest := []) (st1 := [.int (iZ (pwP v3 32001))]) S (k_X0_inverse l v3 (by omega)) tb_313 tb_314 tb_1 tb_315 hd_X0_inverse ⟨rfl, rfl, by decide, by decide⟩ bl_T (fun _ _ _ => trivial) rfl hl.1 rfl (Nat.le_of_ble_eq_true rfl) dX0_value_62 ⟨Nat.zero_le _, Nat.zero_le _⟩ rfl ?_
          refine zi_top (fun v26 ev26 => ?_)
          refine lv_istore (lv' := [(12, .int (iZ v26)), (11, .int (iZ v25)), (10, .int (iZ v3)), (9, .int (iZ v2)), (8, .int (iZ v1)), (0, .ref o), (1, .int (iZ f)), (2, .long (lZ x1)), (4, .long (lZ l1)), (6, .long (lZ e1))]) hx hb dX0_value_65 hl (by decide) rfl (fun ls hl => ?_)
          refine zi_const hx hb 0 dX0_value_67 ?_
          refine lv_istore (lv' := [(13, .int (iZ 0)), (12, .int (iZ v26)), (11, .int (iZ v25)), (10, .int (iZ v3)), (9, .int (iZ v2)), (8, .int (iZ v1)), (0, .ref o), (1, .int (iZ f)), (2, .long (lZ x1)), (4, .long (lZ l1)), (6, .long (lZ e1))]) hx hb dX0_value_68 hl (by decide) rfl (fun ls hl => ?_)
          refine zi_const hx hb 0 dX0_value_70 ?_
          refine lv_istore (lv' := [(14, .int (iZ 0)), (13, .int (iZ 0)), (12, .int (iZ v26)), (11, .int (iZ v25)), (10, .int (iZ v3)), (9, .int (iZ v2)), (8, .int (iZ v1)), (0, .ref o), (1, .int (iZ f)), (2, .long (lZ x1)), (4, .long (lZ l1)), (6, .long (lZ e1))]) hx hb dX0_value_71 hl (by decide) rfl (fun ls hl => ?_)
          refine lp_go (nL := 17) (α := Int × Int) (fun z => [(0, .ref o), (1, .int (iZ f)), (8, .int (iZ v1)), (9, .int (iZ v2)), (10, .int (iZ v3)), (11, .int (iZ v25)), (12, .int (iZ v26)), (13, .int (iZ z.1)), (14, .int (iZ z.2))]) (fun m73 z => 0 ≤ z.2 ∧ z.2 + (m73 : Int) = 8 ∧ z.1 = suZ F f v1 v2 v3 v25 v26 z.2.toNat) ?_ 8 ((0 : Int), (0 : Int)) (by (try dsimp only); exact ⟨by omega, by omega, rfl⟩) ls (lv_sub hl [7, 8, 6, 5, 4, 3, 2, 1, 0] rfl)
          intro m73 z27 hI73 ih73 ls hl
          obtain ⟨v, c1⟩ := z27
          have hl : lv_has ls 17 [(0, .ref o), (1, .int (iZ f)), (8, .int (iZ v1)), (9, .int (iZ v2)), (10, .int (iZ v3)), (11, .int (iZ v25)), (12, .int (iZ v26)), (13, .int (iZ v)), (14, .int (iZ c1))] := hl
          have hI73 : 0 ≤ c1 ∧ c1 + (m73 : Int) = 8 ∧ v = suZ F f v1 v2 v3 v25 v26 c1.toNat := hI73
          have hel := lPz_rng c1
          have hee := ePz_rng c1
          have hvr := suZ_rng F f v1 v2 v3 v25 v26 c1.toNat
          rw [← hI73.2.2] at hvr
          have hp1 := pwP_rng v2 (lPz c1).toNat
          have hp2 := pwP_rng v26 (Int.toNat (if 0 ≤ ePz c1 then ePz c1 else -ePz c1))
          have hp3 := pwP_rng v3 (Int.toNat (if 0 ≤ ePz c1 then ePz c1 else -ePz c1))
          have hab : 0 ≤ (if 0 ≤ ePz c1 then ePz c1 else -ePz c1) ∧ (if 0 ≤ ePz c1 then ePz c1 else -ePz c1) ≤ 2 := by split <;> omega
          refine lv_iload hx hb dX0_value_73 (lv_at hl 8 rfl) ?_
          refine zi_bi hx hb 8 dX0_value_75 (by decide) ?_
          refine zi_cge (tgt := 153) hx hb dX0_value_77 (by decide) (by omega) (by omega) (fun hc77 => ?_) (fun hc77 => ?_)
          · refine lv_iload hx hb dX0_value_153 (lv_at hl 7 rfl) ?_
            exact rd_iret hx hb hr hlk (congrArg (fun z => some (Value.int (iZ z))) (show (vlZ F f x1 l1 e1 : Int) = v from by unfold vlZ; rw [if_neg (by omega), hI73.2.2, show c1.toNat = 8 by omega, ev25, ev26, ev1, ev2, ev3])) dX0_value_155
          · refine lv_iload hx hb dX0_value_80 (lv_at hl 8 rfl) ?_
            refine rd_S (As := [.int (iZ c1)]) (rest := []) (st1 := [.int (iZ (ePz c1))]) S (k_X0_exponentialPower l tE tL c1 (by omega)) tb_239 tb_240 tb_1 tb_241 hd_X0_exponentialPower ⟨rfl, rfl, by decide, by decide⟩ sB_bl (sB_mv hsX) rfl hl.1 rfl (Nat.le_of_ble_eq_true rfl) dX0_value_82 ⟨Nat.zero_le _, Nat.zero_le _⟩ rfl ?_
            refine lv_istore (lv' := [(15, .int (iZ (ePz c1))), (0, .ref o), (1, .int (iZ f)), (8, .int (iZ v1)), (9, .int (iZ v2)), (10, .int (iZ v3)), (11, .int (iZ v25)), (12, .int (iZ v26)), (13, .int (iZ v)), (14, .int (iZ c1))]) hx hb dX0_value_85 hl (by decide) rfl (fun ls hl => ?_)
            refine lv_iload hx hb dX0_value_87 (lv_at hl 4 rfl) ?_
            refine lv_iload hx hb dX0_value_89 (lv_at hl 9 rfl) ?_
            refine rd_S (As := [.int (iZ c1)]) (rest := [.int (iZ v2)]) (st1 := [.int (iZ (lPz c1)), .int (iZ v2)]) S (k_X0_logPower l tE tL c1 (by omega)) tb_244 tb_245 tb_1 tb_246 hd_X0_logPower ⟨rfl, rfl, by decide, by decide⟩ sB_bl (sB_mv hsX) rfl hl.1 rfl (Nat.le_of_ble_eq_true rfl) dX0_value_91 ⟨Nat.zero_le _, Nat.zero_le _⟩ rfl ?_
            refine rd_S (As := [.int (iZ v2), .int (iZ (lPz c1))]) (rest := []) (st1 := [.int (iZ (pwP v2 (Int.toNat (lPz c1))))]) S (k_X0_power l v2 (lPz c1) (by omega) (by omega)) tb_316 tb_317 tb_1 tb_318 hd_X0_power ⟨rfl, rfl, by decide, by decide⟩ bl_T (fun _ _ _ => trivial) rfl hl.1 rfl (Nat.le_of_ble_eq_true rfl) dX0_value_94 ⟨Nat.zero_le _, Nat.zero_le _⟩ rfl ?_
            refine lv_iload hx hb dX0_value_97 (lv_at hl 0 rfl) ?_
            refine zi_fge (tgt := 107) hx hb dX0_value_99 (by decide) (by omega) (fun hc99 => ?_) (fun hc99 => ?_)
            · refine lv_iload hx hb dX0_value_107 (lv_at hl 5 rfl) ?_
              refine lv_iload hx hb dX0_value_109 (lv_at hl 0 rfl) ?_
              refine va_mabs hx hb (by rw [hml]; exact hl.1.symm) hown (hT _ tb_382) (hT _ tb_383) (hT _ tb_9) (hT _ tb_384) (by decide) (Nat.le_of_ble_eq_true rfl) (Nat.zero_le _) (Nat.zero_le _) dX0_value_111 ?_
              refine zi_as (ab_at (z := ePz c1) (by omega)) ?_
              refine rd_S (As := [.int (iZ v3), .int (iZ (if 0 ≤ ePz c1 then ePz c1 else -(ePz c1)))]) (rest := [.int (iZ (pwP v2 (Int.toNat (lPz c1))))]) (st1 := [.int (iZ (pwP v3 (Int.toNat (if 0 ≤ ePz c1 then ePz c1 else -(ePz c1))))), .int (iZ (pwP v2 (Int.toNat (lPz c1))))]) S (k_X0_power l v3 (if 0 ≤ ePz c1 then ePz c1 else -(ePz c1)) (by omega) (by omega)) tb_316 tb_317 tb_1 tb_318 hd_X0_power ⟨rfl, rfl, by decide, by decide⟩ bl_T (fun _ _ _ => trivial) rfl hl.1 rfl (Nat.le_of_ble_eq_true rfl) dX0_value_114 ⟨Nat.zero_le _, Nat.zero_le _⟩ rfl ?_
              refine rd_S (As := [.int (iZ (pwP v2 (Int.toNat (lPz c1)))), .int (iZ (pwP v3 (Int.toNat (if 0 ≤ ePz c1 then ePz c1 else -(ePz c1)))))]) (rest := []) (st1 := [.int (iZ ((pwP v2 (Int.toNat (lPz c1))) * (pwP v3 (Int.toNat (if 0 ≤ ePz c1 then ePz c1 else -(ePz c1)))) % 32003))]) S (k_X0_multiply l (pwP v2 (Int.toNat (lPz c1))) (pwP v3 (Int.toNat (if 0 ≤ ePz c1 then ePz c1 else -(ePz c1)))) (by omega) (by omega)) tb_319 tb_320 tb_1 tb_321 hd_X0_multiply ⟨rfl, rfl, by decide, by decide⟩ bl_T (fun _ _ _ => trivial) rfl hl.1 rfl (Nat.le_of_ble_eq_true rfl) dX0_value_117 ⟨Nat.zero_le _, Nat.zero_le _⟩ rfl ?_
              refine zi_top (fun v28 ev28 => ?_)
              refine lv_istore (lv' := [(16, .int (iZ v28)), (15, .int (iZ (ePz c1))), (0, .ref o), (1, .int (iZ f)), (8, .int (iZ v1)), (9, .int (iZ v2)), (10, .int (iZ v3)), (11, .int (iZ v25)), (12, .int (iZ v26)), (13, .int (iZ v)), (14, .int (iZ c1))]) hx hb dX0_value_120 hl (by decide) rfl (fun ls hl => ?_)
              have hkv : 0 ≤ v28 ∧ v28 < 32003 := by rw [ev28]; omega
              have hkm := mul_rng hkv (vxZ_rng F f c1 v1 v25)
              refine lv_iload hx hb dX0_value_122 (lv_at hl 9 rfl) ?_
              refine zi_i2l hx hb dX0_value_124 (by omega) ?_
              refine lv_iload hx hb dX0_value_125 (lv_at hl 0 rfl) ?_
              refine zi_i2l hx hb dX0_value_127 (by omega) ?_
              refine lv_aload_n hx hb dX0_value_128 rfl (lv_at hl 2 rfl) ?_
              refine lv_iload_n hx hb dX0_value_129 rfl (lv_at hl 3 rfl) ?_
              refine lv_iload hx hb dX0_value_130 (lv_at hl 10 rfl) ?_
              refine lv_iload hx hb dX0_value_132 (lv_at hl 4 rfl) ?_
              refine lv_iload hx hb dX0_value_134 (lv_at hl 7 rfl) ?_
              refine rd_V (As := [.int (iZ f), .int (iZ c1), .int (iZ v1), .int (iZ v25)]) (rest := [.long (lZ v28), .long (lZ v)]) (st1 := [.int (iZ (vxZ F f c1 v1 v25)), .long (lZ v28), .long (lZ v)]) S (k_X0_valueInX l D o q1 q2 cI tE tL F G k f c1 v1 v25 hF (by omega) (by omega) (by omega) (by omega)) tb_385 tb_387 ts_X0_valueInX tb_1 tb_388 hd_X0_valueInX ⟨rfl, rfl, by decide, by decide⟩ rX_bl (rX_mv hB) (rX_recv hB) rfl hl.1 rfl (Nat.le_of_ble_eq_true rfl) dX0_value_136 ⟨Nat.zero_le _, Nat.zero_le _⟩ rfl ?_
              have hvx139 := vxZ_rng F f c1 v1 v25
              refine zi_i2l hx hb dX0_value_139 (by omega) ?_
              refine zl_mul hx hb dX0_value_140 ?_
              refine zl_add hx hb dX0_value_141 ?_
              refine rd_S (As := [.long (lZ (v + (v28 * (vxZ F f c1 v1 v25))))]) (rest := []) (st1 := [.int (iZ ((v + (v28 * (vxZ F f c1 v1 v25))) % 32003))]) S (k_X0_reduce l (v + (v28 * (vxZ F f c1 v1 v25))) (by omega)) tb_157 tb_158 tb_1 tb_159 hd_X0_reduce ⟨rfl, rfl, by decide, by decide⟩ bl_T (fun _ _ _ => trivial) rfl hl.1 rfl (Nat.le_of_ble_eq_true rfl) dX0_value_142 ⟨Nat.zero_le _, Nat.zero_le _⟩ rfl ?_
              refine zi_top (fun v29 ev29 => ?_)
              refine lv_istore (lv' := [(13, .int (iZ v29)), (16, .int (iZ v28)), (15, .int (iZ (ePz c1))), (0, .ref o), (1, .int (iZ f)), (8, .int (iZ v1)), (9, .int (iZ v2)), (10, .int (iZ v3)), (11, .int (iZ v25)), (12, .int (iZ v26)), (14, .int (iZ c1))]) hx hb dX0_value_145 hl (by decide) rfl (fun ls hl => ?_)
              refine zi_inc (lv' := [(14, .int (iZ (c1 + 1))), (13, .int (iZ v29)), (16, .int (iZ v28)), (15, .int (iZ (ePz c1))), (0, .ref o), (1, .int (iZ f)), (8, .int (iZ v1)), (9, .int (iZ v2)), (10, .int (iZ v3)), (11, .int (iZ v25)), (12, .int (iZ v26))]) hx hb dX0_value_147 hl (k := 10) rfl (by decide) rfl (fun ls hl => ?_)
              refine lv_goto (tgt := 73) hx hb dX0_value_150 (by decide) ?_
              exact ih73 (m73 - 1) (v29, c1 + 1) (by omega) (by (try dsimp only); refine ⟨by omega, by omega, ?_⟩; rw [ev29]; exact su_step (by omega) hI73.2.2 (by rw [ev28]; unfold kvZ; rw [if_neg (show ¬ ePz c1 < 0 by omega)])) ls (lv_sub hl [4, 5, 6, 7, 8, 9, 10, 1, 0] rfl)
            · refine lv_iload hx hb dX0_value_102 (lv_at hl 7 rfl) ?_
              refine lv_goto (tgt := 109) hx hb dX0_value_104 (by decide) ?_
              refine lv_iload hx hb dX0_value_109 (lv_at hl 0 rfl) ?_
              refine va_mabs hx hb (by rw [hml]; exact hl.1.symm) hown (hT _ tb_382) (hT _ tb_383) (hT _ tb_9) (hT _ tb_384) (by decide) (Nat.le_of_ble_eq_true rfl) (Nat.zero_le _) (Nat.zero_le _) dX0_value_111 ?_
              refine zi_as (ab_at (z := ePz c1) (by omega)) ?_
              refine rd_S (As := [.int (iZ v26), .int (iZ (if 0 ≤ ePz c1 then ePz c1 else -(ePz c1)))]) (rest := [.int (iZ (pwP v2 (Int.toNat (lPz c1))))]) (st1 := [.int (iZ (pwP v26 (Int.toNat (if 0 ≤ ePz c1 then ePz c1 else -(ePz c1))))), .int (iZ (pwP v2 (Int.toNat (lPz c1))))]) S (k_X0_power l v26 (if 0 ≤ ePz c1 then ePz c1 else -(ePz c1)) (by omega) (by omega)) tb_316 tb_317 tb_1 tb_318 hd_X0_power ⟨rfl, rfl, by decide, by decide⟩ bl_T (fun _ _ _ => trivial) rfl hl.1 rfl (Nat.le_of_ble_eq_true rfl) dX0_value_114 ⟨Nat.zero_le _, Nat.zero_le _⟩ rfl ?_
              refine rd_S (As := [.int (iZ (pwP v2 (Int.toNat (lPz c1)))), .int (iZ (pwP v26 (Int.toNat (if 0 ≤ ePz c1 then ePz c1 else -(ePz c1)))))]) (rest := []) (st1 := [.int (iZ ((pwP v2 (Int.toNat (lPz c1))) * (pwP v26 (Int.toNat (if 0 ≤ ePz c1 then ePz c1 else -(ePz c1)))) % 32003))]) S (k_X0_multiply l (pwP v2 (Int.toNat (lPz c1))) (pwP v26 (Int.toNat (if 0 ≤ ePz c1 then ePz c1 else -(ePz c1)))) (by omega) (by omega)) tb_319 tb_320 tb_1 tb_321 hd_X0_multiply ⟨rfl, rfl, by decide, by decide⟩ bl_T (fun _ _ _ => trivial) rfl hl.1 rfl (Nat.le_of_ble_eq_true rfl) dX0_value_117 ⟨Nat.zero_le _, Nat.zero_le _⟩ rfl ?_
              refine zi_top (fun v30 ev30 => ?_)
              refine lv_istore (lv' := [(16, .int (iZ v30)), (15, .int (iZ (ePz c1))), (0, .ref o), (1, .int (iZ f)), (8, .int (iZ v1)), (9, .int (iZ v2)), (10, .int (iZ v3)), (11, .int (iZ v25)), (12, .int (iZ v26)), (13, .int (iZ v)), (14, .int (iZ c1))]) hx hb dX0_value_120 hl (by decide) rfl (fun ls hl => ?_)
              have hkv : 0 ≤ v30 ∧ v30 < 32003 := by rw [ev30]; omega
              have hkm := mul_rng hkv (vxZ_rng F f c1 v1 v25)
              refine lv_iload hx hb dX0_value_122 (lv_at hl 9 rfl) ?_
              refine zi_i2l hx hb dX0_value_124 (by omega) ?_
              refine lv_iload hx hb dX0_value_125 (lv_at hl 0 rfl) ?_
              refine zi_i2l hx hb dX0_value_127 (by omega) ?_
              refine lv_aload_n hx hb dX0_value_128 rfl (lv_at hl 2 rfl) ?_
              refine lv_iload_n hx hb dX0_value_129 rfl (lv_at hl 3 rfl) ?_
              refine lv_iload hx hb dX0_value_130 (lv_at hl 10 rfl) ?_
              refine lv_iload hx hb dX0_value_132 (lv_at hl 4 rfl) ?_
              refine lv_iload hx hb dX0_value_134 (lv_at hl 7 rfl) ?_
              refine rd_V (As := [.int (iZ f), .int (iZ c1), .int (iZ v1), .int (iZ v25)]) (rest := [.long (lZ v30), .long (lZ v)]) (st1 := [.int (iZ (vxZ F f c1 v1 v25)), .long (lZ v30), .long (lZ v)]) S (k_X0_valueInX l D o q1 q2 cI tE tL F G k f c1 v1 v25 hF (by omega) (by omega) (by omega) (by omega)) tb_385 tb_387 ts_X0_valueInX tb_1 tb_388 hd_X0_valueInX ⟨rfl, rfl, by decide, by decide⟩ rX_bl (rX_mv hB) (rX_recv hB) rfl hl.1 rfl (Nat.le_of_ble_eq_true rfl) dX0_value_136 ⟨Nat.zero_le _, Nat.zero_le _⟩ rfl ?_
              have hvx139 := vxZ_rng F f c1 v1 v25
              refine zi_i2l hx hb dX0_value_139 (by omega) ?_
              refine zl_mul hx hb dX0_value_140 ?_
              refine zl_add hx hb dX0_value_141 ?_
              refine rd_S (As := [.long (lZ (v + (v30 * (vxZ F f c1 v1 v25))))]) (rest := []) (st1 := [.int (iZ ((v + (v30 * (vxZ F f c1 v1 v25))) % 32003))]) S (k_X0_reduce l (v + (v30 * (vxZ F f c1 v1 v25))) (by omega)) tb_157 tb_158 tb_1 tb_159 hd_X0_reduce ⟨rfl, rfl, by decide, by decide⟩ bl_T (fun _ _ _ => trivial) rfl hl.1 rfl (Nat.le_of_ble_eq_true rfl) dX0_value_142 ⟨Nat.zero_le _, Nat.zero_le _⟩ rfl ?_
              refine zi_top (fun v31 ev31 => ?_)
              refine lv_istore (lv' := [(13, .int (iZ v31)), (16, .int (iZ v30)), (15, .int (iZ (ePz c1))), (0, .ref o), (1, .int (iZ f)), (8, .int (iZ v1)), (9, .int (iZ v2)), (10, .int (iZ v3)), (11, .int (iZ v25)), (12, .int (iZ v26)), (14, .int (iZ c1))]) hx hb dX0_value_145 hl (by decide) rfl (fun ls hl => ?_)
              refine zi_inc (lv' := [(14, .int (iZ (c1 + 1))), (13, .int (iZ v31)), (16, .int (iZ v30)), (15, .int (iZ (ePz c1))), (0, .ref o), (1, .int (iZ f)), (8, .int (iZ v1)), (9, .int (iZ v2)), (10, .int (iZ v3)), (11, .int (iZ v25)), (12, .int (iZ v26))]) hx hb dX0_value_147 hl (k := 10) rfl (by decide) rfl (fun ls hl => ?_)
              refine lv_goto (tgt := 73) hx hb dX0_value_150 (by decide) ?_
              exact ih73 (m73 - 1) (v31, c1 + 1) (by omega) (by (try dsimp only); refine ⟨by omega, by omega, ?_⟩; rw [ev31]; exact su_step (by omega) hI73.2.2 (by rw [ev30]; unfold kvZ; rw [if_pos (show ePz c1 < 0 by omega)])) ls (lv_sub hl [4, 5, 6, 7, 8, 9, 10, 1, 0] rfl)
        · refine zi_const hx hb (-1) dX0_value_51 ?_
          exact rd_iret hx hb hr hlk (congrArg (fun z => some (Value.int (iZ z))) (show (vlZ F f x1 l1 e1 : Int) = (-1) from by unfold vlZ; rw [if_pos (by omega)])) dX0_value_52
