set_option maxHeartbeats 4000000 in
set_option maxRecDepth 100000 in
theorem tO_X0_needElement (l : Launch) (hl0 : l.stackTraces = false) (D : va_G) (o q1 q2 : Nat) (cI : ClassId) (tE tL : Nat) (F G : Nat → Int) (k : Int) (f : Int) (hk : 0 ≤ k ∧ k ≤ 60) (hf0 : -2147483648 ≤ f ∧ f ≤ 2147483647) (h0 : ¬ (0 ≤ f ∧ f < k)) : th_M l yX0_needElement cX0_needElement 2 none ({ frames := 6, cells := 1, slots := 6, locals := 82 }) [.ref o, .int (iZ f)] (tXB D o q1 q2 cI tE tL F G k) exIO := by
  refine th_of (by decide) rfl (Nat.le_of_ble_eq_true rfl) ?_
  intro p e s m below meth c S hr hlk hno hB0 ls hl
  obtain ⟨hx, hb, hml, hown, hT⟩ := id S
  have hl : lv_has ls 2 [(0, .ref o), (1, .int (iZ f))] := hl
  obtain ⟨hB, hTX⟩ := id hB0
  obtain ⟨hP, hK, hsX⟩ := id hB
  obtain ⟨⟨hZE, hTE⟩, hZL, hTL⟩ := id hsX
  refine lv_iload_n hx hb dX0_needElement_0 rfl (lv_at hl 1 rfl) ?_
  refine zi_flt (tgt := 12) hx hb dX0_needElement_1 (by decide) (by omega) (fun hc1 => ?_) (fun hc1 => ?_)
  · exact xt_go (A := nA) hx hb hl0 hown hT hTX (is := 145) (text := "no such element") hTX.2.1.2.2 (by decide +kernel) tb_177 tb_8 (by decide +kernel) aO_1 aO_2 aO_3 va_S.rf (by rw [hml]; exact hl.1) dX0_needElement_12 dX0_needElement_15 dX0_needElement_16 dX0_needElement_18 dX0_needElement_21 hno (by decide) (Nat.le_of_ble_eq_true rfl) (by decide) (by decide) hlk (fun t _ h2 h3 => x0_end h2 h3) (fun _ h => nomatch h)
  · refine lv_iload_n hx hb dX0_needElement_4 rfl (lv_at hl 1 rfl) ?_
    refine lv_aload_n hx hb dX0_needElement_5 rfl (lv_at hl 0 rfl) ?_
    refine va_get (D := D) (ci := 0) (C := RX0) (T := TX0) (N := 3) hx hb hT inX0 hown hK hP 0 rfl rfl 2 (by decide) (hT _ tb_20) (fun _ h9 => h9) rfl dX0_needElement_6 ?_
    refine zi_clt (tgt := 22) hx hb dX0_needElement_9 (by decide) (by omega) (by omega) (fun hc9 => ?_) (fun hc9 => ?_)
    · exfalso
      omega
    · exact xt_go (A := nA) hx hb hl0 hown hT hTX (is := 145) (text := "no such element") hTX.2.1.2.2 (by decide +kernel) tb_177 tb_8 (by decide +kernel) aO_1 aO_2 aO_3 va_S.rf (by rw [hml]; exact hl.1) dX0_needElement_12 dX0_needElement_15 dX0_needElement_16 dX0_needElement_18 dX0_needElement_21 hno (by decide) (Nat.le_of_ble_eq_true rfl) (by decide) (by decide) hlk (fun t _ h2 h3 => x0_end h2 h3) (fun _ h => nomatch h)
set_option maxHeartbeats 4000000 in
set_option maxRecDepth 100000 in
theorem tS_X0_needRoom (l : Launch) (hl0 : l.stackTraces = false) (D : va_G) (o q1 q2 : Nat) (cI : ClassId) (tE tL : Nat) (F G : Nat → Int) (k : Int)  (hk : 0 ≤ k ∧ k ≤ 60) (h0 : ¬ k < 60) : th_M l yX0_needRoom cX0_needRoom 1 none ({ frames := 6, cells := 1, slots := 6, locals := 82 }) [.ref o] (tXB D o q1 q2 cI tE tL F G k) exIS := by
  refine th_of (by decide) rfl (Nat.le_of_ble_eq_true rfl) ?_
  intro p e s m below meth c S hr hlk hno hB0 ls hl
  obtain ⟨hx, hb, hml, hown, hT⟩ := id S
  have hl : lv_has ls 1 [(0, .ref o)] := hl
  obtain ⟨hB, hTX⟩ := id hB0
  obtain ⟨hP, hK, hsX⟩ := id hB
  obtain ⟨⟨hZE, hTE⟩, hZL, hTL⟩ := id hsX
  refine lv_aload_n hx hb dX0_needRoom_0 rfl (lv_at hl 0 rfl) ?_
  refine va_get (D := D) (ci := 0) (C := RX0) (T := TX0) (N := 3) hx hb hT inX0 hown hK hP 0 rfl rfl 2 (by decide) (hT _ tb_20) (fun _ h9 => h9) rfl dX0_needRoom_1 ?_
  refine zi_bi hx hb 60 dX0_needRoom_4 (by decide) ?_
  refine zi_clt (tgt := 19) hx hb dX0_needRoom_6 (by decide) (by omega) (by omega) (fun hc6 => ?_) (fun hc6 => ?_)
  · exfalso
    omega
  · exact xt_go (A := nA) hx hb hl0 hown hT hTX (is := 148) (text := "60 elements are there") hTX.2.1.2.1 (by decide +kernel) tb_127 tb_7 (by decide +kernel) aS_1 aS_2 aS_3 va_S.rf (by rw [hml]; exact hl.1) dX0_needRoom_9 dX0_needRoom_12 dX0_needRoom_13 dX0_needRoom_15 dX0_needRoom_18 hno (by decide) (Nat.le_of_ble_eq_true rfl) (by decide) (by decide) hlk (fun t _ h2 h3 => x0_end h2 h3) (fun _ h => nomatch h)
set_option maxHeartbeats 4000000 in
set_option maxRecDepth 100000 in
theorem tA_X0_needKind (l : Launch) (hl0 : l.stackTraces = false)  (c1 : Int) (hc10 : -2147483648 ≤ c1 ∧ c1 ≤ 2147483647) (h0 : ¬ (0 ≤ c1 ∧ c1 < 8)) : th_M l yX0_needKind cX0_needKind 1 none ({ frames := 6, cells := 1, slots := 6, locals := 82 }) [.int (iZ c1)] tSB exIA := by
  refine th_of (by decide) rfl (Nat.le_of_ble_eq_true rfl) ?_
  intro p e s m below meth c S hr hlk hno hB0 ls hl
  obtain ⟨hx, hb, hml, hown, hT⟩ := id S
  have hl : lv_has ls 1 [(0, .int (iZ c1))] := hl
  have hTX : tX nA s s.heap := hB0
  refine lv_iload_n hx hb dX0_needKind_0 rfl (lv_at hl 0 rfl) ?_
  refine rd_S (As := [.int (iZ c1)]) (rest := []) (st1 := [.int (iZ (kdZ c1))]) S (k_X0_isKind l c1 (by omega)) tb_45 tb_46 tb_1 tb_47 hd_X0_isKind ⟨rfl, rfl, by decide, by decide⟩ bl_T (fun _ _ _ => trivial) rfl hl.1 rfl (Nat.le_of_ble_eq_true rfl) dX0_needKind_1 ⟨Nat.zero_le _, Nat.zero_le _⟩ rfl ?_
  have hf4 := kdZ_or c1
  refine zi_fne (tgt := 17) hx hb dX0_needKind_4 (by decide) (by omega) (fun hc4 => ?_) (fun hc4 => ?_)
  · exfalso
    omega
  · exact xt_go (A := nA) hx hb hl0 hown hT hTX (is := 155) (text := "no such kind") hTX.2.1.1 (by decide +kernel) tb_48 tb_6 (by decide +kernel) aI_1 aI_2 aI_3 va_S.rf (by rw [hml]; exact hl.1) dX0_needKind_7 dX0_needKind_10 dX0_needKind_11 dX0_needKind_13 dX0_needKind_16 hno (by decide) (Nat.le_of_ble_eq_true rfl) (by decide) (by decide) hlk (fun t _ h2 h3 => x0_end h2 h3) (fun _ h => nomatch h)
set_option maxHeartbeats 4000000 in
set_option maxRecDepth 100000 in
theorem tA_X0_needPower (l : Launch) (hl0 : l.stackTraces = false)  (n : Int) (hn0 : -2147483648 ≤ n ∧ n ≤ 2147483647) (h0 : ¬ (-4 ≤ n ∧ n ≤ 4)) : th_M l yX0_needPower cX0_needPower 1 none ({ frames := 6, cells := 1, slots := 6, locals := 82 }) [.int (iZ n)] tSB exIA := by
  refine th_of (by decide) rfl (Nat.le_of_ble_eq_true rfl) ?_
  intro p e s m below meth c S hr hlk hno hB0 ls hl
  obtain ⟨hx, hb, hml, hown, hT⟩ := id S
  have hl : lv_has ls 1 [(0, .int (iZ n))] := hl
  have hTX : tX nA s s.heap := hB0
  refine lv_iload_n hx hb dX0_needPower_0 rfl (lv_at hl 0 rfl) ?_
  refine rd_S (As := [.int (iZ n)]) (rest := []) (st1 := [.int (iZ (pwZ n))]) S (k_X0_isPower l n (by omega)) tb_119 tb_120 tb_1 tb_121 hd_X0_isPower ⟨rfl, rfl, by decide, by decide⟩ bl_T (fun _ _ _ => trivial) rfl hl.1 rfl (Nat.le_of_ble_eq_true rfl) dX0_needPower_1 ⟨Nat.zero_le _, Nat.zero_le _⟩ rfl ?_
  have hf4 := pwZ_or n
  refine zi_fne (tgt := 17) hx hb dX0_needPower_4 (by decide) (by omega) (fun hc4 => ?_) (fun hc4 => ?_)
  · exfalso
    omega
  · exact xt_go (A := nA) hx hb hl0 hown hT hTX (is := 161) (text := "no such n") hTX.2.1.1 (by decide +kernel) tb_48 tb_6 (by decide +kernel) aI_1 aI_2 aI_3 va_S.rf (by rw [hml]; exact hl.1) dX0_needPower_7 dX0_needPower_10 dX0_needPower_11 dX0_needPower_13 dX0_needPower_16 hno (by decide) (Nat.le_of_ble_eq_true rfl) (by decide) (by decide) hlk (fun t _ h2 h3 => x0_end h2 h3) (fun _ h => nomatch h)
set_option maxHeartbeats 4000000 in
set_option maxRecDepth 100000 in
theorem tO_X0_derive (l : Launch) (hl0 : l.stackTraces = false) (D : va_G) (o q1 q2 : Nat) (cI : ClassId) (tE tL : Nat) (F G : Nat → Int) (k : Int) (f : Int) (hk : 0 ≤ k ∧ k ≤ 60) (hf0 : -2147483648 ≤ f ∧ f ≤ 2147483647)  (h0 : ¬ (0 ≤ f ∧ f < k)) : th_M l yX0_derive cX0_derive 2 (some .int) ({ frames := 7, cells := 1, slots := 6, locals := 113 }) [.ref o, .int (iZ f)] (tXB D o q1 q2 cI tE tL F G k) exIO := by
  refine th_of (by decide) rfl (Nat.le_of_ble_eq_true rfl) ?_
  intro p e s m below meth c S hr hlk hno hB0 ls hl
  obtain ⟨hx, hb, hml, hown, hT⟩ := id S
  have hl : lv_has ls 2 [(0, .ref o), (1, .int (iZ f))] := hl
  obtain ⟨hB, hTX⟩ := id hB0
  obtain ⟨hP, hK, hsX⟩ := id hB
  obtain ⟨⟨hZE, hTE⟩, hZL, hTL⟩ := id hsX
  refine lv_aload_n hx hb dX0_derive_0 rfl (lv_at hl 0 rfl) ?_
  refine lv_iload_n hx hb dX0_derive_1 rfl (lv_at hl 1 rfl) ?_
  exact th_V (As := [.int (iZ f)]) (rest := []) S (tO_X0_needElement l hl0 D o q1 q2 cI tE tL F G k f hk (by omega) (by omega)) tb_173 tb_175 ts_X0_needElement tb_1 tb_176 hd_X0_needElement ⟨rfl, rfl, by decide, by decide⟩ tXB_bl (tXB_mv hB0) (rX_recv hB) rfl hl.1 rfl (Nat.le_of_ble_eq_true rfl) dX0_derive_2 ⟨by decide, by decide⟩ hno hlk
set_option maxHeartbeats 4000000 in
set_option maxRecDepth 100000 in
theorem tO_X0_integrate (l : Launch) (hl0 : l.stackTraces = false) (D : va_G) (o q1 q2 : Nat) (cI : ClassId) (tE tL : Nat) (F G : Nat → Int) (k : Int) (f : Int) (hk : 0 ≤ k ∧ k ≤ 60) (hf0 : -2147483648 ≤ f ∧ f ≤ 2147483647)  (h0 : ¬ (0 ≤ f ∧ f < k)) : th_M l yX0_integrate cX0_integrate 2 (some .int) ({ frames := 7, cells := 1, slots := 6, locals := 135 }) [.ref o, .int (iZ f)] (tXB D o q1 q2 cI tE tL F G k) exIO := by
  refine th_of (by decide) rfl (Nat.le_of_ble_eq_true rfl) ?_
  intro p e s m below meth c S hr hlk hno hB0 ls hl
  obtain ⟨hx, hb, hml, hown, hT⟩ := id S
  have hl : lv_has ls 2 [(0, .ref o), (1, .int (iZ f))] := hl
  obtain ⟨hB, hTX⟩ := id hB0
  obtain ⟨hP, hK, hsX⟩ := id hB
  obtain ⟨⟨hZE, hTE⟩, hZL, hTL⟩ := id hsX
  refine lv_aload_n hx hb dX0_integrate_0 rfl (lv_at hl 0 rfl) ?_
  refine lv_iload_n hx hb dX0_integrate_1 rfl (lv_at hl 1 rfl) ?_
  exact th_V (As := [.int (iZ f)]) (rest := []) S (tO_X0_needElement l hl0 D o q1 q2 cI tE tL F G k f hk (by omega) (by omega)) tb_173 tb_175 ts_X0_needElement tb_1 tb_176 hd_X0_needElement ⟨rfl, rfl, by decide, by decide⟩ tXB_bl (tXB_mv hB0) (rX_recv hB) rfl hl.1 rfl (Nat.le_of_ble_eq_true rfl) dX0_integrate_2 ⟨by decide, by decide⟩ hno hlk
set_option maxHeartbeats 4000000 in
set_option maxRecDepth 100000 in
theorem tO_X0_rest (l : Launch) (hl0 : l.stackTraces = false) (D : va_G) (o q1 q2 : Nat) (cI : ClassId) (tE tL : Nat) (F G : Nat → Int) (k : Int) (f c1 : Int) (hk : 0 ≤ k ∧ k ≤ 60) (hf0 : -2147483648 ≤ f ∧ f ≤ 2147483647) (hc10 : -2147483648 ≤ c1 ∧ c1 ≤ 2147483647) (h0 : ¬ (0 ≤ f ∧ f < k)) : th_M l yX0_rest cX0_rest 3 (some .int) ({ frames := 7, cells := 1, slots := 6, locals := 113 }) [.ref o, .int (iZ f), .int (iZ c1)] (tXB D o q1 q2 cI tE tL F G k) exIO := by
  refine th_of (by decide) rfl (Nat.le_of_ble_eq_true rfl) ?_
  intro p e s m below meth c S hr hlk hno hB0 ls hl
  obtain ⟨hx, hb, hml, hown, hT⟩ := id S
  have hl : lv_has ls 3 [(0, .ref o), (1, .int (iZ f)), (2, .int (iZ c1))] := hl
  obtain ⟨hB, hTX⟩ := id hB0
  obtain ⟨hP, hK, hsX⟩ := id hB
  obtain ⟨⟨hZE, hTE⟩, hZL, hTL⟩ := id hsX
  refine lv_aload_n hx hb dX0_rest_0 rfl (lv_at hl 0 rfl) ?_
  refine lv_iload_n hx hb dX0_rest_1 rfl (lv_at hl 1 rfl) ?_
  exact th_V (As := [.int (iZ f)]) (rest := []) S (tO_X0_needElement l hl0 D o q1 q2 cI tE tL F G k f hk (by omega) (by omega)) tb_173 tb_175 ts_X0_needElement tb_1 tb_176 hd_X0_needElement ⟨rfl, rfl, by decide, by decide⟩ tXB_bl (tXB_mv hB0) (rX_recv hB) rfl hl.1 rfl (Nat.le_of_ble_eq_true rfl) dX0_rest_2 ⟨by decide, by decide⟩ hno hlk
set_option maxHeartbeats 4000000 in
set_option maxRecDepth 100000 in
theorem tO_X0_at (l : Launch) (hl0 : l.stackTraces = false) (D : va_G) (o q1 q2 : Nat) (cI : ClassId) (tE tL : Nat) (F G : Nat → Int) (k : Int) (f c1 n : Int) (hk : 0 ≤ k ∧ k ≤ 60) (hf0 : -2147483648 ≤ f ∧ f ≤ 2147483647) (hc10 : -2147483648 ≤ c1 ∧ c1 ≤ 2147483647) (hn0 : -2147483648 ≤ n ∧ n ≤ 2147483647) (h0 : ¬ (0 ≤ f ∧ f < k)) : th_M l yX0_at cX0_at 4 (some .int) ({ frames := 7, cells := 1, slots := 6, locals := 103 }) [.ref o, .int (iZ f), .int (iZ c1), .int (iZ n)] (tXB D o q1 q2 cI tE tL F G k) exIO := by
  refine th_of (by decide) rfl (Nat.le_of_ble_eq_true rfl) ?_
  intro p e s m below meth c S hr hlk hno hB0 ls hl
  obtain ⟨hx, hb, hml, hown, hT⟩ := id S
  have hl : lv_has ls 4 [(0, .ref o), (1, .int (iZ f)), (2, .int (iZ c1)), (3, .int (iZ n))] := hl
  obtain ⟨hB, hTX⟩ := id hB0
  obtain ⟨hP, hK, hsX⟩ := id hB
  obtain ⟨⟨hZE, hTE⟩, hZL, hTL⟩ := id hsX
  refine lv_aload_n hx hb dX0_at_0 rfl (lv_at hl 0 rfl) ?_
  refine lv_iload_n hx hb dX0_at_1 rfl (lv_at hl 1 rfl) ?_
  exact th_V (As := [.int (iZ f)]) (rest := []) S (tO_X0_needElement l hl0 D o q1 q2 cI tE tL F G k f hk (by omega) (by omega)) tb_173 tb_175 ts_X0_needElement tb_1 tb_176 hd_X0_needElement ⟨rfl, rfl, by decide, by decide⟩ tXB_bl (tXB_mv hB0) (rX_recv hB) rfl hl.1 rfl (Nat.le_of_ble_eq_true rfl) dX0_at_2 ⟨by decide, by decide⟩ hno hlk
set_option maxHeartbeats 4000000 in
set_option maxRecDepth 100000 in
theorem tO_X0_terms (l : Launch) (hl0 : l.stackTraces = false) (D : va_G) (o q1 q2 : Nat) (cI : ClassId) (tE tL : Nat) (F G : Nat → Int) (k : Int) (f c1 : Int) (hk : 0 ≤ k ∧ k ≤ 60) (hf0 : -2147483648 ≤ f ∧ f ≤ 2147483647) (hc10 : -2147483648 ≤ c1 ∧ c1 ≤ 2147483647) (h0 : ¬ (0 ≤ f ∧ f < k)) : th_M l yX0_terms cX0_terms 3 (some .int) ({ frames := 7, cells := 1, slots := 6, locals := 103 }) [.ref o, .int (iZ f), .int (iZ c1)] (tXB D o q1 q2 cI tE tL F G k) exIO := by
  refine th_of (by decide) rfl (Nat.le_of_ble_eq_true rfl) ?_
  intro p e s m below meth c S hr hlk hno hB0 ls hl
  obtain ⟨hx, hb, hml, hown, hT⟩ := id S
  have hl : lv_has ls 3 [(0, .ref o), (1, .int (iZ f)), (2, .int (iZ c1))] := hl
  obtain ⟨hB, hTX⟩ := id hB0
  obtain ⟨hP, hK, hsX⟩ := id hB
  obtain ⟨⟨hZE, hTE⟩, hZL, hTL⟩ := id hsX
  refine lv_aload_n hx hb dX0_terms_0 rfl (lv_at hl 0 rfl) ?_
  refine lv_iload_n hx hb dX0_terms_1 rfl (lv_at hl 1 rfl) ?_
  exact th_V (As := [.int (iZ f)]) (rest := []) S (tO_X0_needElement l hl0 D o q1 q2 cI tE tL F G k f hk (by omega) (by omega)) tb_173 tb_175 ts_X0_needElement tb_1 tb_176 hd_X0_needElement ⟨rfl, rfl, by decide, by decide⟩ tXB_bl (tXB_mv hB0) (rX_recv hB) rfl hl.1 rfl (Nat.le_of_ble_eq_true rfl) dX0_terms_2 ⟨by decide, by decide⟩ hno hlk
set_option maxHeartbeats 4000000 in
set_option maxRecDepth 100000 in
theorem tO_X0_degree (l : Launch) (hl0 : l.stackTraces = false) (D : va_G) (o q1 q2 : Nat) (cI : ClassId) (tE tL : Nat) (F G : Nat → Int) (k : Int) (f c1 : Int) (hk : 0 ≤ k ∧ k ≤ 60) (hf0 : -2147483648 ≤ f ∧ f ≤ 2147483647) (hc10 : -2147483648 ≤ c1 ∧ c1 ≤ 2147483647) (h0 : ¬ (0 ≤ f ∧ f < k)) : th_M l yX0_degree cX0_degree 4 (some .int) ({ frames := 7, cells := 1, slots := 6, locals := 103 }) [.ref o, .int (iZ f), .int (iZ c1)] (tXB D o q1 q2 cI tE tL F G k) exIO := by
  refine th_of (by decide) rfl (Nat.le_of_ble_eq_true rfl) ?_
  intro p e s m below meth c S hr hlk hno hB0 ls hl
  obtain ⟨hx, hb, hml, hown, hT⟩ := id S
  have hl : lv_has ls 4 [(0, .ref o), (1, .int (iZ f)), (2, .int (iZ c1))] := hl
  obtain ⟨hB, hTX⟩ := id hB0
  obtain ⟨hP, hK, hsX⟩ := id hB
  obtain ⟨⟨hZE, hTE⟩, hZL, hTL⟩ := id hsX
  refine lv_aload_n hx hb dX0_degree_0 rfl (lv_at hl 0 rfl) ?_
  refine lv_iload_n hx hb dX0_degree_1 rfl (lv_at hl 1 rfl) ?_
  exact th_V (As := [.int (iZ f)]) (rest := []) S (tO_X0_needElement l hl0 D o q1 q2 cI tE tL F G k f hk (by omega) (by omega)) tb_173 tb_175 ts_X0_needElement tb_1 tb_176 hd_X0_needElement ⟨rfl, rfl, by decide, by decide⟩ tXB_bl (tXB_mv hB0) (rX_recv hB) rfl hl.1 rfl (Nat.le_of_ble_eq_true rfl) dX0_degree_2 ⟨by decide, by decide⟩ hno hlk
set_option maxHeartbeats 4000000 in
set_option maxRecDepth 100000 in
theorem tO_X0_value (l : Launch) (hl0 : l.stackTraces = false) (D : va_G) (o q1 q2 : Nat) (cI : ClassId) (tE tL : Nat) (F G : Nat → Int) (k : Int) (f x1 l1 e1 : Int) (hk : 0 ≤ k ∧ k ≤ 60) (hf0 : -2147483648 ≤ f ∧ f ≤ 2147483647)  (h0 : ¬ (0 ≤ f ∧ f < k)) : th_M l yX0_value cX0_value 17 (some .int) ({ frames := 7, cells := 1, slots := 6, locals := 112 }) [.ref o, .int (iZ f), .long (lZ x1), .long (lZ l1), .long (lZ e1)] (tXB D o q1 q2 cI tE tL F G k) exIO := by
  refine th_of (by decide) rfl (Nat.le_of_ble_eq_true rfl) ?_
  intro p e s m below meth c S hr hlk hno hB0 ls hl
  obtain ⟨hx, hb, hml, hown, hT⟩ := id S
  have hl : lv_has ls 17 [(0, .ref o), (1, .int (iZ f)), (2, .long (lZ x1)), (4, .long (lZ l1)), (6, .long (lZ e1))] := hl
  obtain ⟨hB, hTX⟩ := id hB0
  obtain ⟨hP, hK, hsX⟩ := id hB
  obtain ⟨⟨hZE, hTE⟩, hZL, hTL⟩ := id hsX
  refine lv_aload_n hx hb dX0_value_0 rfl (lv_at hl 0 rfl) ?_
  refine lv_iload_n hx hb dX0_value_1 rfl (lv_at hl 1 rfl) ?_
  exact th_V (As := [.int (iZ f)]) (rest := []) S (tO_X0_needElement l hl0 D o q1 q2 cI tE tL F G k f hk (by omega) (by omega)) tb_173 tb_175 ts_X0_needElement tb_1 tb_176 hd_X0_needElement ⟨rfl, rfl, by decide, by decide⟩ tXB_bl (tXB_mv hB0) (rX_recv hB) rfl hl.1 rfl (Nat.le_of_ble_eq_true rfl) dX0_value_2 ⟨by decide, by decide⟩ hno hlk
set_option maxHeartbeats 4000000 in
set_option maxRecDepth 100000 in
theorem tO_X0_add (l : Launch) (hl0 : l.stackTraces = false) (D : va_G) (o q1 q2 : Nat) (cI : ClassId) (tE tL : Nat) (F G : Nat → Int) (k : Int) (f g : Int) (hk : 0 ≤ k ∧ k ≤ 60) (hf0 : -2147483648 ≤ f ∧ f ≤ 2147483647) (hg0 : -2147483648 ≤ g ∧ g ≤ 2147483647) (h0 : ¬ ((0 ≤ f ∧ f < k) ∧ (0 ≤ g ∧ g < k))) : th_M l yX0_add cX0_add 3 (some .int) ({ frames := 7, cells := 1, slots := 6, locals := 103 }) [.ref o, .int (iZ f), .int (iZ g)] (tXB D o q1 q2 cI tE tL F G k) exIO := by
  refine th_of (by decide) rfl (Nat.le_of_ble_eq_true rfl) ?_
  intro p e s m below meth c S hr hlk hno hB0 ls hl
  obtain ⟨hx, hb, hml, hown, hT⟩ := id S
  have hl : lv_has ls 3 [(0, .ref o), (1, .int (iZ f)), (2, .int (iZ g))] := hl
  obtain ⟨hB, hTX⟩ := id hB0
  obtain ⟨hP, hK, hsX⟩ := id hB
  obtain ⟨⟨hZE, hTE⟩, hZL, hTL⟩ := id hsX
  refine lv_aload_n hx hb dX0_add_0 rfl (lv_at hl 0 rfl) ?_
  refine lv_iload_n hx hb dX0_add_1 rfl (lv_at hl 1 rfl) ?_
  by_cases hq2 : 0 ≤ f ∧ f < k
  · refine rd_V (As := [.int (iZ f)]) (rest := []) (st1 := []) S (k_X0_needElement l D o q1 q2 cI tE tL F G k f (by omega)) tb_173 tb_175 ts_X0_needElement tb_1 tb_176 hd_X0_needElement ⟨rfl, rfl, by decide, by decide⟩ rX_bl (rX_mv hB) (rX_recv hB) rfl hl.1 rfl (Nat.le_of_ble_eq_true rfl) dX0_add_2 ⟨Nat.zero_le _, Nat.zero_le _⟩ rfl ?_
    refine lv_aload_n hx hb dX0_add_5 rfl (lv_at hl 0 rfl) ?_
    refine lv_iload_n hx hb dX0_add_6 rfl (lv_at hl 2 rfl) ?_
    exact th_V (As := [.int (iZ g)]) (rest := []) S (tO_X0_needElement l hl0 D o q1 q2 cI tE tL F G k g hk (by omega) (by omega)) tb_173 tb_175 ts_X0_needElement tb_1 tb_176 hd_X0_needElement ⟨rfl, rfl, by decide, by decide⟩ tXB_bl (tXB_mv hB0) (rX_recv hB) rfl hl.1 rfl (Nat.le_of_ble_eq_true rfl) dX0_add_7 ⟨by decide, by decide⟩ hno hlk
  · exact th_V (As := [.int (iZ f)]) (rest := []) S (tO_X0_needElement l hl0 D o q1 q2 cI tE tL F G k f hk (by omega) (by omega)) tb_173 tb_175 ts_X0_needElement tb_1 tb_176 hd_X0_needElement ⟨rfl, rfl, by decide, by decide⟩ tXB_bl (tXB_mv hB0) (rX_recv hB) rfl hl.1 rfl (Nat.le_of_ble_eq_true rfl) dX0_add_2 ⟨by decide, by decide⟩ hno hlk
set_option maxHeartbeats 4000000 in
set_option maxRecDepth 100000 in
theorem tO_X0_less (l : Launch) (hl0 : l.stackTraces = false) (D : va_G) (o q1 q2 : Nat) (cI : ClassId) (tE tL : Nat) (F G : Nat → Int) (k : Int) (f g v : Int) (hk : 0 ≤ k ∧ k ≤ 60) (hf0 : -2147483648 ≤ f ∧ f ≤ 2147483647) (hg0 : -2147483648 ≤ g ∧ g ≤ 2147483647) (h0 : ¬ ((0 ≤ f ∧ f < k) ∧ (0 ≤ g ∧ g < k))) : th_M l yX0_less cX0_less 5 (some .int) ({ frames := 7, cells := 1, slots := 6, locals := 103 }) [.ref o, .int (iZ f), .int (iZ g), .long (lZ v)] (tXB D o q1 q2 cI tE tL F G k) exIO := by
  refine th_of (by decide) rfl (Nat.le_of_ble_eq_true rfl) ?_
  intro p e s m below meth c S hr hlk hno hB0 ls hl
  obtain ⟨hx, hb, hml, hown, hT⟩ := id S
  have hl : lv_has ls 5 [(0, .ref o), (1, .int (iZ f)), (2, .int (iZ g)), (3, .long (lZ v))] := hl
  obtain ⟨hB, hTX⟩ := id hB0
  obtain ⟨hP, hK, hsX⟩ := id hB
  obtain ⟨⟨hZE, hTE⟩, hZL, hTL⟩ := id hsX
  refine lv_aload_n hx hb dX0_less_0 rfl (lv_at hl 0 rfl) ?_
  refine lv_iload_n hx hb dX0_less_1 rfl (lv_at hl 1 rfl) ?_
  by_cases hq2 : 0 ≤ f ∧ f < k
  · refine rd_V (As := [.int (iZ f)]) (rest := []) (st1 := []) S (k_X0_needElement l D o q1 q2 cI tE tL F G k f (by omega)) tb_173 tb_175 ts_X0_needElement tb_1 tb_176 hd_X0_needElement ⟨rfl, rfl, by decide, by decide⟩ rX_bl (rX_mv hB) (rX_recv hB) rfl hl.1 rfl (Nat.le_of_ble_eq_true rfl) dX0_less_2 ⟨Nat.zero_le _, Nat.zero_le _⟩ rfl ?_
    refine lv_aload_n hx hb dX0_less_5 rfl (lv_at hl 0 rfl) ?_
    refine lv_iload_n hx hb dX0_less_6 rfl (lv_at hl 2 rfl) ?_
    exact th_V (As := [.int (iZ g)]) (rest := []) S (tO_X0_needElement l hl0 D o q1 q2 cI tE tL F G k g hk (by omega) (by omega)) tb_173 tb_175 ts_X0_needElement tb_1 tb_176 hd_X0_needElement ⟨rfl, rfl, by decide, by decide⟩ tXB_bl (tXB_mv hB0) (rX_recv hB) rfl hl.1 rfl (Nat.le_of_ble_eq_true rfl) dX0_less_7 ⟨by decide, by decide⟩ hno hlk
  · exact th_V (As := [.int (iZ f)]) (rest := []) S (tO_X0_needElement l hl0 D o q1 q2 cI tE tL F G k f hk (by omega) (by omega)) tb_173 tb_175 ts_X0_needElement tb_1 tb_176 hd_X0_needElement ⟨rfl, rfl, by decide, by decide⟩ tXB_bl (tXB_mv hB0) (rX_recv hB) rfl hl.1 rfl (Nat.le_of_ble_eq_true rfl) dX0_less_2 ⟨by decide, by decide⟩ hno hlk
set_option maxHeartbeats 4000000 in
set_option maxRecDepth 100000 in
theorem tO_X0_times (l : Launch) (hl0 : l.stackTraces = false) (D : va_G) (o q1 q2 : Nat) (cI : ClassId) (tE tL : Nat) (F G : Nat → Int) (k : Int) (f g : Int) (hk : 0 ≤ k ∧ k ≤ 60) (hf0 : -2147483648 ≤ f ∧ f ≤ 2147483647) (hg0 : -2147483648 ≤ g ∧ g ≤ 2147483647) (h0 : ¬ ((0 ≤ f ∧ f < k) ∧ (0 ≤ g ∧ g < k))) : th_M l yX0_times cX0_times 3 (some .int) ({ frames := 7, cells := 1, slots := 6, locals := 117 }) [.ref o, .int (iZ f), .int (iZ g)] (tXB D o q1 q2 cI tE tL F G k) exIO := by
  refine th_of (by decide) rfl (Nat.le_of_ble_eq_true rfl) ?_
  intro p e s m below meth c S hr hlk hno hB0 ls hl
  obtain ⟨hx, hb, hml, hown, hT⟩ := id S
  have hl : lv_has ls 3 [(0, .ref o), (1, .int (iZ f)), (2, .int (iZ g))] := hl
  obtain ⟨hB, hTX⟩ := id hB0
  obtain ⟨hP, hK, hsX⟩ := id hB
  obtain ⟨⟨hZE, hTE⟩, hZL, hTL⟩ := id hsX
  refine lv_aload_n hx hb dX0_times_0 rfl (lv_at hl 0 rfl) ?_
  refine lv_iload_n hx hb dX0_times_1 rfl (lv_at hl 1 rfl) ?_
  by_cases hq2 : 0 ≤ f ∧ f < k
  · refine rd_V (As := [.int (iZ f)]) (rest := []) (st1 := []) S (k_X0_needElement l D o q1 q2 cI tE tL F G k f (by omega)) tb_173 tb_175 ts_X0_needElement tb_1 tb_176 hd_X0_needElement ⟨rfl, rfl, by decide, by decide⟩ rX_bl (rX_mv hB) (rX_recv hB) rfl hl.1 rfl (Nat.le_of_ble_eq_true rfl) dX0_times_2 ⟨Nat.zero_le _, Nat.zero_le _⟩ rfl ?_
    refine lv_aload_n hx hb dX0_times_5 rfl (lv_at hl 0 rfl) ?_
    refine lv_iload_n hx hb dX0_times_6 rfl (lv_at hl 2 rfl) ?_
    exact th_V (As := [.int (iZ g)]) (rest := []) S (tO_X0_needElement l hl0 D o q1 q2 cI tE tL F G k g hk (by omega) (by omega)) tb_173 tb_175 ts_X0_needElement tb_1 tb_176 hd_X0_needElement ⟨rfl, rfl, by decide, by decide⟩ tXB_bl (tXB_mv hB0) (rX_recv hB) rfl hl.1 rfl (Nat.le_of_ble_eq_true rfl) dX0_times_7 ⟨by decide, by decide⟩ hno hlk
  · exact th_V (As := [.int (iZ f)]) (rest := []) S (tO_X0_needElement l hl0 D o q1 q2 cI tE tL F G k f hk (by omega) (by omega)) tb_173 tb_175 ts_X0_needElement tb_1 tb_176 hd_X0_needElement ⟨rfl, rfl, by decide, by decide⟩ tXB_bl (tXB_mv hB0) (rX_recv hB) rfl hl.1 rfl (Nat.le_of_ble_eq_true rfl) dX0_times_2 ⟨by decide, by decide⟩ hno hlk
set_option maxHeartbeats 4000000 in
set_option maxRecDepth 100000 in
theorem tO_X0_same (l : Launch) (hl0 : l.stackTraces = false) (D : va_G) (o q1 q2 : Nat) (cI : ClassId) (tE tL : Nat) (F G : Nat → Int) (k : Int) (f g : Int) (hk : 0 ≤ k ∧ k ≤ 60) (hf0 : -2147483648 ≤ f ∧ f ≤ 2147483647) (hg0 : -2147483648 ≤ g ∧ g ≤ 2147483647) (h0 : ¬ ((0 ≤ f ∧ f < k) ∧ (0 ≤ g ∧ g < k))) : th_M l yX0_same cX0_same 5 (some .boolean) ({ frames := 7, cells := 1, slots := 6, locals := 103 }) [.ref o, .int (iZ f), .int (iZ g)] (tXB D o q1 q2 cI tE tL F G k) exIO := by
  refine th_of (by decide) rfl (Nat.le_of_ble_eq_true rfl) ?_
  intro p e s m below meth c S hr hlk hno hB0 ls hl
  obtain ⟨hx, hb, hml, hown, hT⟩ := id S
  have hl : lv_has ls 5 [(0, .ref o), (1, .int (iZ f)), (2, .int (iZ g))] := hl
  obtain ⟨hB, hTX⟩ := id hB0
  obtain ⟨hP, hK, hsX⟩ := id hB
  obtain ⟨⟨hZE, hTE⟩, hZL, hTL⟩ := id hsX
  refine lv_aload_n hx hb dX0_same_0 rfl (lv_at hl 0 rfl) ?_
  refine lv_iload_n hx hb dX0_same_1 rfl (lv_at hl 1 rfl) ?_
  by_cases hq2 : 0 ≤ f ∧ f < k
  · refine rd_V (As := [.int (iZ f)]) (rest := []) (st1 := []) S (k_X0_needElement l D o q1 q2 cI tE tL F G k f (by omega)) tb_173 tb_175 ts_X0_needElement tb_1 tb_176 hd_X0_needElement ⟨rfl, rfl, by decide, by decide⟩ rX_bl (rX_mv hB) (rX_recv hB) rfl hl.1 rfl (Nat.le_of_ble_eq_true rfl) dX0_same_2 ⟨Nat.zero_le _, Nat.zero_le _⟩ rfl ?_
    refine lv_aload_n hx hb dX0_same_5 rfl (lv_at hl 0 rfl) ?_
    refine lv_iload_n hx hb dX0_same_6 rfl (lv_at hl 2 rfl) ?_
    exact th_V (As := [.int (iZ g)]) (rest := []) S (tO_X0_needElement l hl0 D o q1 q2 cI tE tL F G k g hk (by omega) (by omega)) tb_173 tb_175 ts_X0_needElement tb_1 tb_176 hd_X0_needElement ⟨rfl, rfl, by decide, by decide⟩ tXB_bl (tXB_mv hB0) (rX_recv hB) rfl hl.1 rfl (Nat.le_of_ble_eq_true rfl) dX0_same_7 ⟨by decide, by decide⟩ hno hlk
  · exact th_V (As := [.int (iZ f)]) (rest := []) S (tO_X0_needElement l hl0 D o q1 q2 cI tE tL F G k f hk (by omega) (by omega)) tb_173 tb_175 ts_X0_needElement tb_1 tb_176 hd_X0_needElement ⟨rfl, rfl, by decide, by decide⟩ tXB_bl (tXB_mv hB0) (rX_recv hB) rfl hl.1 rfl (Nat.le_of_ble_eq_true rfl) dX0_same_2 ⟨by decide, by decide⟩ hno hlk
set_option maxHeartbeats 4000000 in
set_option maxRecDepth 100000 in
theorem tS_X0_add (l : Launch) (hl0 : l.stackTraces = false) (D : va_G) (o q1 q2 : Nat) (cI : ClassId) (tE tL : Nat) (F G : Nat → Int) (k : Int) (f g : Int) (hk : 0 ≤ k ∧ k ≤ 60) (hf : 0 ≤ f ∧ f < k) (hg : 0 ≤ g ∧ g < k) (h0 : ¬ k < 60) : th_M l yX0_add cX0_add 3 (some .int) ({ frames := 7, cells := 1, slots := 6, locals := 103 }) [.ref o, .int (iZ f), .int (iZ g)] (tXB D o q1 q2 cI tE tL F G k) exIS := by
  refine th_of (by decide) rfl (Nat.le_of_ble_eq_true rfl) ?_
  intro p e s m below meth c S hr hlk hno hB0 ls hl
  obtain ⟨hx, hb, hml, hown, hT⟩ := id S
  have hl : lv_has ls 3 [(0, .ref o), (1, .int (iZ f)), (2, .int (iZ g))] := hl
  obtain ⟨hB, hTX⟩ := id hB0
  obtain ⟨hP, hK, hsX⟩ := id hB
  obtain ⟨⟨hZE, hTE⟩, hZL, hTL⟩ := id hsX
  refine lv_aload_n hx hb dX0_add_0 rfl (lv_at hl 0 rfl) ?_
  refine lv_iload_n hx hb dX0_add_1 rfl (lv_at hl 1 rfl) ?_
  refine rd_V (As := [.int (iZ f)]) (rest := []) (st1 := []) S (k_X0_needElement l D o q1 q2 cI tE tL F G k f (by omega)) tb_173 tb_175 ts_X0_needElement tb_1 tb_176 hd_X0_needElement ⟨rfl, rfl, by decide, by decide⟩ rX_bl (rX_mv hB) (rX_recv hB) rfl hl.1 rfl (Nat.le_of_ble_eq_true rfl) dX0_add_2 ⟨Nat.zero_le _, Nat.zero_le _⟩ rfl ?_
  refine lv_aload_n hx hb dX0_add_5 rfl (lv_at hl 0 rfl) ?_
  refine lv_iload_n hx hb dX0_add_6 rfl (lv_at hl 2 rfl) ?_
  refine rd_V (As := [.int (iZ g)]) (rest := []) (st1 := []) S (k_X0_needElement l D o q1 q2 cI tE tL F G k g (by omega)) tb_173 tb_175 ts_X0_needElement tb_1 tb_176 hd_X0_needElement ⟨rfl, rfl, by decide, by decide⟩ rX_bl (rX_mv hB) (rX_recv hB) rfl hl.1 rfl (Nat.le_of_ble_eq_true rfl) dX0_add_7 ⟨Nat.zero_le _, Nat.zero_le _⟩ rfl ?_
  refine lv_aload_n hx hb dX0_add_10 rfl (lv_at hl 0 rfl) ?_
  exact th_V (As := []) (rest := []) S (tS_X0_needRoom l hl0 D o q1 q2 cI tE tL F G k  hk (by omega)) tb_123 tb_125 ts_X0_needRoom tb_1 tb_126 hd_X0_needRoom ⟨rfl, rfl, by decide, by decide⟩ tXB_bl (tXB_mv hB0) (rX_recv hB) rfl hl.1 rfl (Nat.le_of_ble_eq_true rfl) dX0_add_11 ⟨by decide, by decide⟩ hno hlk
set_option maxHeartbeats 4000000 in
set_option maxRecDepth 100000 in
theorem tS_X0_less (l : Launch) (hl0 : l.stackTraces = false) (D : va_G) (o q1 q2 : Nat) (cI : ClassId) (tE tL : Nat) (F G : Nat → Int) (k : Int) (f g v : Int) (hk : 0 ≤ k ∧ k ≤ 60) (hf : 0 ≤ f ∧ f < k) (hg : 0 ≤ g ∧ g < k) (h0 : ¬ k < 60) : th_M l yX0_less cX0_less 5 (some .int) ({ frames := 7, cells := 1, slots := 6, locals := 103 }) [.ref o, .int (iZ f), .int (iZ g), .long (lZ v)] (tXB D o q1 q2 cI tE tL F G k) exIS := by
  refine th_of (by decide) rfl (Nat.le_of_ble_eq_true rfl) ?_
  intro p e s m below meth c S hr hlk hno hB0 ls hl
  obtain ⟨hx, hb, hml, hown, hT⟩ := id S
  have hl : lv_has ls 5 [(0, .ref o), (1, .int (iZ f)), (2, .int (iZ g)), (3, .long (lZ v))] := hl
  obtain ⟨hB, hTX⟩ := id hB0
  obtain ⟨hP, hK, hsX⟩ := id hB
  obtain ⟨⟨hZE, hTE⟩, hZL, hTL⟩ := id hsX
  refine lv_aload_n hx hb dX0_less_0 rfl (lv_at hl 0 rfl) ?_
  refine lv_iload_n hx hb dX0_less_1 rfl (lv_at hl 1 rfl) ?_
  refine rd_V (As := [.int (iZ f)]) (rest := []) (st1 := []) S (k_X0_needElement l D o q1 q2 cI tE tL F G k f (by omega)) tb_173 tb_175 ts_X0_needElement tb_1 tb_176 hd_X0_needElement ⟨rfl, rfl, by decide, by decide⟩ rX_bl (rX_mv hB) (rX_recv hB) rfl hl.1 rfl (Nat.le_of_ble_eq_true rfl) dX0_less_2 ⟨Nat.zero_le _, Nat.zero_le _⟩ rfl ?_
  refine lv_aload_n hx hb dX0_less_5 rfl (lv_at hl 0 rfl) ?_
  refine lv_iload_n hx hb dX0_less_6 rfl (lv_at hl 2 rfl) ?_
  refine rd_V (As := [.int (iZ g)]) (rest := []) (st1 := []) S (k_X0_needElement l D o q1 q2 cI tE tL F G k g (by omega)) tb_173 tb_175 ts_X0_needElement tb_1 tb_176 hd_X0_needElement ⟨rfl, rfl, by decide, by decide⟩ rX_bl (rX_mv hB) (rX_recv hB) rfl hl.1 rfl (Nat.le_of_ble_eq_true rfl) dX0_less_7 ⟨Nat.zero_le _, Nat.zero_le _⟩ rfl ?_
  refine lv_aload_n hx hb dX0_less_10 rfl (lv_at hl 0 rfl) ?_
  exact th_V (As := []) (rest := []) S (tS_X0_needRoom l hl0 D o q1 q2 cI tE tL F G k  hk (by omega)) tb_123 tb_125 ts_X0_needRoom tb_1 tb_126 hd_X0_needRoom ⟨rfl, rfl, by decide, by decide⟩ tXB_bl (tXB_mv hB0) (rX_recv hB) rfl hl.1 rfl (Nat.le_of_ble_eq_true rfl) dX0_less_11 ⟨by decide, by decide⟩ hno hlk
set_option maxHeartbeats 4000000 in
set_option maxRecDepth 100000 in
theorem tS_X0_times (l : Launch) (hl0 : l.stackTraces = false) (D : va_G) (o q1 q2 : Nat) (cI : ClassId) (tE tL : Nat) (F G : Nat → Int) (k : Int) (f g : Int) (hk : 0 ≤ k ∧ k ≤ 60) (hf : 0 ≤ f ∧ f < k) (hg : 0 ≤ g ∧ g < k) (h0 : ¬ k < 60) : th_M l yX0_times cX0_times 3 (some .int) ({ frames := 7, cells := 1, slots := 6, locals := 117 }) [.ref o, .int (iZ f), .int (iZ g)] (tXB D o q1 q2 cI tE tL F G k) exIS := by
  refine th_of (by decide) rfl (Nat.le_of_ble_eq_true rfl) ?_
  intro p e s m below meth c S hr hlk hno hB0 ls hl
  obtain ⟨hx, hb, hml, hown, hT⟩ := id S
  have hl : lv_has ls 3 [(0, .ref o), (1, .int (iZ f)), (2, .int (iZ g))] := hl
  obtain ⟨hB, hTX⟩ := id hB0
  obtain ⟨hP, hK, hsX⟩ := id hB
  obtain ⟨⟨hZE, hTE⟩, hZL, hTL⟩ := id hsX
  refine lv_aload_n hx hb dX0_times_0 rfl (lv_at hl 0 rfl) ?_
  refine lv_iload_n hx hb dX0_times_1 rfl (lv_at hl 1 rfl) ?_
  refine rd_V (As := [.int (iZ f)]) (rest := []) (st1 := []) S (k_X0_needElement l D o q1 q2 cI tE tL F G k f (by omega)) tb_173 tb_175 ts_X0_needElement tb_1 tb_176 hd_X0_needElement ⟨rfl, rfl, by decide, by decide⟩ rX_bl (rX_mv hB) (rX_recv hB) rfl hl.1 rfl (Nat.le_of_ble_eq_true rfl) dX0_times_2 ⟨Nat.zero_le _, Nat.zero_le _⟩ rfl ?_
  refine lv_aload_n hx hb dX0_times_5 rfl (lv_at hl 0 rfl) ?_
  refine lv_iload_n hx hb dX0_times_6 rfl (lv_at hl 2 rfl) ?_
  refine rd_V (As := [.int (iZ g)]) (rest := []) (st1 := []) S (k_X0_needElement l D o q1 q2 cI tE tL F G k g (by omega)) tb_173 tb_175 ts_X0_needElement tb_1 tb_176 hd_X0_needElement ⟨rfl, rfl, by decide, by decide⟩ rX_bl (rX_mv hB) (rX_recv hB) rfl hl.1 rfl (Nat.le_of_ble_eq_true rfl) dX0_times_7 ⟨Nat.zero_le _, Nat.zero_le _⟩ rfl ?_
  refine lv_aload_n hx hb dX0_times_10 rfl (lv_at hl 0 rfl) ?_
  exact th_V (As := []) (rest := []) S (tS_X0_needRoom l hl0 D o q1 q2 cI tE tL F G k  hk (by omega)) tb_123 tb_125 ts_X0_needRoom tb_1 tb_126 hd_X0_needRoom ⟨rfl, rfl, by decide, by decide⟩ tXB_bl (tXB_mv hB0) (rX_recv hB) rfl hl.1 rfl (Nat.le_of_ble_eq_true rfl) dX0_times_11 ⟨by decide, by decide⟩ hno hlk
set_option maxHeartbeats 4000000 in
set_option maxRecDepth 100000 in
theorem tS_X0_derive (l : Launch) (hl0 : l.stackTraces = false) (D : va_G) (o q1 q2 : Nat) (cI : ClassId) (tE tL : Nat) (F G : Nat → Int) (k : Int) (f : Int) (hk : 0 ≤ k ∧ k ≤ 60) (hf : 0 ≤ f ∧ f < k) (h0 : ¬ k < 60) : th_M l yX0_derive cX0_derive 2 (some .int) ({ frames := 7, cells := 1, slots := 6, locals := 113 }) [.ref o, .int (iZ f)] (tXB D o q1 q2 cI tE tL F G k) exIS := by
  refine th_of (by decide) rfl (Nat.le_of_ble_eq_true rfl) ?_
  intro p e s m below meth c S hr hlk hno hB0 ls hl
  obtain ⟨hx, hb, hml, hown, hT⟩ := id S
  have hl : lv_has ls 2 [(0, .ref o), (1, .int (iZ f))] := hl
  obtain ⟨hB, hTX⟩ := id hB0
  obtain ⟨hP, hK, hsX⟩ := id hB
  obtain ⟨⟨hZE, hTE⟩, hZL, hTL⟩ := id hsX
  refine lv_aload_n hx hb dX0_derive_0 rfl (lv_at hl 0 rfl) ?_
  refine lv_iload_n hx hb dX0_derive_1 rfl (lv_at hl 1 rfl) ?_
  refine rd_V (As := [.int (iZ f)]) (rest := []) (st1 := []) S (k_X0_needElement l D o q1 q2 cI tE tL F G k f (by omega)) tb_173 tb_175 ts_X0_needElement tb_1 tb_176 hd_X0_needElement ⟨rfl, rfl, by decide, by decide⟩ rX_bl (rX_mv hB) (rX_recv hB) rfl hl.1 rfl (Nat.le_of_ble_eq_true rfl) dX0_derive_2 ⟨Nat.zero_le _, Nat.zero_le _⟩ rfl ?_
  refine lv_aload_n hx hb dX0_derive_5 rfl (lv_at hl 0 rfl) ?_
  exact th_V (As := []) (rest := []) S (tS_X0_needRoom l hl0 D o q1 q2 cI tE tL F G k  hk (by omega)) tb_123 tb_125 ts_X0_needRoom tb_1 tb_126 hd_X0_needRoom ⟨rfl, rfl, by decide, by decide⟩ tXB_bl (tXB_mv hB0) (rX_recv hB) rfl hl.1 rfl (Nat.le_of_ble_eq_true rfl) dX0_derive_6 ⟨by decide, by decide⟩ hno hlk
set_option maxHeartbeats 4000000 in
set_option maxRecDepth 100000 in
theorem tS_X0_integrate (l : Launch) (hl0 : l.stackTraces = false) (D : va_G) (o q1 q2 : Nat) (cI : ClassId) (tE tL : Nat) (F G : Nat → Int) (k : Int) (f : Int) (hk : 0 ≤ k ∧ k ≤ 60) (hf : 0 ≤ f ∧ f < k) (h0 : ¬ k < 60) : th_M l yX0_integrate cX0_integrate 2 (some .int) ({ frames := 7, cells := 1, slots := 6, locals := 135 }) [.ref o, .int (iZ f)] (tXB D o q1 q2 cI tE tL F G k) exIS := by
  refine th_of (by decide) rfl (Nat.le_of_ble_eq_true rfl) ?_
  intro p e s m below meth c S hr hlk hno hB0 ls hl
  obtain ⟨hx, hb, hml, hown, hT⟩ := id S
  have hl : lv_has ls 2 [(0, .ref o), (1, .int (iZ f))] := hl
  obtain ⟨hB, hTX⟩ := id hB0
  obtain ⟨hP, hK, hsX⟩ := id hB
  obtain ⟨⟨hZE, hTE⟩, hZL, hTL⟩ := id hsX
  refine lv_aload_n hx hb dX0_integrate_0 rfl (lv_at hl 0 rfl) ?_
  refine lv_iload_n hx hb dX0_integrate_1 rfl (lv_at hl 1 rfl) ?_
  refine rd_V (As := [.int (iZ f)]) (rest := []) (st1 := []) S (k_X0_needElement l D o q1 q2 cI tE tL F G k f (by omega)) tb_173 tb_175 ts_X0_needElement tb_1 tb_176 hd_X0_needElement ⟨rfl, rfl, by decide, by decide⟩ rX_bl (rX_mv hB) (rX_recv hB) rfl hl.1 rfl (Nat.le_of_ble_eq_true rfl) dX0_integrate_2 ⟨Nat.zero_le _, Nat.zero_le _⟩ rfl ?_
  refine lv_aload_n hx hb dX0_integrate_5 rfl (lv_at hl 0 rfl) ?_
  exact th_V (As := []) (rest := []) S (tS_X0_needRoom l hl0 D o q1 q2 cI tE tL F G k  hk (by omega)) tb_123 tb_125 ts_X0_needRoom tb_1 tb_126 hd_X0_needRoom ⟨rfl, rfl, by decide, by decide⟩ tXB_bl (tXB_mv hB0) (rX_recv hB) rfl hl.1 rfl (Nat.le_of_ble_eq_true rfl) dX0_integrate_6 ⟨by decide, by decide⟩ hno hlk
set_option maxHeartbeats 4000000 in
set_option maxRecDepth 100000 in
theorem tS_X0_term (l : Launch) (hl0 : l.stackTraces = false) (D : va_G) (o q1 q2 : Nat) (cI : ClassId) (tE tL : Nat) (F G : Nat → Int) (k : Int) (c1 n v : Int) (hk : 0 ≤ k ∧ k ≤ 60) (hc1 : 0 ≤ c1 ∧ c1 < 8) (hn : -4 ≤ n ∧ n ≤ 4) (h0 : ¬ k < 60) : th_M l yX0_term cX0_term 5 (some .int) ({ frames := 7, cells := 1, slots := 6, locals := 102 }) [.ref o, .int (iZ c1), .int (iZ n), .long (lZ v)] (tXB D o q1 q2 cI tE tL F G k) exIS := by
  refine th_of (by decide) rfl (Nat.le_of_ble_eq_true rfl) ?_
  intro p e s m below meth c S hr hlk hno hB0 ls hl
  obtain ⟨hx, hb, hml, hown, hT⟩ := id S
  have hl : lv_has ls 5 [(0, .ref o), (1, .int (iZ c1)), (2, .int (iZ n)), (3, .long (lZ v))] := hl
  obtain ⟨hB, hTX⟩ := id hB0
  obtain ⟨hP, hK, hsX⟩ := id hB
  obtain ⟨⟨hZE, hTE⟩, hZL, hTL⟩ := id hsX
  refine lv_iload_n hx hb dX0_term_0 rfl (lv_at hl 1 rfl) ?_
  refine rd_S (As := [.int (iZ c1)]) (rest := []) (st1 := []) S (k_X0_needKind l c1 (by omega)) tb_42 tb_43 tb_1 tb_44 hd_X0_needKind ⟨rfl, rfl, by decide, by decide⟩ bl_T (fun _ _ _ => trivial) rfl hl.1 rfl (Nat.le_of_ble_eq_true rfl) dX0_term_1 ⟨Nat.zero_le _, Nat.zero_le _⟩ rfl ?_
  refine lv_iload_n hx hb dX0_term_4 rfl (lv_at hl 2 rfl) ?_
  refine rd_S (As := [.int (iZ n)]) (rest := []) (st1 := []) S (k_X0_needPower l n (by omega)) tb_116 tb_117 tb_1 tb_118 hd_X0_needPower ⟨rfl, rfl, by decide, by decide⟩ bl_T (fun _ _ _ => trivial) rfl hl.1 rfl (Nat.le_of_ble_eq_true rfl) dX0_term_5 ⟨Nat.zero_le _, Nat.zero_le _⟩ rfl ?_
  refine lv_aload_n hx hb dX0_term_8 rfl (lv_at hl 0 rfl) ?_
  exact th_V (As := []) (rest := []) S (tS_X0_needRoom l hl0 D o q1 q2 cI tE tL F G k  hk (by omega)) tb_123 tb_125 ts_X0_needRoom tb_1 tb_126 hd_X0_needRoom ⟨rfl, rfl, by decide, by decide⟩ tXB_bl (tXB_mv hB0) (rX_recv hB) rfl hl.1 rfl (Nat.le_of_ble_eq_true rfl) dX0_term_9 ⟨by decide, by decide⟩ hno hlk
set_option maxHeartbeats 4000000 in
set_option maxRecDepth 100000 in
theorem tA_X0_term (l : Launch) (hl0 : l.stackTraces = false) (D : va_G) (o q1 q2 : Nat) (cI : ClassId) (tE tL : Nat) (F G : Nat → Int) (k : Int) (c1 n v : Int) (hk : 0 ≤ k ∧ k ≤ 60) (hc10 : -2147483648 ≤ c1 ∧ c1 ≤ 2147483647) (hn0 : -2147483648 ≤ n ∧ n ≤ 2147483647) (h0 : ¬ ((0 ≤ c1 ∧ c1 < 8) ∧ (-4 ≤ n ∧ n ≤ 4))) : th_M l yX0_term cX0_term 5 (some .int) ({ frames := 7, cells := 1, slots := 6, locals := 102 }) [.ref o, .int (iZ c1), .int (iZ n), .long (lZ v)] (tXB D o q1 q2 cI tE tL F G k) exIA := by
  refine th_of (by decide) rfl (Nat.le_of_ble_eq_true rfl) ?_
  intro p e s m below meth c S hr hlk hno hB0 ls hl
  obtain ⟨hx, hb, hml, hown, hT⟩ := id S
  have hl : lv_has ls 5 [(0, .ref o), (1, .int (iZ c1)), (2, .int (iZ n)), (3, .long (lZ v))] := hl
  obtain ⟨hB, hTX⟩ := id hB0
  obtain ⟨hP, hK, hsX⟩ := id hB
  obtain ⟨⟨hZE, hTE⟩, hZL, hTL⟩ := id hsX
  refine lv_iload_n hx hb dX0_term_0 rfl (lv_at hl 1 rfl) ?_
  by_cases hq1 : 0 ≤ c1 ∧ c1 < 8
  · refine rd_S (As := [.int (iZ c1)]) (rest := []) (st1 := []) S (k_X0_needKind l c1 (by omega)) tb_42 tb_43 tb_1 tb_44 hd_X0_needKind ⟨rfl, rfl, by decide, by decide⟩ bl_T (fun _ _ _ => trivial) rfl hl.1 rfl (Nat.le_of_ble_eq_true rfl) dX0_term_1 ⟨Nat.zero_le _, Nat.zero_le _⟩ rfl ?_
    refine lv_iload_n hx hb dX0_term_4 rfl (lv_at hl 2 rfl) ?_
    exact th_S (As := [.int (iZ n)]) (rest := []) S (tA_X0_needPower l hl0 n (by omega) (by omega)) tb_116 tb_117 tb_1 tb_118 hd_X0_needPower ⟨rfl, rfl, by decide, by decide⟩ tSB_bl (tSB_mv hTX) rfl hl.1 rfl (Nat.le_of_ble_eq_true rfl) dX0_term_5 ⟨by decide, by decide⟩ hno hlk
  · exact th_S (As := [.int (iZ c1)]) (rest := []) S (tA_X0_needKind l hl0 c1 (by omega) (by omega)) tb_42 tb_43 tb_1 tb_44 hd_X0_needKind ⟨rfl, rfl, by decide, by decide⟩ tSB_bl (tSB_mv hTX) rfl hl.1 rfl (Nat.le_of_ble_eq_true rfl) dX0_term_1 ⟨by decide, by decide⟩ hno hlk
set_option maxHeartbeats 4000000 in
set_option maxRecDepth 100000 in
theorem tA_X0_at (l : Launch) (hl0 : l.stackTraces = false) (D : va_G) (o q1 q2 : Nat) (cI : ClassId) (tE tL : Nat) (F G : Nat → Int) (k : Int) (f c1 n : Int) (hk : 0 ≤ k ∧ k ≤ 60) (hf : 0 ≤ f ∧ f < k) (hc10 : -2147483648 ≤ c1 ∧ c1 ≤ 2147483647) (hn0 : -2147483648 ≤ n ∧ n ≤ 2147483647) (h0 : ¬ ((0 ≤ c1 ∧ c1 < 8) ∧ (-4 ≤ n ∧ n ≤ 4))) : th_M l yX0_at cX0_at 4 (some .int) ({ frames := 7, cells := 1, slots := 6, locals := 103 }) [.ref o, .int (iZ f), .int (iZ c1), .int (iZ n)] (tXB D o q1 q2 cI tE tL F G k) exIA := by
  refine th_of (by decide) rfl (Nat.le_of_ble_eq_true rfl) ?_
  intro p e s m below meth c S hr hlk hno hB0 ls hl
  obtain ⟨hx, hb, hml, hown, hT⟩ := id S
  have hl : lv_has ls 4 [(0, .ref o), (1, .int (iZ f)), (2, .int (iZ c1)), (3, .int (iZ n))] := hl
  obtain ⟨hB, hTX⟩ := id hB0
  obtain ⟨hP, hK, hsX⟩ := id hB
  obtain ⟨⟨hZE, hTE⟩, hZL, hTL⟩ := id hsX
  refine lv_aload_n hx hb dX0_at_0 rfl (lv_at hl 0 rfl) ?_
  refine lv_iload_n hx hb dX0_at_1 rfl (lv_at hl 1 rfl) ?_
  refine rd_V (As := [.int (iZ f)]) (rest := []) (st1 := []) S (k_X0_needElement l D o q1 q2 cI tE tL F G k f (by omega)) tb_173 tb_175 ts_X0_needElement tb_1 tb_176 hd_X0_needElement ⟨rfl, rfl, by decide, by decide⟩ rX_bl (rX_mv hB) (rX_recv hB) rfl hl.1 rfl (Nat.le_of_ble_eq_true rfl) dX0_at_2 ⟨Nat.zero_le _, Nat.zero_le _⟩ rfl ?_
  refine lv_iload_n hx hb dX0_at_5 rfl (lv_at hl 2 rfl) ?_
  by_cases hq6 : 0 ≤ c1 ∧ c1 < 8
  · refine rd_S (As := [.int (iZ c1)]) (rest := []) (st1 := []) S (k_X0_needKind l c1 (by omega)) tb_42 tb_43 tb_1 tb_44 hd_X0_needKind ⟨rfl, rfl, by decide, by decide⟩ bl_T (fun _ _ _ => trivial) rfl hl.1 rfl (Nat.le_of_ble_eq_true rfl) dX0_at_6 ⟨Nat.zero_le _, Nat.zero_le _⟩ rfl ?_
    refine lv_iload_n hx hb dX0_at_9 rfl (lv_at hl 3 rfl) ?_
    exact th_S (As := [.int (iZ n)]) (rest := []) S (tA_X0_needPower l hl0 n (by omega) (by omega)) tb_116 tb_117 tb_1 tb_118 hd_X0_needPower ⟨rfl, rfl, by decide, by decide⟩ tSB_bl (tSB_mv hTX) rfl hl.1 rfl (Nat.le_of_ble_eq_true rfl) dX0_at_10 ⟨by decide, by decide⟩ hno hlk
  · exact th_S (As := [.int (iZ c1)]) (rest := []) S (tA_X0_needKind l hl0 c1 (by omega) (by omega)) tb_42 tb_43 tb_1 tb_44 hd_X0_needKind ⟨rfl, rfl, by decide, by decide⟩ tSB_bl (tSB_mv hTX) rfl hl.1 rfl (Nat.le_of_ble_eq_true rfl) dX0_at_6 ⟨by decide, by decide⟩ hno hlk
set_option maxHeartbeats 4000000 in
set_option maxRecDepth 100000 in
theorem tA_X0_rest (l : Launch) (hl0 : l.stackTraces = false) (D : va_G) (o q1 q2 : Nat) (cI : ClassId) (tE tL : Nat) (F G : Nat → Int) (k : Int) (f c1 : Int) (hk : 0 ≤ k ∧ k ≤ 60) (hf : 0 ≤ f ∧ f < k) (hc10 : -2147483648 ≤ c1 ∧ c1 ≤ 2147483647) (h0 : ¬ (0 ≤ c1 ∧ c1 < 8)) : th_M l yX0_rest cX0_rest 3 (some .int) ({ frames := 7, cells := 1, slots := 6, locals := 113 }) [.ref o, .int (iZ f), .int (iZ c1)] (tXB D o q1 q2 cI tE tL F G k) exIA := by
  refine th_of (by decide) rfl (Nat.le_of_ble_eq_true rfl) ?_
  intro p e s m below meth c S hr hlk hno hB0 ls hl
  obtain ⟨hx, hb, hml, hown, hT⟩ := id S
  have hl : lv_has ls 3 [(0, .ref o), (1, .int (iZ f)), (2, .int (iZ c1))] := hl
  obtain ⟨hB, hTX⟩ := id hB0
  obtain ⟨hP, hK, hsX⟩ := id hB
  obtain ⟨⟨hZE, hTE⟩, hZL, hTL⟩ := id hsX
  refine lv_aload_n hx hb dX0_rest_0 rfl (lv_at hl 0 rfl) ?_
  refine lv_iload_n hx hb dX0_rest_1 rfl (lv_at hl 1 rfl) ?_
  refine rd_V (As := [.int (iZ f)]) (rest := []) (st1 := []) S (k_X0_needElement l D o q1 q2 cI tE tL F G k f (by omega)) tb_173 tb_175 ts_X0_needElement tb_1 tb_176 hd_X0_needElement ⟨rfl, rfl, by decide, by decide⟩ rX_bl (rX_mv hB) (rX_recv hB) rfl hl.1 rfl (Nat.le_of_ble_eq_true rfl) dX0_rest_2 ⟨Nat.zero_le _, Nat.zero_le _⟩ rfl ?_
  refine lv_iload_n hx hb dX0_rest_5 rfl (lv_at hl 2 rfl) ?_
  exact th_S (As := [.int (iZ c1)]) (rest := []) S (tA_X0_needKind l hl0 c1 (by omega) (by omega)) tb_42 tb_43 tb_1 tb_44 hd_X0_needKind ⟨rfl, rfl, by decide, by decide⟩ tSB_bl (tSB_mv hTX) rfl hl.1 rfl (Nat.le_of_ble_eq_true rfl) dX0_rest_6 ⟨by decide, by decide⟩ hno hlk
set_option maxHeartbeats 4000000 in
set_option maxRecDepth 100000 in
theorem tA_X0_degree (l : Launch) (hl0 : l.stackTraces = false) (D : va_G) (o q1 q2 : Nat) (cI : ClassId) (tE tL : Nat) (F G : Nat → Int) (k : Int) (f c1 : Int) (hk : 0 ≤ k ∧ k ≤ 60) (hf : 0 ≤ f ∧ f < k) (hc10 : -2147483648 ≤ c1 ∧ c1 ≤ 2147483647) (h0 : ¬ (0 ≤ c1 ∧ c1 < 8)) : th_M l yX0_degree cX0_degree 4 (some .int) ({ frames := 7, cells := 1, slots := 6, locals := 103 }) [.ref o, .int (iZ f), .int (iZ c1)] (tXB D o q1 q2 cI tE tL F G k) exIA := by
  refine th_of (by decide) rfl (Nat.le_of_ble_eq_true rfl) ?_
  intro p e s m below meth c S hr hlk hno hB0 ls hl
  obtain ⟨hx, hb, hml, hown, hT⟩ := id S
  have hl : lv_has ls 4 [(0, .ref o), (1, .int (iZ f)), (2, .int (iZ c1))] := hl
  obtain ⟨hB, hTX⟩ := id hB0
  obtain ⟨hP, hK, hsX⟩ := id hB
  obtain ⟨⟨hZE, hTE⟩, hZL, hTL⟩ := id hsX
  refine lv_aload_n hx hb dX0_degree_0 rfl (lv_at hl 0 rfl) ?_
  refine lv_iload_n hx hb dX0_degree_1 rfl (lv_at hl 1 rfl) ?_
  refine rd_V (As := [.int (iZ f)]) (rest := []) (st1 := []) S (k_X0_needElement l D o q1 q2 cI tE tL F G k f (by omega)) tb_173 tb_175 ts_X0_needElement tb_1 tb_176 hd_X0_needElement ⟨rfl, rfl, by decide, by decide⟩ rX_bl (rX_mv hB) (rX_recv hB) rfl hl.1 rfl (Nat.le_of_ble_eq_true rfl) dX0_degree_2 ⟨Nat.zero_le _, Nat.zero_le _⟩ rfl ?_
  refine lv_iload_n hx hb dX0_degree_5 rfl (lv_at hl 2 rfl) ?_
  exact th_S (As := [.int (iZ c1)]) (rest := []) S (tA_X0_needKind l hl0 c1 (by omega) (by omega)) tb_42 tb_43 tb_1 tb_44 hd_X0_needKind ⟨rfl, rfl, by decide, by decide⟩ tSB_bl (tSB_mv hTX) rfl hl.1 rfl (Nat.le_of_ble_eq_true rfl) dX0_degree_6 ⟨by decide, by decide⟩ hno hlk
set_option maxHeartbeats 4000000 in
set_option maxRecDepth 100000 in
theorem tA_X0_terms (l : Launch) (hl0 : l.stackTraces = false) (D : va_G) (o q1 q2 : Nat) (cI : ClassId) (tE tL : Nat) (F G : Nat → Int) (k : Int) (f c1 : Int) (hk : 0 ≤ k ∧ k ≤ 60) (hf : 0 ≤ f ∧ f < k) (hc10 : -2147483648 ≤ c1 ∧ c1 ≤ 2147483647) (h0 : ¬ (-1 ≤ c1 ∧ c1 < 8)) : th_M l yX0_terms cX0_terms 3 (some .int) ({ frames := 7, cells := 1, slots := 6, locals := 103 }) [.ref o, .int (iZ f), .int (iZ c1)] (tXB D o q1 q2 cI tE tL F G k) exIA := by
  refine th_of (by decide) rfl (Nat.le_of_ble_eq_true rfl) ?_
  intro p e s m below meth c S hr hlk hno hB0 ls hl
  obtain ⟨hx, hb, hml, hown, hT⟩ := id S
  have hl : lv_has ls 3 [(0, .ref o), (1, .int (iZ f)), (2, .int (iZ c1))] := hl
  obtain ⟨hB, hTX⟩ := id hB0
  obtain ⟨hP, hK, hsX⟩ := id hB
  obtain ⟨⟨hZE, hTE⟩, hZL, hTL⟩ := id hsX
  refine lv_aload_n hx hb dX0_terms_0 rfl (lv_at hl 0 rfl) ?_
  refine lv_iload_n hx hb dX0_terms_1 rfl (lv_at hl 1 rfl) ?_
  refine rd_V (As := [.int (iZ f)]) (rest := []) (st1 := []) S (k_X0_needElement l D o q1 q2 cI tE tL F G k f (by omega)) tb_173 tb_175 ts_X0_needElement tb_1 tb_176 hd_X0_needElement ⟨rfl, rfl, by decide, by decide⟩ rX_bl (rX_mv hB) (rX_recv hB) rfl hl.1 rfl (Nat.le_of_ble_eq_true rfl) dX0_terms_2 ⟨Nat.zero_le _, Nat.zero_le _⟩ rfl ?_
  refine lv_iload_n hx hb dX0_terms_5 rfl (lv_at hl 2 rfl) ?_
  refine zi_const hx hb (-1) dX0_terms_6 ?_
  refine zi_cne (tgt := 19) hx hb dX0_terms_7 (by decide) (by omega) (by omega) (fun hc7 => ?_) (fun hc7 => ?_)
  · refine lv_iload_n hx hb dX0_terms_19 rfl (lv_at hl 2 rfl) ?_
    exact th_S (As := [.int (iZ c1)]) (rest := []) S (tA_X0_needKind l hl0 c1 (by omega) (by omega)) tb_42 tb_43 tb_1 tb_44 hd_X0_needKind ⟨rfl, rfl, by decide, by decide⟩ tSB_bl (tSB_mv hTX) rfl hl.1 rfl (Nat.le_of_ble_eq_true rfl) dX0_terms_20 ⟨by decide, by decide⟩ hno hlk
  · exfalso
    omega
set_option maxHeartbeats 4000000 in
set_option maxRecDepth 100000 in
theorem tF_X0_derive (l : Launch) (hl0 : l.stackTraces = false) (D : va_G) (o q1 q2 : Nat) (cI : ClassId) (tE tL : Nat) (F G : Nat → Int) (k : Int) (f : Int) (hF : ∀ j, 0 ≤ F j ∧ F j < 32003) (hk : 0 ≤ k ∧ k < 60) (hf : 0 ≤ f ∧ f < k) (h0 : stZ F f = 1) : th_M l yX0_derive cX0_derive 2 (some .int) ({ frames := 7, cells := 1, slots := 6, locals := 113 }) [.ref o, .int (iZ f)] (tXB D o q1 q2 cI tE tL F G k) exIS := by
  refine th_of (by decide) rfl (Nat.le_of_ble_eq_true rfl) ?_
  intro p e s m below meth c S hr hlk hno hB0 ls hl
  obtain ⟨hx, hb, hml, hown, hT⟩ := id S
  have hl : lv_has ls 2 [(0, .ref o), (1, .int (iZ f))] := hl
  obtain ⟨hB, hTX⟩ := id hB0
  obtain ⟨hP, hK, hsX⟩ := id hB
  obtain ⟨⟨hZE, hTE⟩, hZL, hTL⟩ := id hsX
  refine lv_aload_n hx hb dX0_derive_0 rfl (lv_at hl 0 rfl) ?_
  refine lv_iload_n hx hb dX0_derive_1 rfl (lv_at hl 1 rfl) ?_
  refine rd_V (As := [.int (iZ f)]) (rest := []) (st1 := []) S (k_X0_needElement l D o q1 q2 cI tE tL F G k f (by omega)) tb_173 tb_175 ts_X0_needElement tb_1 tb_176 hd_X0_needElement ⟨rfl, rfl, by decide, by decide⟩ rX_bl (rX_mv hB) (rX_recv hB) rfl hl.1 rfl (Nat.le_of_ble_eq_true rfl) dX0_derive_2 ⟨Nat.zero_le _, Nat.zero_le _⟩ rfl ?_
  refine lv_aload_n hx hb dX0_derive_5 rfl (lv_at hl 0 rfl) ?_
  refine rd_V (As := []) (rest := []) (st1 := []) S (k_X0_needRoom l D o q1 q2 cI tE tL F G k (by omega)) tb_123 tb_125 ts_X0_needRoom tb_1 tb_126 hd_X0_needRoom ⟨rfl, rfl, by decide, by decide⟩ rX_bl (rX_mv hB) (rX_recv hB) rfl hl.1 rfl (Nat.le_of_ble_eq_true rfl) dX0_derive_6 ⟨Nat.zero_le _, Nat.zero_le _⟩ rfl ?_
  refine lv_aload_n hx hb dX0_derive_9 rfl (lv_at hl 0 rfl) ?_
  refine lv_iload_n hx hb dX0_derive_10 rfl (lv_at hl 1 rfl) ?_
  refine rd_V (As := [.int (iZ f)]) (rest := []) (st1 := [.int (iZ (stZ F f))]) S (k_X0_slopeIsTooFar l D o q1 q2 cI tE tL F G k f hF (by omega)) tb_282 tb_284 ts_X0_slopeIsTooFar tb_1 tb_285 hd_X0_slopeIsTooFar ⟨rfl, rfl, by decide, by decide⟩ rX_bl (rX_mv hB) (rX_recv hB) rfl hl.1 rfl (Nat.le_of_ble_eq_true rfl) dX0_derive_11 ⟨Nat.zero_le _, Nat.zero_le _⟩ rfl ?_
  have hst14 := stZ_or F f
  refine zi_feq (tgt := 27) hx hb dX0_derive_14 (by decide) (by omega) (fun hc14 => ?_) (fun hc14 => ?_)
  · exfalso
    omega
  · exact xt_go (A := nA) hx hb hl0 hown hT hTX (is := 79) (text := "the slope is too far") hTX.2.1.2.1 (by decide +kernel) tb_127 tb_7 (by decide +kernel) aS_1 aS_2 aS_3 va_S.rf (by rw [hml]; exact hl.1) dX0_derive_17 dX0_derive_20 dX0_derive_21 dX0_derive_23 dX0_derive_26 hno (by decide) (Nat.le_of_ble_eq_true rfl) (by decide) (by decide) hlk (fun t _ h2 h3 => x0_end h2 h3) (fun _ h => nomatch h)
set_option maxHeartbeats 4000000 in
set_option maxRecDepth 100000 in
theorem tF_X0_integrate (l : Launch) (hl0 : l.stackTraces = false) (D : va_G) (o q1 q2 : Nat) (cI : ClassId) (tE tL : Nat) (F G : Nat → Int) (k : Int) (f : Int) (hF : ∀ j, 0 ≤ F j ∧ F j < 32003) (hk : 0 ≤ k ∧ k < 60) (hf : 0 ≤ f ∧ f < k) (h0 : hrZ F f = 0) (h1 : itZ F f = 1) : th_M l yX0_integrate cX0_integrate 2 (some .int) ({ frames := 7, cells := 1, slots := 6, locals := 135 }) [.ref o, .int (iZ f)] (tXB D o q1 q2 cI tE tL F G k) exIS := by
  refine th_of (by decide) rfl (Nat.le_of_ble_eq_true rfl) ?_
  intro p e s m below meth c S hr hlk hno hB0 ls hl
  obtain ⟨hx, hb, hml, hown, hT⟩ := id S
  have hl : lv_has ls 2 [(0, .ref o), (1, .int (iZ f))] := hl
  obtain ⟨hB, hTX⟩ := id hB0
  obtain ⟨hP, hK, hsX⟩ := id hB
  obtain ⟨⟨hZE, hTE⟩, hZL, hTL⟩ := id hsX
  refine lv_aload_n hx hb dX0_integrate_0 rfl (lv_at hl 0 rfl) ?_
  refine lv_iload_n hx hb dX0_integrate_1 rfl (lv_at hl 1 rfl) ?_
  refine rd_V (As := [.int (iZ f)]) (rest := []) (st1 := []) S (k_X0_needElement l D o q1 q2 cI tE tL F G k f (by omega)) tb_173 tb_175 ts_X0_needElement tb_1 tb_176 hd_X0_needElement ⟨rfl, rfl, by decide, by decide⟩ rX_bl (rX_mv hB) (rX_recv hB) rfl hl.1 rfl (Nat.le_of_ble_eq_true rfl) dX0_integrate_2 ⟨Nat.zero_le _, Nat.zero_le _⟩ rfl ?_
  refine lv_aload_n hx hb dX0_integrate_5 rfl (lv_at hl 0 rfl) ?_
  refine rd_V (As := []) (rest := []) (st1 := []) S (k_X0_needRoom l D o q1 q2 cI tE tL F G k (by omega)) tb_123 tb_125 ts_X0_needRoom tb_1 tb_126 hd_X0_needRoom ⟨rfl, rfl, by decide, by decide⟩ rX_bl (rX_mv hB) (rX_recv hB) rfl hl.1 rfl (Nat.le_of_ble_eq_true rfl) dX0_integrate_6 ⟨Nat.zero_le _, Nat.zero_le _⟩ rfl ?_
  refine lv_aload_n hx hb dX0_integrate_9 rfl (lv_at hl 0 rfl) ?_
  refine lv_iload_n hx hb dX0_integrate_10 rfl (lv_at hl 1 rfl) ?_
  refine rd_V (As := [.int (iZ f)]) (rest := []) (st1 := [.int (iZ (hrZ F f))]) S (k_X0_hasRest l D o q1 q2 cI tE tL F G k f hF (by omega)) tb_302 tb_304 ts_X0_hasRest tb_1 tb_305 hd_X0_hasRest ⟨rfl, rfl, by decide, by decide⟩ rX_bl (rX_mv hB) (rX_recv hB) rfl hl.1 rfl (Nat.le_of_ble_eq_true rfl) dX0_integrate_11 ⟨Nat.zero_le _, Nat.zero_le _⟩ rfl ?_
  have hhr14 := hrZ_or F f
  refine zi_feq (tgt := 19) hx hb dX0_integrate_14 (by decide) (by omega) (fun hc14 => ?_) (fun hc14 => ?_)
  · refine lv_aload_n hx hb dX0_integrate_19 rfl (lv_at hl 0 rfl) ?_
    refine lv_iload_n hx hb dX0_integrate_20 rfl (lv_at hl 1 rfl) ?_
    refine rd_V (As := [.int (iZ f)]) (rest := []) (st1 := [.int (iZ (itZ F f))]) S (k_X0_integralIsTooFar l D o q1 q2 cI tE tL F G k f hF (by omega)) tb_322 tb_324 ts_X0_integralIsTooFar tb_1 tb_325 hd_X0_integralIsTooFar ⟨rfl, rfl, by decide, by decide⟩ rX_bl (rX_mv hB) (rX_recv hB) rfl hl.1 rfl (Nat.le_of_ble_eq_true rfl) dX0_integrate_21 ⟨Nat.zero_le _, Nat.zero_le _⟩ rfl ?_
    have hit24 := itZ_or F f
    refine zi_feq (tgt := 37) hx hb dX0_integrate_24 (by decide) (by omega) (fun hc24 => ?_) (fun hc24 => ?_)
    · exfalso
      omega
    · exact xt_go (A := nA) hx hb hl0 hown hT hTX (is := 90) (text := "the integral is too far") hTX.2.1.2.1 (by decide +kernel) tb_127 tb_7 (by decide +kernel) aS_1 aS_2 aS_3 va_S.rf (by rw [hml]; exact hl.1) dX0_integrate_27 dX0_integrate_30 dX0_integrate_31 dX0_integrate_33 dX0_integrate_36 hno (by decide) (Nat.le_of_ble_eq_true rfl) (by decide) (by decide) hlk (fun t _ h2 h3 => x0_end h2 h3) (fun _ h => nomatch h)
  · exfalso
    omega
set_option maxHeartbeats 4000000 in
set_option maxRecDepth 100000 in
theorem tF_X0_times (l : Launch) (hl0 : l.stackTraces = false) (D : va_G) (o q1 q2 : Nat) (cI : ClassId) (tE tL : Nat) (F G : Nat → Int) (k : Int) (f g : Int) (hF : ∀ j, 0 ≤ F j ∧ F j < 32003) (hk : 0 ≤ k ∧ k < 60) (hf : 0 ≤ f ∧ f < k) (hg : 0 ≤ g ∧ g < k) (h0 : lmZ F f g = 1 ∨ lmZ F g f = 1) : th_M l yX0_times cX0_times 3 (some .int) ({ frames := 7, cells := 1, slots := 6, locals := 117 }) [.ref o, .int (iZ f), .int (iZ g)] (tXB D o q1 q2 cI tE tL F G k) exIS := by
  refine th_of (by decide) rfl (Nat.le_of_ble_eq_true rfl) ?_
  intro p e s m below meth c S hr hlk hno hB0 ls hl
  obtain ⟨hx, hb, hml, hown, hT⟩ := id S
  have hl : lv_has ls 3 [(0, .ref o), (1, .int (iZ f)), (2, .int (iZ g))] := hl
  obtain ⟨hB, hTX⟩ := id hB0
  obtain ⟨hP, hK, hsX⟩ := id hB
  obtain ⟨⟨hZE, hTE⟩, hZL, hTL⟩ := id hsX
  refine lv_aload_n hx hb dX0_times_0 rfl (lv_at hl 0 rfl) ?_
  refine lv_iload_n hx hb dX0_times_1 rfl (lv_at hl 1 rfl) ?_
  refine rd_V (As := [.int (iZ f)]) (rest := []) (st1 := []) S (k_X0_needElement l D o q1 q2 cI tE tL F G k f (by omega)) tb_173 tb_175 ts_X0_needElement tb_1 tb_176 hd_X0_needElement ⟨rfl, rfl, by decide, by decide⟩ rX_bl (rX_mv hB) (rX_recv hB) rfl hl.1 rfl (Nat.le_of_ble_eq_true rfl) dX0_times_2 ⟨Nat.zero_le _, Nat.zero_le _⟩ rfl ?_
  refine lv_aload_n hx hb dX0_times_5 rfl (lv_at hl 0 rfl) ?_
  refine lv_iload_n hx hb dX0_times_6 rfl (lv_at hl 2 rfl) ?_
  refine rd_V (As := [.int (iZ g)]) (rest := []) (st1 := []) S (k_X0_needElement l D o q1 q2 cI tE tL F G k g (by omega)) tb_173 tb_175 ts_X0_needElement tb_1 tb_176 hd_X0_needElement ⟨rfl, rfl, by decide, by decide⟩ rX_bl (rX_mv hB) (rX_recv hB) rfl hl.1 rfl (Nat.le_of_ble_eq_true rfl) dX0_times_7 ⟨Nat.zero_le _, Nat.zero_le _⟩ rfl ?_
  refine lv_aload_n hx hb dX0_times_10 rfl (lv_at hl 0 rfl) ?_
  refine rd_V (As := []) (rest := []) (st1 := []) S (k_X0_needRoom l D o q1 q2 cI tE tL F G k (by omega)) tb_123 tb_125 ts_X0_needRoom tb_1 tb_126 hd_X0_needRoom ⟨rfl, rfl, by decide, by decide⟩ rX_bl (rX_mv hB) (rX_recv hB) rfl hl.1 rfl (Nat.le_of_ble_eq_true rfl) dX0_times_11 ⟨Nat.zero_le _, Nat.zero_le _⟩ rfl ?_
  refine lv_aload_n hx hb dX0_times_14 rfl (lv_at hl 0 rfl) ?_
  refine lv_iload_n hx hb dX0_times_15 rfl (lv_at hl 1 rfl) ?_
  refine lv_iload_n hx hb dX0_times_16 rfl (lv_at hl 2 rfl) ?_
  refine rd_V (As := [.int (iZ f), .int (iZ g)]) (rest := []) (st1 := [.int (iZ (lmZ F f g))]) S (k_X0_logMeetsExponential l D o q1 q2 cI tE tL F G k f g hF (by omega) (by omega)) tb_215 tb_217 ts_X0_logMeetsExponential tb_1 tb_218 hd_X0_logMeetsExponential ⟨rfl, rfl, by decide, by decide⟩ rX_bl (rX_mv hB) (rX_recv hB) rfl hl.1 rfl (Nat.le_of_ble_eq_true rfl) dX0_times_17 ⟨Nat.zero_le _, Nat.zero_le _⟩ rfl ?_
  have hlm20 := lmZ_or F f g
  refine zi_fne (tgt := 32) hx hb dX0_times_20 (by decide) (by omega) (fun hc20 => ?_) (fun hc20 => ?_)
  · exact xt_go (A := nA) hx hb hl0 hown hT hTX (is := 57) (text := "a product of L and E") hTX.2.1.2.1 (by decide +kernel) tb_127 tb_7 (by decide +kernel) aS_1 aS_2 aS_3 va_S.rf (by rw [hml]; exact hl.1) dX0_times_32 dX0_times_35 dX0_times_36 dX0_times_38 dX0_times_41 hno (by decide) (Nat.le_of_ble_eq_true rfl) (by decide) (by decide) hlk (fun t _ h2 h3 => x0_end h2 h3) (fun _ h => nomatch h)
  · refine lv_aload_n hx hb dX0_times_23 rfl (lv_at hl 0 rfl) ?_
    refine lv_iload_n hx hb dX0_times_24 rfl (lv_at hl 2 rfl) ?_
    refine lv_iload_n hx hb dX0_times_25 rfl (lv_at hl 1 rfl) ?_
    refine rd_V (As := [.int (iZ g), .int (iZ f)]) (rest := []) (st1 := [.int (iZ (lmZ F g f))]) S (k_X0_logMeetsExponential l D o q1 q2 cI tE tL F G k g f hF (by omega) (by omega)) tb_215 tb_217 ts_X0_logMeetsExponential tb_1 tb_218 hd_X0_logMeetsExponential ⟨rfl, rfl, by decide, by decide⟩ rX_bl (rX_mv hB) (rX_recv hB) rfl hl.1 rfl (Nat.le_of_ble_eq_true rfl) dX0_times_26 ⟨Nat.zero_le _, Nat.zero_le _⟩ rfl ?_
    have hlm29 := lmZ_or F g f
    refine zi_feq (tgt := 42) hx hb dX0_times_29 (by decide) (by omega) (fun hc29 => ?_) (fun hc29 => ?_)
    · exfalso
      omega
    · exact xt_go (A := nA) hx hb hl0 hown hT hTX (is := 57) (text := "a product of L and E") hTX.2.1.2.1 (by decide +kernel) tb_127 tb_7 (by decide +kernel) aS_1 aS_2 aS_3 va_S.rf (by rw [hml]; exact hl.1) dX0_times_32 dX0_times_35 dX0_times_36 dX0_times_38 dX0_times_41 hno (by decide) (Nat.le_of_ble_eq_true rfl) (by decide) (by decide) hlk (fun t _ h2 h3 => x0_end h2 h3) (fun _ h => nomatch h)
