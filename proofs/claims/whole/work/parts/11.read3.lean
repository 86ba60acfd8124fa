theorem sm_mul {a b : Int} (ha : -9 ≤ a ∧ a ≤ 9) (hb : 0 ≤ b ∧ b < 32003) : -288018 ≤ a * b ∧ a * b ≤ 288018 := by
  have h1 : a * b ≤ 9 * b := Int.mul_le_mul_of_nonneg_right ha.2 hb.1
  have h2 : (-9) * b ≤ a * b := Int.mul_le_mul_of_nonneg_right ha.1 hb.1
  omega
def cnZ (F : Nat → Int) (lo : Nat) : Nat → Int
  | 0 => 0
  | m + 1 => cnZ F lo m + (if F (lo + m) = 0 then 0 else 1)
theorem cnZ_rng (F : Nat → Int) (lo m : Nat) : 0 ≤ cnZ F lo m ∧ cnZ F lo m ≤ m := by
  induction m with
  | zero => exact ⟨Int.le_refl _, Int.le_refl _⟩
  | succ m ih => unfold cnZ; split <;> omega
theorem cnZ_step {F : Nat → Int} {lo m : Nat} : cnZ F lo (m + 1) = cnZ F lo m + (if F (lo + m) = 0 then 0 else 1) := rfl
theorem cn_add {F : Nat → Int} {f a c n : Int} (hf : 0 ≤ f ∧ f < 60) (ha : 0 ≤ a) (hc : a ≤ c ∧ c < 8) (hn : -4 ≤ n ∧ n ≤ 4) {w : Int} (hw : w = (if nuZ F f c n = 0 then 0 else 1)) :
    cnZ F (f * 72 + a * 9).toNat ((c - a) * 9 + n + 4).toNat + w = cnZ F (f * 72 + a * 9).toNat ((c - a) * 9 + (n + 1) + 4).toNat := by
  rw [show ((c - a) * 9 + (n + 1) + 4).toNat = ((c - a) * 9 + n + 4).toNat + 1 by omega, cnZ_step, hw]
  have hnu : nuZ F f c n = F (f * 72 + c * 9 + n + 4).toNat := by
    unfold nuZ
    rw [if_pos (by omega)]
  rw [hnu, show (f * 72 + a * 9).toNat + ((c - a) * 9 + n + 4).toNat = (f * 72 + c * 9 + n + 4).toNat by omega]
set_option maxHeartbeats 4000000 in
set_option maxRecDepth 100000 in
theorem k_X0_countTerms (l : Launch) (D : va_G) (o q1 q2 : Nat) (cI : ClassId) (tE tL : Nat) (F G : Nat → Int) (k : Int) (f a b : Int) (hF : ∀ j, 0 ≤ F j ∧ F j < 32003) (hf : 0 ≤ f ∧ f < 60) (ha : 0 ≤ a ∧ a ≤ b + 1 ∧ b < 8) : rd_M l yX0_countTerms cX0_countTerms 7 (some .int) ({ frames := 3, cells := 0, slots := 0, locals := 65 }) [.ref o, .int (iZ f), .int (iZ a), .int (iZ b)] (rX D o q1 q2 cI tE tL F G k) (some (.int (iZ (cnZ F (f * 72 + a * 9).toNat (Int.toNat ((b - a + 1) * 9)))))) := by
  refine rd_of RX0 (by decide) rfl (Nat.le_of_ble_eq_true rfl) ?_
  intro p e s m below meth c S hr hlk hB ls hl
  obtain ⟨hx, hb, hml, hown, hT⟩ := id S
  have hl : lv_has ls 7 [(0, .ref o), (1, .int (iZ f)), (2, .int (iZ a)), (3, .int (iZ b))] := hl
  obtain ⟨hP, hK, hsX⟩ := id hB
  obtain ⟨⟨hZE, hTE⟩, hZL, hTL⟩ := id hsX
  refine zi_const hx hb 0 dX0_countTerms_0 ?_
  refine lv_istore (lv' := [(4, .int (iZ 0)), (0, .ref o), (1, .int (iZ f)), (2, .int (iZ a)), (3, .int (iZ b))]) hx hb dX0_countTerms_1 hl (by decide) rfl (fun ls hl => ?_)
  refine lv_iload_n hx hb dX0_countTerms_3 rfl (lv_at hl 3 rfl) ?_
  refine lv_istore (lv' := [(5, .int (iZ a)), (4, .int (iZ 0)), (0, .ref o), (1, .int (iZ f)), (2, .int (iZ a)), (3, .int (iZ b))]) hx hb dX0_countTerms_4 hl (by decide) rfl (fun ls hl => ?_)
  refine lp_go (nL := 7) (α := Int × Int) (fun z => [(0, .ref o), (1, .int (iZ f)), (2, .int (iZ a)), (3, .int (iZ b)), (4, .int (iZ z.1)), (5, .int (iZ z.2))]) (fun m6 z => a ≤ z.2 ∧ z.2 + (m6 : Int) = b + 1 ∧ z.1 = cnZ F (f * 72 + a * 9).toNat ((z.2 - a) * 9).toNat) ?_ ((b + 1 - a).toNat) ((0 : Int), (a : Int)) (by (try dsimp only); refine ⟨by omega, by omega, ?_⟩; rw [show ((a - a) * 9).toNat = 0 by omega]; rfl) ls (lv_sub hl [2, 3, 4, 5, 1, 0] rfl)
  intro m6 z1 hI6 ih6 ls hl
  obtain ⟨v, c⟩ := z1
  have hl : lv_has ls 7 [(0, .ref o), (1, .int (iZ f)), (2, .int (iZ a)), (3, .int (iZ b)), (4, .int (iZ v)), (5, .int (iZ c))] := hl
  have hI6 : a ≤ c ∧ c + (m6 : Int) = b + 1 ∧ v = cnZ F (f * 72 + a * 9).toNat ((c - a) * 9).toNat := hI6
  refine lv_iload hx hb dX0_countTerms_6 (lv_at hl 5 rfl) ?_
  refine lv_iload_n hx hb dX0_countTerms_8 rfl (lv_at hl 3 rfl) ?_
  refine zi_cgt (tgt := 49) hx hb dX0_countTerms_9 (by decide) (by omega) (by omega) (fun hc9 => ?_) (fun hc9 => ?_)
  · refine lv_iload hx hb dX0_countTerms_49 (lv_at hl 4 rfl) ?_
    exact rd_iret hx hb hr hlk (congrArg (fun z => some (Value.int (iZ z))) (show (cnZ F (f * 72 + a * 9).toNat (Int.toNat ((b - a + 1) * 9)) : Int) = v from by rw [hI6.2.2]; exact congrArg (cnZ F _) (by omega))) dX0_countTerms_51
  · refine zi_bi hx hb (-4) dX0_countTerms_12 (by decide) ?_
    refine lv_istore (lv' := [(6, .int (iZ (-4))), (0, .ref o), (1, .int (iZ f)), (2, .int (iZ a)), (3, .int (iZ b)), (4, .int (iZ v)), (5, .int (iZ c))]) hx hb dX0_countTerms_14 hl (by decide) rfl (fun ls hl => ?_)
    refine lp_go (nL := 7) (α := Int × Int) (fun z => [(0, .ref o), (1, .int (iZ f)), (2, .int (iZ a)), (3, .int (iZ b)), (4, .int (iZ z.1)), (5, .int (iZ c)), (6, .int (iZ z.2))]) (fun m16 z => -4 ≤ z.2 ∧ z.2 + (m16 : Int) = 5 ∧ z.1 = cnZ F (f * 72 + a * 9).toNat ((c - a) * 9 + z.2 + 4).toNat) ?_ 9 ((v : Int), ((-4) : Int)) (by (try dsimp only); refine ⟨by omega, by omega, ?_⟩; rw [hI6.2.2]; exact congrArg (cnZ F _) (by omega)) ls (lv_sub hl [1, 2, 3, 4, 5, 6, 0] rfl)
    intro m16 z2 hI16 ih16 ls hl
    obtain ⟨u, n⟩ := z2
    have hl : lv_has ls 7 [(0, .ref o), (1, .int (iZ f)), (2, .int (iZ a)), (3, .int (iZ b)), (4, .int (iZ u)), (5, .int (iZ c)), (6, .int (iZ n))] := hl
    have hI16 : -4 ≤ n ∧ n + (m16 : Int) = 5 ∧ u = cnZ F (f * 72 + a * 9).toNat ((c - a) * 9 + n + 4).toNat := hI16
    refine lv_iload hx hb dX0_countTerms_16 (lv_at hl 6 rfl) ?_
    refine zi_const hx hb 4 dX0_countTerms_18 ?_
    refine zi_cgt (tgt := 43) hx hb dX0_countTerms_19 (by decide) (by omega) (by omega) (fun hc19 => ?_) (fun hc19 => ?_)
    · refine zi_inc (lv' := [(5, .int (iZ (c + 1))), (0, .ref o), (1, .int (iZ f)), (2, .int (iZ a)), (3, .int (iZ b)), (4, .int (iZ u)), (6, .int (iZ n))]) hx hb dX0_countTerms_43 hl (k := 5) rfl (by decide) rfl (fun ls hl => ?_)
      refine lv_goto (tgt := 6) hx hb dX0_countTerms_46 (by decide) ?_
      exact ih6 (m6 - 1) (u, c + 1) (by omega) (by (try dsimp only); refine ⟨by omega, by omega, ?_⟩; rw [hI16.2.2]; exact congrArg (cnZ F _) (by omega)) ls (lv_sub hl [1, 2, 3, 4, 5, 0] rfl)
    · refine lv_aload_n hx hb dX0_countTerms_22 rfl (lv_at hl 0 rfl) ?_
      refine lv_iload_n hx hb dX0_countTerms_23 rfl (lv_at hl 1 rfl) ?_
      refine lv_iload hx hb dX0_countTerms_24 (lv_at hl 5 rfl) ?_
      refine lv_iload hx hb dX0_countTerms_26 (lv_at hl 6 rfl) ?_
      refine rd_V (As := [.int (iZ f), .int (iZ c), .int (iZ n)]) (rest := []) (st1 := [.int (iZ (nuZ F f c n))]) S (k_X0_number l D o q1 q2 cI tE tL F G k f c n (by omega) (by omega) (by omega)) tb_197 tb_199 ts_X0_number tb_1 tb_200 hd_X0_number ⟨rfl, rfl, by decide, by decide⟩ rX_bl (rX_mv hB) (rX_recv hB) rfl hl.1 rfl (Nat.le_of_ble_eq_true rfl) dX0_countTerms_28 ⟨Nat.zero_le _, Nat.zero_le _⟩ rfl ?_
      have hn31 := nuZ_rng hF f c n
      refine zi_feq (tgt := 37) hx hb dX0_countTerms_31 (by decide) (by omega) (fun hc31 => ?_) (fun hc31 => ?_)
      · refine zi_inc (lv' := [(6, .int (iZ (n + 1))), (0, .ref o), (1, .int (iZ f)), (2, .int (iZ a)), (3, .int (iZ b)), (4, .int (iZ u)), (5, .int (iZ c))]) hx hb dX0_countTerms_37 hl (k := 6) rfl (by decide) rfl (fun ls hl => ?_)
        refine lv_goto (tgt := 16) hx hb dX0_countTerms_40 (by decide) ?_
        exact ih16 (m16 - 1) (u, n + 1) (by omega) (by (try dsimp only); refine ⟨by omega, by omega, ?_⟩; rw [← cn_add (w := 0) (by omega) (by omega) (by omega) (by omega) (by rw [if_pos (by omega)])]; omega) ls (lv_sub hl [1, 2, 3, 4, 5, 6, 0] rfl)
      · refine zi_inc (lv' := [(4, .int (iZ (u + 1))), (0, .ref o), (1, .int (iZ f)), (2, .int (iZ a)), (3, .int (iZ b)), (5, .int (iZ c)), (6, .int (iZ n))]) hx hb dX0_countTerms_34 hl (k := 4) rfl (by decide) rfl (fun ls hl => ?_)
        refine zi_inc (lv' := [(6, .int (iZ (n + 1))), (4, .int (iZ (u + 1))), (0, .ref o), (1, .int (iZ f)), (2, .int (iZ a)), (3, .int (iZ b)), (5, .int (iZ c))]) hx hb dX0_countTerms_37 hl (k := 6) rfl (by decide) rfl (fun ls hl => ?_)
        refine lv_goto (tgt := 16) hx hb dX0_countTerms_40 (by decide) ?_
        exact ih16 (m16 - 1) (u + 1, n + 1) (by omega) (by (try dsimp only); refine ⟨by omega, by omega, ?_⟩; rw [← cn_add (w := 1) (by omega) (by omega) (by omega) (by omega) (by rw [if_neg (by omega)])]; omega) ls (lv_sub hl [2, 3, 4, 5, 1, 6, 0] rfl)
def lmZ (F : Nat → Int) (f g : Int) : Int := if 0 < cnZ F (f * 72 + 9).toNat 27 ∧ 0 < cnZ F (g * 72 + 36).toNat 36 then 1 else 0
def deZ (F : Nat → Int) (f : Int) : Int := if 0 < cnZ F (f * 72 + 36).toNat 18 then 1 else 0
theorem lmZ_or (F : Nat → Int) (f g : Int) : (lmZ F f g = 1 ∧ (0 < cnZ F (f * 72 + 9).toNat 27 ∧ 0 < cnZ F (g * 72 + 36).toNat 36)) ∨ (lmZ F f g = 0 ∧ ¬ (0 < cnZ F (f * 72 + 9).toNat 27 ∧ 0 < cnZ F (g * 72 + 36).toNat 36)) := by unfold lmZ; split <;> omega
theorem deZ_or (F : Nat → Int) (f : Int) : (deZ F f = 1 ∧ 0 < cnZ F (f * 72 + 36).toNat 18) ∨ (deZ F f = 0 ∧ ¬ 0 < cnZ F (f * 72 + 36).toNat 18) := by unfold deZ; split <;> omega
set_option maxHeartbeats 4000000 in
set_option maxRecDepth 100000 in
theorem k_X0_logMeetsExponential (l : Launch) (D : va_G) (o q1 q2 : Nat) (cI : ClassId) (tE tL : Nat) (F G : Nat → Int) (k : Int) (f g : Int) (hF : ∀ j, 0 ≤ F j ∧ F j < 32003) (hf : 0 ≤ f ∧ f < 60) (hg : 0 ≤ g ∧ g < 60) : rd_M l yX0_logMeetsExponential cX0_logMeetsExponential 3 (some .boolean) ({ frames := 4, cells := 0, slots := 0, locals := 91 }) [.ref o, .int (iZ f), .int (iZ g)] (rX D o q1 q2 cI tE tL F G k) (some (.int (iZ (lmZ F f g)))) := by
  refine rd_of RX0 (by decide) rfl (Nat.le_of_ble_eq_true rfl) ?_
  intro p e s m below meth c S hr hlk hB ls hl
  obtain ⟨hx, hb, hml, hown, hT⟩ := id S
  have hl : lv_has ls 3 [(0, .ref o), (1, .int (iZ f)), (2, .int (iZ g))] := hl
  obtain ⟨hP, hK, hsX⟩ := id hB
  obtain ⟨⟨hZE, hTE⟩, hZL, hTL⟩ := id hsX
  have q1e : cnZ F (f * 72 + 1 * 9).toNat (Int.toNat ((3 - 1 + 1) * 9)) = cnZ F (f * 72 + 9).toNat 27 := by rfl
  have q2e : cnZ F (g * 72 + 4 * 9).toNat (Int.toNat ((7 - 4 + 1) * 9)) = cnZ F (g * 72 + 36).toNat 36 := by rfl
  refine lv_aload_n hx hb dX0_logMeetsExponential_0 rfl (lv_at hl 0 rfl) ?_
  refine lv_iload_n hx hb dX0_logMeetsExponential_1 rfl (lv_at hl 1 rfl) ?_
  refine zi_const hx hb 1 dX0_logMeetsExponential_2 ?_
  refine zi_const hx hb 3 dX0_logMeetsExponential_3 ?_
  refine rd_V (As := [.int (iZ f), .int (iZ 1), .int (iZ 3)]) (rest := []) (st1 := [.int (iZ (cnZ F (f * 72 + 1 * 9).toNat (Int.toNat ((3 - 1 + 1) * 9))))]) S (k_X0_countTerms l D o q1 q2 cI tE tL F G k f 1 3 hF (by omega) (by omega)) tb_219 tb_221 ts_X0_countTerms tb_1 tb_222 hd_X0_countTerms ⟨rfl, rfl, by decide, by decide⟩ rX_bl (rX_mv hB) (rX_recv hB) rfl hl.1 rfl (Nat.le_of_ble_eq_true rfl) dX0_logMeetsExponential_4 ⟨Nat.zero_le _, Nat.zero_le _⟩ rfl ?_
  have hct7 := cnZ_rng F (f * 72 + 1 * 9).toNat (Int.toNat ((3 - 1 + 1) * 9))
  refine zi_fle (tgt := 25) hx hb dX0_logMeetsExponential_7 (by decide) (by omega) (fun hc7 => ?_) (fun hc7 => ?_)
  · refine zi_const hx hb 0 dX0_logMeetsExponential_25 ?_
    exact rd_zret hx hb hr hlk (congrArg (fun z => some (Value.int (iZ z))) (show (lmZ F f g : Int) = 0 from by unfold lmZ; (first | rw [if_pos (by omega)] | rw [if_neg (by omega)]))) (by decide) dX0_logMeetsExponential_26
  · refine lv_aload_n hx hb dX0_logMeetsExponential_10 rfl (lv_at hl 0 rfl) ?_
    refine lv_iload_n hx hb dX0_logMeetsExponential_11 rfl (lv_at hl 2 rfl) ?_
    refine zi_const hx hb 4 dX0_logMeetsExponential_12 ?_
    refine zi_bi hx hb 7 dX0_logMeetsExponential_13 (by decide) ?_
    refine rd_V (As := [.int (iZ g), .int (iZ 4), .int (iZ 7)]) (rest := []) (st1 := [.int (iZ (cnZ F (g * 72 + 4 * 9).toNat (Int.toNat ((7 - 4 + 1) * 9))))]) S (k_X0_countTerms l D o q1 q2 cI tE tL F G k g 4 7 hF (by omega) (by omega)) tb_219 tb_221 ts_X0_countTerms tb_1 tb_222 hd_X0_countTerms ⟨rfl, rfl, by decide, by decide⟩ rX_bl (rX_mv hB) (rX_recv hB) rfl hl.1 rfl (Nat.le_of_ble_eq_true rfl) dX0_logMeetsExponential_15 ⟨Nat.zero_le _, Nat.zero_le _⟩ rfl ?_
    have hct18 := cnZ_rng F (g * 72 + 4 * 9).toNat (Int.toNat ((7 - 4 + 1) * 9))
    refine zi_fle (tgt := 25) hx hb dX0_logMeetsExponential_18 (by decide) (by omega) (fun hc18 => ?_) (fun hc18 => ?_)
    · refine zi_const hx hb 0 dX0_logMeetsExponential_25 ?_
      exact rd_zret hx hb hr hlk (congrArg (fun z => some (Value.int (iZ z))) (show (lmZ F f g : Int) = 0 from by unfold lmZ; (first | rw [if_pos (by omega)] | rw [if_neg (by omega)]))) (by decide) dX0_logMeetsExponential_26
    · refine zi_const hx hb 1 dX0_logMeetsExponential_21 ?_
      refine lv_goto (tgt := 26) hx hb dX0_logMeetsExponential_22 (by decide) ?_
      exact rd_zret hx hb hr hlk (congrArg (fun z => some (Value.int (iZ z))) (show (lmZ F f g : Int) = 1 from by unfold lmZ; (first | rw [if_pos (by omega)] | rw [if_neg (by omega)]))) (by decide) dX0_logMeetsExponential_26
set_option maxHeartbeats 4000000 in
set_option maxRecDepth 100000 in
theorem k_X0_dividesByE (l : Launch) (D : va_G) (o q1 q2 : Nat) (cI : ClassId) (tE tL : Nat) (F G : Nat → Int) (k : Int) (f : Int) (hF : ∀ j, 0 ≤ F j ∧ F j < 32003) (hf : 0 ≤ f ∧ f < 60) : rd_M l yX0_dividesByE cX0_dividesByE 2 (some .boolean) ({ frames := 4, cells := 0, slots := 0, locals := 91 }) [.ref o, .int (iZ f)] (rX D o q1 q2 cI tE tL F G k) (some (.int (iZ (deZ F f)))) := by
  refine rd_of RX0 (by decide) rfl (Nat.le_of_ble_eq_true rfl) ?_
  intro p e s m below meth c S hr hlk hB ls hl
  obtain ⟨hx, hb, hml, hown, hT⟩ := id S
  have hl : lv_has ls 2 [(0, .ref o), (1, .int (iZ f))] := hl
  obtain ⟨hP, hK, hsX⟩ := id hB
  obtain ⟨⟨hZE, hTE⟩, hZL, hTL⟩ := id hsX
  have q1e : cnZ F (f * 72 + 4 * 9).toNat (Int.toNat ((5 - 4 + 1) * 9)) = cnZ F (f * 72 + 36).toNat 18 := by rfl
  refine lv_aload_n hx hb dX0_dividesByE_0 rfl (lv_at hl 0 rfl) ?_
  refine lv_iload_n hx hb dX0_dividesByE_1 rfl (lv_at hl 1 rfl) ?_
  refine zi_const hx hb 4 dX0_dividesByE_2 ?_
  refine zi_const hx hb 5 dX0_dividesByE_3 ?_
  refine rd_V (As := [.int (iZ f), .int (iZ 4), .int (iZ 5)]) (rest := []) (st1 := [.int (iZ (cnZ F (f * 72 + 4 * 9).toNat (Int.toNat ((5 - 4 + 1) * 9))))]) S (k_X0_countTerms l D o q1 q2 cI tE tL F G k f 4 5 hF (by omega) (by omega)) tb_219 tb_221 ts_X0_countTerms tb_1 tb_222 hd_X0_countTerms ⟨rfl, rfl, by decide, by decide⟩ rX_bl (rX_mv hB) (rX_recv hB) rfl hl.1 rfl (Nat.le_of_ble_eq_true rfl) dX0_dividesByE_4 ⟨Nat.zero_le _, Nat.zero_le _⟩ rfl ?_
  have hct7 := cnZ_rng F (f * 72 + 4 * 9).toNat (Int.toNat ((5 - 4 + 1) * 9))
  refine zi_fle (tgt := 14) hx hb dX0_dividesByE_7 (by decide) (by omega) (fun hc7 => ?_) (fun hc7 => ?_)
  · refine zi_const hx hb 0 dX0_dividesByE_14 ?_
    exact rd_zret hx hb hr hlk (congrArg (fun z => some (Value.int (iZ z))) (show (deZ F f : Int) = 0 from by unfold deZ; (first | rw [if_pos (by omega)] | rw [if_neg (by omega)]))) (by decide) dX0_dividesByE_15
  · refine zi_const hx hb 1 dX0_dividesByE_10 ?_
    refine lv_goto (tgt := 15) hx hb dX0_dividesByE_11 (by decide) ?_
    exact rd_zret hx hb hr hlk (congrArg (fun z => some (Value.int (iZ z))) (show (deZ F f : Int) = 1 from by unfold deZ; (first | rw [if_pos (by omega)] | rw [if_neg (by omega)]))) (by decide) dX0_dividesByE_15
def slZ (F : Nat → Int) (f c n : Int) : Int := ((n + 1) * nuZ F f c (n + 1) + ePz c * nuZ F f c n + (if c < 3 then (c + 1) * nuZ F f (c + 1) (n + 1) else 0)) % 32003
theorem slZ_rng (F : Nat → Int) (f c n : Int) : 0 ≤ slZ F f c n ∧ slZ F f c n < 32003 := by unfold slZ; omega
set_option maxHeartbeats 4000000 in
set_option maxRecDepth 100000 in
theorem k_X0_slopeNumber (l : Launch) (D : va_G) (o q1 q2 : Nat) (cI : ClassId) (tE tL : Nat) (F G : Nat → Int) (k : Int) (f c1 n : Int) (hF : ∀ j, 0 ≤ F j ∧ F j < 32003) (hf : 0 ≤ f ∧ f < 60) (hc1 : 0 ≤ c1 ∧ c1 < 8) (hn : -5 ≤ n ∧ n ≤ 4) : rd_M l yX0_slopeNumber cX0_slopeNumber 6 (some .int) ({ frames := 3, cells := 0, slots := 0, locals := 65 }) [.ref o, .int (iZ f), .int (iZ c1), .int (iZ n)] (rX D o q1 q2 cI tE tL F G k) (some (.int (iZ (slZ F f c1 n)))) := by
  refine rd_of RX0 (by decide) rfl (Nat.le_of_ble_eq_true rfl) ?_
  intro p e s m below meth c S hr hlk hB ls hl
  obtain ⟨hx, hb, hml, hown, hT⟩ := id S
  have hl : lv_has ls 6 [(0, .ref o), (1, .int (iZ f)), (2, .int (iZ c1)), (3, .int (iZ n))] := hl
  obtain ⟨hP, hK, hsX⟩ := id hB
  obtain ⟨⟨hZE, hTE⟩, hZL, hTL⟩ := id hsX
  have he := ePz_rng c1
  have s1 := sm_mul (a := n + 1) (by omega) (nuZ_rng hF f c1 (n + 1))
  have s2 := sm_mul (a := ePz c1) (by omega) (nuZ_rng hF f c1 n)
  have s3 := sm_mul (a := c1 + 1) (by omega) (nuZ_rng hF f (c1 + 1) (n + 1))
  refine lv_iload_n hx hb dX0_slopeNumber_0 rfl (lv_at hl 3 rfl) ?_
  refine zi_const hx hb 1 dX0_slopeNumber_1 ?_
  refine zi_add hx hb dX0_slopeNumber_2 ?_
  refine zi_i2l hx hb dX0_slopeNumber_3 (by omega) ?_
  refine lv_aload_n hx hb dX0_slopeNumber_4 rfl (lv_at hl 0 rfl) ?_
  refine lv_iload_n hx hb dX0_slopeNumber_5 rfl (lv_at hl 1 rfl) ?_
  refine lv_iload_n hx hb dX0_slopeNumber_6 rfl (lv_at hl 2 rfl) ?_
  refine lv_iload_n hx hb dX0_slopeNumber_7 rfl (lv_at hl 3 rfl) ?_
  refine zi_const hx hb 1 dX0_slopeNumber_8 ?_
  refine zi_add hx hb dX0_slopeNumber_9 ?_
  refine rd_V (As := [.int (iZ f), .int (iZ c1), .int (iZ (n + 1))]) (rest := [.long (lZ (n + 1))]) (st1 := [.int (iZ (nuZ F f c1 (n + 1))), .long (lZ (n + 1))]) S (k_X0_number l D o q1 q2 cI tE tL F G k f c1 (n + 1) (by omega) (by omega) (by omega)) tb_197 tb_199 ts_X0_number tb_1 tb_200 hd_X0_number ⟨rfl, rfl, by decide, by decide⟩ rX_bl (rX_mv hB) (rX_recv hB) rfl hl.1 rfl (Nat.le_of_ble_eq_true rfl) dX0_slopeNumber_10 ⟨Nat.zero_le _, Nat.zero_le _⟩ rfl ?_
  have hn13 := nuZ_rng hF f c1 (n + 1)
  refine zi_i2l hx hb dX0_slopeNumber_13 (by omega) ?_
  refine zl_mul hx hb dX0_slopeNumber_14 ?_
  refine zl_top (fun v1 ev1 => ?_)
  refine lv_lstore (lv' := [(4, .long (lZ v1)), (0, .ref o), (1, .int (iZ f)), (2, .int (iZ c1)), (3, .int (iZ n))]) hx hb dX0_slopeNumber_15 hl (by decide) rfl (fun ls hl => ?_)
  refine lv_lload hx hb dX0_slopeNumber_17 (lv_at hl 0 rfl) ?_
  refine lv_iload_n hx hb dX0_slopeNumber_19 rfl (lv_at hl 3 rfl) ?_
  refine rd_S (As := [.int (iZ c1)]) (rest := [.long (lZ v1)]) (st1 := [.int (iZ (ePz c1)), .long (lZ v1)]) S (k_X0_exponentialPower l tE tL c1 (by omega)) tb_239 tb_240 tb_1 tb_241 hd_X0_exponentialPower ⟨rfl, rfl, by decide, by decide⟩ sB_bl (sB_mv hsX) rfl hl.1 rfl (Nat.le_of_ble_eq_true rfl) dX0_slopeNumber_20 ⟨Nat.zero_le _, Nat.zero_le _⟩ rfl ?_
  refine zi_i2l hx hb dX0_slopeNumber_23 (by omega) ?_
  refine lv_aload_n hx hb dX0_slopeNumber_24 rfl (lv_at hl 1 rfl) ?_
  refine lv_iload_n hx hb dX0_slopeNumber_25 rfl (lv_at hl 2 rfl) ?_
  refine lv_iload_n hx hb dX0_slopeNumber_26 rfl (lv_at hl 3 rfl) ?_
  refine lv_iload_n hx hb dX0_slopeNumber_27 rfl (lv_at hl 4 rfl) ?_
  refine rd_V (As := [.int (iZ f), .int (iZ c1), .int (iZ n)]) (rest := [.long (lZ (ePz c1)), .long (lZ v1)]) (st1 := [.int (iZ (nuZ F f c1 n)), .long (lZ (ePz c1)), .long (lZ v1)]) S (k_X0_number l D o q1 q2 cI tE tL F G k f c1 n (by omega) (by omega) (by omega)) tb_197 tb_199 ts_X0_number tb_1 tb_200 hd_X0_number ⟨rfl, rfl, by decide, by decide⟩ rX_bl (rX_mv hB) (rX_recv hB) rfl hl.1 rfl (Nat.le_of_ble_eq_true rfl) dX0_slopeNumber_28 ⟨Nat.zero_le _, Nat.zero_le _⟩ rfl ?_
  have hn31 := nuZ_rng hF f c1 n
  refine zi_i2l hx hb dX0_slopeNumber_31 (by omega) ?_
  refine zl_mul hx hb dX0_slopeNumber_32 ?_
  refine zl_add hx hb dX0_slopeNumber_33 ?_
  refine zl_top (fun v2 ev2 => ?_)
  refine lv_lstore (lv' := [(4, .long (lZ v2)), (0, .ref o), (1, .int (iZ f)), (2, .int (iZ c1)), (3, .int (iZ n))]) hx hb dX0_slopeNumber_34 hl (by decide) rfl (fun ls hl => ?_)
  refine lv_iload_n hx hb dX0_slopeNumber_36 rfl (lv_at hl 3 rfl) ?_
  refine zi_const hx hb 3 dX0_slopeNumber_37 ?_
  refine zi_cge (tgt := 63) hx hb dX0_slopeNumber_38 (by decide) (by omega) (by omega) (fun hc38 => ?_) (fun hc38 => ?_)
  · refine lv_lload hx hb dX0_slopeNumber_63 (lv_at hl 0 rfl) ?_
    refine rd_S (As := [.long (lZ v2)]) (rest := []) (st1 := [.int (iZ (v2 % 32003))]) S (k_X0_reduce l v2 (by omega)) tb_157 tb_158 tb_1 tb_159 hd_X0_reduce ⟨rfl, rfl, by decide, by decide⟩ bl_T (fun _ _ _ => trivial) rfl hl.1 rfl (Nat.le_of_ble_eq_true rfl) dX0_slopeNumber_65 ⟨Nat.zero_le _, Nat.zero_le _⟩ rfl ?_
    exact rd_iret hx hb hr hlk (congrArg (fun z => some (Value.int (iZ z))) (show (slZ F f c1 n : Int) = v2 % 32003 from by unfold slZ; (first | rw [if_pos (by omega)] | rw [if_neg (by omega)]); omega)) dX0_slopeNumber_68
  · refine lv_lload hx hb dX0_slopeNumber_41 (lv_at hl 0 rfl) ?_
    refine lv_iload_n hx hb dX0_slopeNumber_43 rfl (lv_at hl 3 rfl) ?_
    refine zi_const hx hb 1 dX0_slopeNumber_44 ?_
    refine zi_add hx hb dX0_slopeNumber_45 ?_
    refine zi_i2l hx hb dX0_slopeNumber_46 (by omega) ?_
    refine lv_aload_n hx hb dX0_slopeNumber_47 rfl (lv_at hl 1 rfl) ?_
    refine lv_iload_n hx hb dX0_slopeNumber_48 rfl (lv_at hl 2 rfl) ?_
    refine lv_iload_n hx hb dX0_slopeNumber_49 rfl (lv_at hl 3 rfl) ?_
    refine zi_const hx hb 1 dX0_slopeNumber_50 ?_
    refine zi_add hx hb dX0_slopeNumber_51 ?_
    refine lv_iload_n hx hb dX0_slopeNumber_52 rfl (lv_at hl 4 rfl) ?_
    refine zi_const hx hb 1 dX0_slopeNumber_53 ?_
    refine zi_add hx hb dX0_slopeNumber_54 ?_
    refine rd_V (As := [.int (iZ f), .int (iZ (c1 + 1)), .int (iZ (n + 1))]) (rest := [.long (lZ (c1 + 1)), .long (lZ v2)]) (st1 := [.int (iZ (nuZ F f (c1 + 1) (n + 1))), .long (lZ (c1 + 1)), .long (lZ v2)]) S (k_X0_number l D o q1 q2 cI tE tL F G k f (c1 + 1) (n + 1) (by omega) (by omega) (by omega)) tb_197 tb_199 ts_X0_number tb_1 tb_200 hd_X0_number ⟨rfl, rfl, by decide, by decide⟩ rX_bl (rX_mv hB) (rX_recv hB) rfl hl.1 rfl (Nat.le_of_ble_eq_true rfl) dX0_slopeNumber_55 ⟨Nat.zero_le _, Nat.zero_le _⟩ rfl ?_
    have hn58 := nuZ_rng hF f (c1 + 1) (n + 1)
    refine zi_i2l hx hb dX0_slopeNumber_58 (by omega) ?_
    refine zl_mul hx hb dX0_slopeNumber_59 ?_
    refine zl_add hx hb dX0_slopeNumber_60 ?_
    refine zl_top (fun v3 ev3 => ?_)
    refine lv_lstore (lv' := [(4, .long (lZ v3)), (0, .ref o), (1, .int (iZ f)), (2, .int (iZ c1)), (3, .int (iZ n))]) hx hb dX0_slopeNumber_61 hl (by decide) rfl (fun ls hl => ?_)
    refine lv_lload hx hb dX0_slopeNumber_63 (lv_at hl 0 rfl) ?_
    refine rd_S (As := [.long (lZ v3)]) (rest := []) (st1 := [.int (iZ (v3 % 32003))]) S (k_X0_reduce l v3 (by omega)) tb_157 tb_158 tb_1 tb_159 hd_X0_reduce ⟨rfl, rfl, by decide, by decide⟩ bl_T (fun _ _ _ => trivial) rfl hl.1 rfl (Nat.le_of_ble_eq_true rfl) dX0_slopeNumber_65 ⟨Nat.zero_le _, Nat.zero_le _⟩ rfl ?_
    exact rd_iret hx hb hr hlk (congrArg (fun z => some (Value.int (iZ z))) (show (slZ F f c1 n : Int) = v3 % 32003 from by unfold slZ; (first | rw [if_pos (by omega)] | rw [if_neg (by omega)]); omega)) dX0_slopeNumber_68
def stZ (F : Nat → Int) (f : Int) : Int := if ∀ c : Nat, c < 8 → slZ F f c (-5) = 0 then 0 else 1
theorem stZ_or (F : Nat → Int) (f : Int) : stZ F f = 0 ∨ stZ F f = 1 := by unfold stZ; split <;> omega
set_option maxHeartbeats 4000000 in
set_option maxRecDepth 100000 in
theorem k_X0_slopeIsTooFar (l : Launch) (D : va_G) (o q1 q2 : Nat) (cI : ClassId) (tE tL : Nat) (F G : Nat → Int) (k : Int) (f : Int) (hF : ∀ j, 0 ≤ F j ∧ F j < 32003) (hf : 0 ≤ f ∧ f < 60) : rd_M l yX0_slopeIsTooFar cX0_slopeIsTooFar 3 (some .boolean) ({ frames := 4, cells := 0, slots := 0, locals := 90 }) [.ref o, .int (iZ f)] (rX D o q1 q2 cI tE tL F G k) (some (.int (iZ (stZ F f)))) := by
  refine rd_of RX0 (by decide) rfl (Nat.le_of_ble_eq_true rfl) ?_
  intro p e s m below meth c S hr hlk hB ls hl
  obtain ⟨hx, hb, hml, hown, hT⟩ := id S
  have hl : lv_has ls 3 [(0, .ref o), (1, .int (iZ f))] := hl
  obtain ⟨hP, hK, hsX⟩ := id hB
  obtain ⟨⟨hZE, hTE⟩, hZL, hTL⟩ := id hsX
  refine zi_const hx hb 0 dX0_slopeIsTooFar_0 ?_
  refine lv_istore_n (lv' := [(2, .int (iZ 0)), (0, .ref o), (1, .int (iZ f))]) hx hb dX0_slopeIsTooFar_1 rfl hl (by decide) rfl (fun ls hl => ?_)
  refine lp_go (nL := 3) (α := Int) (fun z => [(0, .ref o), (1, .int (iZ f)), (2, .int (iZ z))]) (fun m2 z => 0 ≤ z ∧ z + (m2 : Int) = 8 ∧ ∀ i : Nat, (i : Int) < z → slZ F f i (-5) = 0) ?_ 8 ((0 : Int)) (by (try dsimp only); refine ⟨by omega, by omega, ?_⟩; intro i hi; omega) ls (lv_sub hl [1, 2, 0] rfl)
  intro m2 z1 hI2 ih2 ls hl
  obtain ⟨c1, rfl⟩ : ∃ y : Int, y = z1 := ⟨_, rfl⟩
  have hl : lv_has ls 3 [(0, .ref o), (1, .int (iZ f)), (2, .int (iZ c1))] := hl
  have hI2 : 0 ≤ c1 ∧ c1 + (m2 : Int) = 8 ∧ ∀ i : Nat, (i : Int) < c1 → slZ F f i (-5) = 0 := hI2
  refine lv_iload_n hx hb dX0_slopeIsTooFar_2 rfl (lv_at hl 2 rfl) ?_
  refine zi_bi hx hb 8 dX0_slopeIsTooFar_3 (by decide) ?_
  refine zi_cge (tgt := 27) hx hb dX0_slopeIsTooFar_5 (by decide) (by omega) (by omega) (fun hc5 => ?_) (fun hc5 => ?_)
  · refine zi_const hx hb 0 dX0_slopeIsTooFar_27 ?_
    exact rd_zret hx hb hr hlk (congrArg (fun z => some (Value.int (iZ z))) (show (stZ F f : Int) = 0 from by unfold stZ; rw [if_pos]; intro i hi; exact hI2.2.2 i (by omega))) (by decide) dX0_slopeIsTooFar_28
  · refine lv_aload_n hx hb dX0_slopeIsTooFar_8 rfl (lv_at hl 0 rfl) ?_
    refine lv_iload_n hx hb dX0_slopeIsTooFar_9 rfl (lv_at hl 1 rfl) ?_
    refine lv_iload_n hx hb dX0_slopeIsTooFar_10 rfl (lv_at hl 2 rfl) ?_
    refine zi_bi hx hb (-5) dX0_slopeIsTooFar_11 (by decide) ?_
    refine rd_V (As := [.int (iZ f), .int (iZ c1), .int (iZ (-5))]) (rest := []) (st1 := [.int (iZ (slZ F f c1 (-5)))]) S (k_X0_slopeNumber l D o q1 q2 cI tE tL F G k f c1 (-5) hF (by omega) (by omega) (by omega)) tb_286 tb_288 ts_X0_slopeNumber tb_1 tb_289 hd_X0_slopeNumber ⟨rfl, rfl, by decide, by decide⟩ rX_bl (rX_mv hB) (rX_recv hB) rfl hl.1 rfl (Nat.le_of_ble_eq_true rfl) dX0_slopeIsTooFar_13 ⟨Nat.zero_le _, Nat.zero_le _⟩ rfl ?_
    have hsl16 := slZ_rng F f c1 (-5)
    refine zi_feq (tgt := 21) hx hb dX0_slopeIsTooFar_16 (by decide) (by omega) (fun hc16 => ?_) (fun hc16 => ?_)
    · refine zi_inc (lv' := [(2, .int (iZ (c1 + 1))), (0, .ref o), (1, .int (iZ f))]) hx hb dX0_slopeIsTooFar_21 hl (k := 2) rfl (by decide) rfl (fun ls hl => ?_)
      refine lv_goto (tgt := 2) hx hb dX0_slopeIsTooFar_24 (by decide) ?_
      exact ih2 (m2 - 1) (c1 + 1) (by omega) (by (try dsimp only); refine ⟨by omega, by omega, ?_⟩; intro i hi; rcases (show (i : Int) < c1 ∨ (i : Int) = c1 by omega) with h3 | h3; exact hI2.2.2 i h3; rw [h3]; omega) ls (lv_sub hl [1, 2, 0] rfl)
    · refine zi_const hx hb 1 dX0_slopeIsTooFar_19 ?_
      exact rd_zret hx hb hr hlk (congrArg (fun z => some (Value.int (iZ z))) (show (stZ F f : Int) = 1 from by unfold stZ; rw [if_neg]; intro h; have h2 := h c1.toNat (by omega); rw [Int.toNat_of_nonneg (by omega)] at h2; omega)) (by decide) dX0_slopeIsTooFar_20
def seZ (F : Nat → Int) (f c : Int) : Nat → Int
  | 0 => 0
  | m + 1 => dvZ (nuZ F f c ((m : Int) - 4) - ePz c * seZ F f c m) ((m : Int) - 3)
theorem dvZ_rng (z d : Int) : 0 ≤ dvZ z d ∧ dvZ z d < 32003 := by unfold dvZ; omega
theorem seZ_rng (F : Nat → Int) (f c : Int) (m : Nat) : 0 ≤ seZ F f c m ∧ seZ F f c m < 32003 := by
  cases m with
  | zero => exact ⟨Int.le_refl _, by unfold seZ; omega⟩
  | succ m => exact dvZ_rng _ _
def rsZ (F : Nat → Int) (f c : Int) : Int := if c ≤ 3 then 0 else (nuZ F f c (-1) - ePz c * seZ F f c 3) % 32003
theorem rsZ_rng (F : Nat → Int) (f c : Int) : 0 ≤ rsZ F f c ∧ rsZ F f c < 32003 := by unfold rsZ; split <;> omega
set_option maxHeartbeats 4000000 in
set_option maxRecDepth 100000 in
theorem k_X0_restOf (l : Launch) (D : va_G) (o q1 q2 : Nat) (cI : ClassId) (tE tL : Nat) (F G : Nat → Int) (k : Int) (f c1 : Int) (hF : ∀ j, 0 ≤ F j ∧ F j < 32003) (hf : 0 ≤ f ∧ f < 60) (hc1 : 0 ≤ c1 ∧ c1 < 8) : rd_M l yX0_restOf cX0_restOf 6 (some .int) ({ frames := 4, cells := 0, slots := 0, locals := 88 }) [.ref o, .int (iZ f), .int (iZ c1)] (rX D o q1 q2 cI tE tL F G k) (some (.int (iZ (rsZ F f c1)))) := by
  refine rd_of RX0 (by decide) rfl (Nat.le_of_ble_eq_true rfl) ?_
  intro p e s m below meth c S hr hlk hB ls hl
  obtain ⟨hx, hb, hml, hown, hT⟩ := id S
  have hl : lv_has ls 6 [(0, .ref o), (1, .int (iZ f)), (2, .int (iZ c1))] := hl
  obtain ⟨hP, hK, hsX⟩ := id hB
  obtain ⟨⟨hZE, hTE⟩, hZL, hTL⟩ := id hsX
  have he := ePz_rng c1
  refine lv_iload_n hx hb dX0_restOf_0 rfl (lv_at hl 2 rfl) ?_
  refine zi_const hx hb 3 dX0_restOf_1 ?_
  refine zi_cgt (tgt := 7) hx hb dX0_restOf_2 (by decide) (by omega) (by omega) (fun hc2 => ?_) (fun hc2 => ?_)
  · refine lv_iload_n hx hb dX0_restOf_7 rfl (lv_at hl 2 rfl) ?_
    refine rd_S (As := [.int (iZ c1)]) (rest := []) (st1 := [.int (iZ (ePz c1))]) S (k_X0_exponentialPower l tE tL c1 (by omega)) tb_239 tb_240 tb_1 tb_241 hd_X0_exponentialPower ⟨rfl, rfl, by decide, by decide⟩ sB_bl (sB_mv hsX) rfl hl.1 rfl (Nat.le_of_ble_eq_true rfl) dX0_restOf_8 ⟨Nat.zero_le _, Nat.zero_le _⟩ rfl ?_
    refine zi_top (fun v1 ev1 => ?_)
    refine lv_istore_n (lv' := [(3, .int (iZ v1)), (0, .ref o), (1, .int (iZ f)), (2, .int (iZ c1))]) hx hb dX0_restOf_11 rfl hl (by decide) rfl (fun ls hl => ?_)
    refine zi_const hx hb 0 dX0_restOf_12 ?_
    refine lv_istore (lv' := [(4, .int (iZ 0)), (3, .int (iZ v1)), (0, .ref o), (1, .int (iZ f)), (2, .int (iZ c1))]) hx hb dX0_restOf_13 hl (by decide) rfl (fun ls hl => ?_)
    refine zi_bi hx hb (-4) dX0_restOf_15 (by decide) ?_
    refine lv_istore (lv' := [(5, .int (iZ (-4))), (4, .int (iZ 0)), (3, .int (iZ v1)), (0, .ref o), (1, .int (iZ f)), (2, .int (iZ c1))]) hx hb dX0_restOf_17 hl (by decide) rfl (fun ls hl => ?_)
    refine lp_go (nL := 6) (α := Int × Int) (fun z => [(0, .ref o), (1, .int (iZ f)), (2, .int (iZ c1)), (3, .int (iZ v1)), (4, .int (iZ z.1)), (5, .int (iZ z.2))]) (fun m19 z => -4 ≤ z.2 ∧ z.2 + (m19 : Int) = -1 ∧ z.1 = seZ F f c1 (z.2 + 4).toNat) ?_ 3 ((0 : Int), ((-4) : Int)) (by (try dsimp only); refine ⟨by omega, by omega, ?_⟩; rfl) ls (lv_sub hl [3, 4, 5, 2, 1, 0] rfl)
    intro m19 z2 hI19 ih19 ls hl
    obtain ⟨v, n⟩ := z2
    have hl : lv_has ls 6 [(0, .ref o), (1, .int (iZ f)), (2, .int (iZ c1)), (3, .int (iZ v1)), (4, .int (iZ v)), (5, .int (iZ n))] := hl
    have hI19 : -4 ≤ n ∧ n + (m19 : Int) = -1 ∧ v = seZ F f c1 (n + 4).toNat := hI19
    have hvr := seZ_rng F f c1 (n + 4).toNat
    rw [← hI19.2.2] at hvr
    have sv := sm_mul (a := v1) (by omega) hvr
    refine lv_iload hx hb dX0_restOf_19 (lv_at hl 5 rfl) ?_
    refine zi_const hx hb (-1) dX0_restOf_21 ?_
    refine zi_cge (tgt := 56) hx hb dX0_restOf_22 (by decide) (by omega) (by omega) (fun hc22 => ?_) (fun hc22 => ?_)
    · refine lv_aload_n hx hb dX0_restOf_56 rfl (lv_at hl 0 rfl) ?_
      refine lv_iload_n hx hb dX0_restOf_57 rfl (lv_at hl 1 rfl) ?_
      refine lv_iload_n hx hb dX0_restOf_58 rfl (lv_at hl 2 rfl) ?_
      refine zi_const hx hb (-1) dX0_restOf_59 ?_
      refine rd_V (As := [.int (iZ f), .int (iZ c1), .int (iZ (-1))]) (rest := []) (st1 := [.int (iZ (nuZ F f c1 (-1)))]) S (k_X0_number l D o q1 q2 cI tE tL F G k f c1 (-1) (by omega) (by omega) (by omega)) tb_197 tb_199 ts_X0_number tb_1 tb_200 hd_X0_number ⟨rfl, rfl, by decide, by decide⟩ rX_bl (rX_mv hB) (rX_recv hB) rfl hl.1 rfl (Nat.le_of_ble_eq_true rfl) dX0_restOf_60 ⟨Nat.zero_le _, Nat.zero_le _⟩ rfl ?_
      have hn63 := nuZ_rng hF f c1 (-1)
      refine zi_i2l hx hb dX0_restOf_63 (by omega) ?_
      refine lv_iload_n hx hb dX0_restOf_64 rfl (lv_at hl 3 rfl) ?_
      refine zi_i2l hx hb dX0_restOf_65 (by omega) ?_
      refine lv_iload hx hb dX0_restOf_66 (lv_at hl 4 rfl) ?_
      refine zi_i2l hx hb dX0_restOf_68 (by omega) ?_
      refine zl_mul hx hb dX0_restOf_69 ?_
      refine zl_sub hx hb dX0_restOf_70 ?_
      refine rd_S (As := [.long (lZ ((nuZ F f c1 (-1)) - (v1 * v)))]) (rest := []) (st1 := [.int (iZ (((nuZ F f c1 (-1)) - (v1 * v)) % 32003))]) S (k_X0_reduce l ((nuZ F f c1 (-1)) - (v1 * v)) (by omega)) tb_157 tb_158 tb_1 tb_159 hd_X0_reduce ⟨rfl, rfl, by decide, by decide⟩ bl_T (fun _ _ _ => trivial) rfl hl.1 rfl (Nat.le_of_ble_eq_true rfl) dX0_restOf_71 ⟨Nat.zero_le _, Nat.zero_le _⟩ rfl ?_
      exact rd_iret hx hb hr hlk (congrArg (fun z => some (Value.int (iZ z))) (show (rsZ F f c1 : Int) = ((nuZ F f c1 (-1)) - (v1 * v)) % 32003 from by unfold rsZ; rw [if_neg (by omega), hI19.2.2, ev1, show (n + 4).toNat = 3 by omega])) dX0_restOf_74
    · refine lv_aload_n hx hb dX0_restOf_25 rfl (lv_at hl 0 rfl) ?_
      refine lv_iload_n hx hb dX0_restOf_26 rfl (lv_at hl 1 rfl) ?_
      refine lv_iload_n hx hb dX0_restOf_27 rfl (lv_at hl 2 rfl) ?_
      refine lv_iload hx hb dX0_restOf_28 (lv_at hl 5 rfl) ?_
      refine rd_V (As := [.int (iZ f), .int (iZ c1), .int (iZ n)]) (rest := []) (st1 := [.int (iZ (nuZ F f c1 n))]) S (k_X0_number l D o q1 q2 cI tE tL F G k f c1 n (by omega) (by omega) (by omega)) tb_197 tb_199 ts_X0_number tb_1 tb_200 hd_X0_number ⟨rfl, rfl, by decide, by decide⟩ rX_bl (rX_mv hB) (rX_recv hB) rfl hl.1 rfl (Nat.le_of_ble_eq_true rfl) dX0_restOf_30 ⟨Nat.zero_le _, Nat.zero_le _⟩ rfl ?_
      have hn33 := nuZ_rng hF f c1 n
      refine zi_i2l hx hb dX0_restOf_33 (by omega) ?_
      refine lv_iload_n hx hb dX0_restOf_34 rfl (lv_at hl 3 rfl) ?_
      refine zi_i2l hx hb dX0_restOf_35 (by omega) ?_
      refine lv_iload hx hb dX0_restOf_36 (lv_at hl 4 rfl) ?_
      refine zi_i2l hx hb dX0_restOf_38 (by omega) ?_
      refine zl_mul hx hb dX0_restOf_39 ?_
      refine zl_sub hx hb dX0_restOf_40 ?_
      refine lv_iload hx hb dX0_restOf_41 (lv_at hl 5 rfl) ?_
      refine zi_const hx hb 1 dX0_restOf_43 ?_
      refine zi_add hx hb dX0_restOf_44 ?_
      refine rd_S (As := [.long (lZ ((nuZ F f c1 n) - (v1 * v))), .int (iZ (n + 1))]) (rest := []) (st1 := [.int (iZ (dvZ ((nuZ F f c1 n) - (v1 * v)) (n + 1)))]) S (k_X0_divide l ((nuZ F f c1 n) - (v1 * v)) (n + 1) (by omega) (by omega)) tb_310 tb_311 tb_1 tb_312 hd_X0_divide ⟨rfl, rfl, by decide, by decide⟩ bl_T (fun _ _ _ => trivial) rfl hl.1 rfl (Nat.le_of_ble_eq_true rfl) dX0_restOf_45 ⟨Nat.zero_le _, Nat.zero_le _⟩ rfl ?_
      refine zi_top (fun v3 ev3 => ?_)
      refine lv_istore (lv' := [(4, .int (iZ v3)), (0, .ref o), (1, .int (iZ f)), (2, .int (iZ c1)), (3, .int (iZ v1)), (5, .int (iZ n))]) hx hb dX0_restOf_48 hl (by decide) rfl (fun ls hl => ?_)
      refine zi_inc (lv' := [(5, .int (iZ (n + 1))), (4, .int (iZ v3)), (0, .ref o), (1, .int (iZ f)), (2, .int (iZ c1)), (3, .int (iZ v1))]) hx hb dX0_restOf_50 hl (k := 5) rfl (by decide) rfl (fun ls hl => ?_)
      refine lv_goto (tgt := 19) hx hb dX0_restOf_53 (by decide) ?_
      exact ih19 (m19 - 1) (v3, n + 1) (by omega) (by (try dsimp only); refine ⟨by omega, by omega, ?_⟩; rw [show (n + 1 + 4).toNat = (n + 4).toNat + 1 by omega]; unfold seZ; rw [ev3, hI19.2.2, show (((n + 4).toNat : Nat) : Int) = n + 4 by omega, show n + 4 - 4 = n by omega, show n + 4 - 3 = n + 1 by omega, ev1]) ls (lv_sub hl [2, 3, 4, 5, 1, 0] rfl)
  · refine zi_const hx hb 0 dX0_restOf_5 ?_
    exact rd_iret hx hb hr hlk (congrArg (fun z => some (Value.int (iZ z))) (show (rsZ F f c1 : Int) = 0 from by unfold rsZ; rw [if_pos (by omega)])) dX0_restOf_6
def hrZ (F : Nat → Int) (f : Int) : Int := if ∀ c : Nat, c < 4 → rsZ F f (c + 4) = 0 then 0 else 1
theorem hrZ_or (F : Nat → Int) (f : Int) : hrZ F f = 0 ∨ hrZ F f = 1 := by unfold hrZ; split <;> omega
set_option maxHeartbeats 4000000 in
set_option maxRecDepth 100000 in
theorem k_X0_hasRest (l : Launch) (D : va_G) (o q1 q2 : Nat) (cI : ClassId) (tE tL : Nat) (F G : Nat → Int) (k : Int) (f : Int) (hF : ∀ j, 0 ≤ F j ∧ F j < 32003) (hf : 0 ≤ f ∧ f < 60) : rd_M l yX0_hasRest cX0_hasRest 3 (some .boolean) ({ frames := 5, cells := 0, slots := 0, locals := 113 }) [.ref o, .int (iZ f)] (rX D o q1 q2 cI tE tL F G k) (some (.int (iZ (hrZ F f)))) := by
  refine rd_of RX0 (by decide) rfl (Nat.le_of_ble_eq_true rfl) ?_
  intro p e s m below meth c S hr hlk hB ls hl
  obtain ⟨hx, hb, hml, hown, hT⟩ := id S
  have hl : lv_has ls 3 [(0, .ref o), (1, .int (iZ f))] := hl
  obtain ⟨hP, hK, hsX⟩ := id hB
  obtain ⟨⟨hZE, hTE⟩, hZL, hTL⟩ := id hsX
  refine zi_const hx hb 4 dX0_hasRest_0 ?_
  refine lv_istore_n (lv' := [(2, .int (iZ 4)), (0, .ref o), (1, .int (iZ f))]) hx hb dX0_hasRest_1 rfl hl (by decide) rfl (fun ls hl => ?_)
  refine lp_go (nL := 3) (α := Int) (fun z => [(0, .ref o), (1, .int (iZ f)), (2, .int (iZ z))]) (fun m2 z => 4 ≤ z ∧ z + (m2 : Int) = 8 ∧ ∀ i : Nat, (i : Int) + 4 < z → rsZ F f (i + 4) = 0) ?_ 4 ((4 : Int)) (by (try dsimp only); refine ⟨by omega, by omega, ?_⟩; intro i hi; omega) ls (lv_sub hl [1, 2, 0] rfl)
  intro m2 z1 hI2 ih2 ls hl
  obtain ⟨c1, rfl⟩ : ∃ y : Int, y = z1 := ⟨_, rfl⟩
  have hl : lv_has ls 3 [(0, .ref o), (1, .int (iZ f)), (2, .int (iZ c1))] := hl
  have hI2 : 4 ≤ c1 ∧ c1 + (m2 : Int) = 8 ∧ ∀ i : Nat, (i : Int) + 4 < c1 → rsZ F f (i + 4) = 0 := hI2
  refine lv_iload_n hx hb dX0_hasRest_2 rfl (lv_at hl 2 rfl) ?_
  refine zi_bi hx hb 8 dX0_hasRest_3 (by decide) ?_
  refine zi_cge (tgt := 25) hx hb dX0_hasRest_5 (by decide) (by omega) (by omega) (fun hc5 => ?_) (fun hc5 => ?_)
  · refine zi_const hx hb 0 dX0_hasRest_25 ?_
    exact rd_zret hx hb hr hlk (congrArg (fun z => some (Value.int (iZ z))) (show (hrZ F f : Int) = 0 from by unfold hrZ; rw [if_pos]; intro i hi; exact hI2.2.2 i (by omega))) (by decide) dX0_hasRest_26
  · refine lv_aload_n hx hb dX0_hasRest_8 rfl (lv_at hl 0 rfl) ?_
    refine lv_iload_n hx hb dX0_hasRest_9 rfl (lv_at hl 1 rfl) ?_
    refine lv_iload_n hx hb dX0_hasRest_10 rfl (lv_at hl 2 rfl) ?_
    refine rd_V (As := [.int (iZ f), .int (iZ c1)]) (rest := []) (st1 := [.int (iZ (rsZ F f c1))]) S (k_X0_restOf l D o q1 q2 cI tE tL F G k f c1 hF (by omega) (by omega)) tb_306 tb_308 ts_X0_restOf tb_1 tb_309 hd_X0_restOf ⟨rfl, rfl, by decide, by decide⟩ rX_bl (rX_mv hB) (rX_recv hB) rfl hl.1 rfl (Nat.le_of_ble_eq_true rfl) dX0_hasRest_11 ⟨Nat.zero_le _, Nat.zero_le _⟩ rfl ?_
    have hrs14 := rsZ_rng F f c1
    refine zi_feq (tgt := 19) hx hb dX0_hasRest_14 (by decide) (by omega) (fun hc14 => ?_) (fun hc14 => ?_)
    · refine zi_inc (lv' := [(2, .int (iZ (c1 + 1))), (0, .ref o), (1, .int (iZ f))]) hx hb dX0_hasRest_19 hl (k := 2) rfl (by decide) rfl (fun ls hl => ?_)
      refine lv_goto (tgt := 2) hx hb dX0_hasRest_22 (by decide) ?_
      exact ih2 (m2 - 1) (c1 + 1) (by omega) (by (try dsimp only); refine ⟨by omega, by omega, ?_⟩; intro i hi; rcases (show (i : Int) + 4 < c1 ∨ (i : Int) + 4 = c1 by omega) with h3 | h3; exact hI2.2.2 i h3; rw [h3]; omega) ls (lv_sub hl [1, 2, 0] rfl)
    · refine zi_const hx hb 1 dX0_hasRest_17 ?_
      exact rd_zret hx hb hr hlk (congrArg (fun z => some (Value.int (iZ z))) (show (hrZ F f : Int) = 1 from by unfold hrZ; rw [if_neg]; intro h; have h2 := h (c1 - 4).toNat (by omega); rw [Int.toNat_of_nonneg (by omega), show c1 - 4 + 4 = c1 by omega] at h2; omega)) (by decide) dX0_hasRest_18
def itZ (F : Nat → Int) (f : Int) : Int := if (∀ c : Nat, c < 4 → nuZ F f c 4 = 0) ∧ nuZ F f 3 (-1) = 0 then 0 else 1
theorem itZ_or (F : Nat → Int) (f : Int) : itZ F f = 0 ∨ itZ F f = 1 := by unfold itZ; split <;> omega
set_option maxHeartbeats 4000000 in
set_option maxRecDepth 100000 in
theorem k_X0_integralIsTooFar (l : Launch) (D : va_G) (o q1 q2 : Nat) (cI : ClassId) (tE tL : Nat) (F G : Nat → Int) (k : Int) (f : Int) (hF : ∀ j, 0 ≤ F j ∧ F j < 32003) (hf : 0 ≤ f ∧ f < 60) : rd_M l yX0_integralIsTooFar cX0_integralIsTooFar 3 (some .boolean) ({ frames := 3, cells := 0, slots := 0, locals := 65 }) [.ref o, .int (iZ f)] (rX D o q1 q2 cI tE tL F G k) (some (.int (iZ (itZ F f)))) := by
  refine rd_of RX0 (by decide) rfl (Nat.le_of_ble_eq_true rfl) ?_
  intro p e s m below meth c S hr hlk hB ls hl
  obtain ⟨hx, hb, hml, hown, hT⟩ := id S
  have hl : lv_has ls 3 [(0, .ref o), (1, .int (iZ f))] := hl
  obtain ⟨hP, hK, hsX⟩ := id hB
  obtain ⟨⟨hZE, hTE⟩, hZL, hTL⟩ := id hsX
  refine zi_const hx hb 0 dX0_integralIsTooFar_0 ?_
  refine lv_istore_n (lv' := [(2, .int (iZ 0)), (0, .ref o), (1, .int (iZ f))]) hx hb dX0_integralIsTooFar_1 rfl hl (by decide) rfl (fun ls hl => ?_)
  refine lp_go (nL := 3) (α := Int) (fun z => [(0, .ref o), (1, .int (iZ f)), (2, .int (iZ z))]) (fun m2 z => 0 ≤ z ∧ z + (m2 : Int) = 4 ∧ ∀ i : Nat, (i : Int) < z → nuZ F f i 4 = 0) ?_ 4 ((0 : Int)) (by (try dsimp only); refine ⟨by omega, by omega, ?_⟩; intro i hi; omega) ls (lv_sub hl [1, 2, 0] rfl)
  intro m2 z1 hI2 ih2 ls hl
  obtain ⟨c1, rfl⟩ : ∃ y : Int, y = z1 := ⟨_, rfl⟩
  have hl : lv_has ls 3 [(0, .ref o), (1, .int (iZ f)), (2, .int (iZ c1))] := hl
  have hI2 : 0 ≤ c1 ∧ c1 + (m2 : Int) = 4 ∧ ∀ i : Nat, (i : Int) < c1 → nuZ F f i 4 = 0 := hI2
  refine lv_iload_n hx hb dX0_integralIsTooFar_2 rfl (lv_at hl 2 rfl) ?_
  refine zi_const hx hb 3 dX0_integralIsTooFar_3 ?_
  refine zi_cgt (tgt := 25) hx hb dX0_integralIsTooFar_4 (by decide) (by omega) (by omega) (fun hc4 => ?_) (fun hc4 => ?_)
  · refine lv_aload_n hx hb dX0_integralIsTooFar_25 rfl (lv_at hl 0 rfl) ?_
    refine lv_iload_n hx hb dX0_integralIsTooFar_26 rfl (lv_at hl 1 rfl) ?_
    refine zi_const hx hb 3 dX0_integralIsTooFar_27 ?_
    refine zi_const hx hb (-1) dX0_integralIsTooFar_28 ?_
    refine rd_V (As := [.int (iZ f), .int (iZ 3), .int (iZ (-1))]) (rest := []) (st1 := [.int (iZ (nuZ F f 3 (-1)))]) S (k_X0_number l D o q1 q2 cI tE tL F G k f 3 (-1) (by omega) (by omega) (by omega)) tb_197 tb_199 ts_X0_number tb_1 tb_200 hd_X0_number ⟨rfl, rfl, by decide, by decide⟩ rX_bl (rX_mv hB) (rX_recv hB) rfl hl.1 rfl (Nat.le_of_ble_eq_true rfl) dX0_integralIsTooFar_29 ⟨Nat.zero_le _, Nat.zero_le _⟩ rfl ?_
    have hn32 := nuZ_rng hF f 3 (-1)
    refine zi_feq (tgt := 39) hx hb dX0_integralIsTooFar_32 (by decide) (by omega) (fun hc32 => ?_) (fun hc32 => ?_)
    · refine zi_const hx hb 0 dX0_integralIsTooFar_39 ?_
      exact rd_zret hx hb hr hlk (congrArg (fun z => some (Value.int (iZ z))) (show (itZ F f : Int) = 0 from by unfold itZ; rw [if_pos]; exact ⟨fun i hi => hI2.2.2 i (by omega), by omega⟩)) (by decide) dX0_integralIsTooFar_40
    · refine zi_const hx hb 1 dX0_integralIsTooFar_35 ?_
      refine lv_goto (tgt := 40) hx hb dX0_integralIsTooFar_36 (by decide) ?_
      exact rd_zret hx hb hr hlk (congrArg (fun z => some (Value.int (iZ z))) (show (itZ F f : Int) = 1 from by unfold itZ; rw [if_neg]; intro h; exact absurd h.2 (by omega))) (by decide) dX0_integralIsTooFar_40
  · refine lv_aload_n hx hb dX0_integralIsTooFar_7 rfl (lv_at hl 0 rfl) ?_
    refine lv_iload_n hx hb dX0_integralIsTooFar_8 rfl (lv_at hl 1 rfl) ?_
    refine lv_iload_n hx hb dX0_integralIsTooFar_9 rfl (lv_at hl 2 rfl) ?_
    refine zi_const hx hb 4 dX0_integralIsTooFar_10 ?_
    refine rd_V (As := [.int (iZ f), .int (iZ c1), .int (iZ 4)]) (rest := []) (st1 := [.int (iZ (nuZ F f c1 4))]) S (k_X0_number l D o q1 q2 cI tE tL F G k f c1 4 (by omega) (by omega) (by omega)) tb_197 tb_199 ts_X0_number tb_1 tb_200 hd_X0_number ⟨rfl, rfl, by decide, by decide⟩ rX_bl (rX_mv hB) (rX_recv hB) rfl hl.1 rfl (Nat.le_of_ble_eq_true rfl) dX0_integralIsTooFar_11 ⟨Nat.zero_le _, Nat.zero_le _⟩ rfl ?_
    have hn14 := nuZ_rng hF f c1 4
    refine zi_feq (tgt := 19) hx hb dX0_integralIsTooFar_14 (by decide) (by omega) (fun hc14 => ?_) (fun hc14 => ?_)
    · refine zi_inc (lv' := [(2, .int (iZ (c1 + 1))), (0, .ref o), (1, .int (iZ f))]) hx hb dX0_integralIsTooFar_19 hl (k := 2) rfl (by decide) rfl (fun ls hl => ?_)
      refine lv_goto (tgt := 2) hx hb dX0_integralIsTooFar_22 (by decide) ?_
      exact ih2 (m2 - 1) (c1 + 1) (by omega) (by (try dsimp only); refine ⟨by omega, by omega, ?_⟩; intro i hi; rcases (show (i : Int) < c1 ∨ (i : Int) = c1 by omega) with h3 | h3; exact hI2.2.2 i h3; rw [h3]; omega) ls (lv_sub hl [1, 2, 0] rfl)
    · refine zi_const hx hb 1 dX0_integralIsTooFar_17 ?_
      exact rd_zret hx hb hr hlk (congrArg (fun z => some (Value.int (iZ z))) (show (itZ F f : Int) = 1 from by unfold itZ; rw [if_neg]; intro h; have h2 := h.1 c1.toNat (by omega); rw [Int.toNat_of_nonneg (by omega)] at h2; omega)) (by decide) dX0_integralIsTooFar_18
def dxZ (F : Nat → Int) (f : Int) : Int := if ∀ c : Nat, c < 8 → ∀ j : Nat, j < 4 → nuZ F f c ((j : Int) - 4) = 0 then 0 else 1
theorem dxZ_or (F : Nat → Int) (f : Int) : dxZ F f = 0 ∨ dxZ F f = 1 := by unfold dxZ; split <;> omega
set_option maxHeartbeats 4000000 in
set_option maxRecDepth 100000 in
theorem k_X0_dividesByX (l : Launch) (D : va_G) (o q1 q2 : Nat) (cI : ClassId) (tE tL : Nat) (F G : Nat → Int) (k : Int) (f : Int) (hF : ∀ j, 0 ≤ F j ∧ F j < 32003) (hf : 0 ≤ f ∧ f < 60) : rd_M l yX0_dividesByX cX0_dividesByX 4 (some .boolean) ({ frames := 3, cells := 0, slots := 0, locals := 65 }) [.ref o, .int (iZ f)] (rX D o q1 q2 cI tE tL F G k) (some (.int (iZ (dxZ F f)))) := by
  refine rd_of RX0 (by decide) rfl (Nat.le_of_ble_eq_true rfl) ?_
  intro p e s m below meth c S hr hlk hB ls hl
  obtain ⟨hx, hb, hml, hown, hT⟩ := id S
  have hl : lv_has ls 4 [(0, .ref o), (1, .int (iZ f))] := hl
  obtain ⟨hP, hK, hsX⟩ := id hB
  obtain ⟨⟨hZE, hTE⟩, hZL, hTL⟩ := id hsX
  refine zi_const hx hb 0 dX0_dividesByX_0 ?_
  refine lv_istore_n (lv' := [(2, .int (iZ 0)), (0, .ref o), (1, .int (iZ f))]) hx hb dX0_dividesByX_1 rfl hl (by decide) rfl (fun ls hl => ?_)
  refine lp_go (nL := 4) (α := Int) (fun z => [(0, .ref o), (1, .int (iZ f)), (2, .int (iZ z))]) (fun m2 z => 0 ≤ z ∧ z + (m2 : Int) = 8 ∧ ∀ i : Nat, (i : Int) < z → ∀ j : Nat, j < 4 → nuZ F f i ((j : Int) - 4) = 0) ?_ 8 ((0 : Int)) (by (try dsimp only); refine ⟨by omega, by omega, ?_⟩; intro i hi; omega) ls (lv_sub hl [1, 2, 0] rfl)
  intro m2 z1 hI2 ih2 ls hl
  obtain ⟨c1, rfl⟩ : ∃ y : Int, y = z1 := ⟨_, rfl⟩
  have hl : lv_has ls 4 [(0, .ref o), (1, .int (iZ f)), (2, .int (iZ c1))] := hl
  have hI2 : 0 ≤ c1 ∧ c1 + (m2 : Int) = 8 ∧ ∀ i : Nat, (i : Int) < c1 → ∀ j : Nat, j < 4 → nuZ F f i ((j : Int) - 4) = 0 := hI2
  refine lv_iload_n hx hb dX0_dividesByX_2 rfl (lv_at hl 2 rfl) ?_
  refine zi_bi hx hb 8 dX0_dividesByX_3 (by decide) ?_
  refine zi_cge (tgt := 39) hx hb dX0_dividesByX_5 (by decide) (by omega) (by omega) (fun hc5 => ?_) (fun hc5 => ?_)
  · refine zi_const hx hb 0 dX0_dividesByX_39 ?_
    exact rd_zret hx hb hr hlk (congrArg (fun z => some (Value.int (iZ z))) (show (dxZ F f : Int) = 0 from by unfold dxZ; rw [if_pos]; intro i hi; exact hI2.2.2 i (by omega))) (by decide) dX0_dividesByX_40
  · refine zi_bi hx hb (-4) dX0_dividesByX_8 (by decide) ?_
    refine lv_istore_n (lv' := [(3, .int (iZ (-4))), (0, .ref o), (1, .int (iZ f)), (2, .int (iZ c1))]) hx hb dX0_dividesByX_10 rfl hl (by decide) rfl (fun ls hl => ?_)
    refine lp_go (nL := 4) (α := Int) (fun z => [(0, .ref o), (1, .int (iZ f)), (2, .int (iZ c1)), (3, .int (iZ z))]) (fun m11 z => -4 ≤ z ∧ z + (m11 : Int) = 0 ∧ ∀ j : Nat, (j : Int) - 4 < z → nuZ F f c1 ((j : Int) - 4) = 0) ?_ 4 (((-4) : Int)) (by (try dsimp only); refine ⟨by omega, by omega, ?_⟩; intro i hi; omega) ls (lv_sub hl [1, 2, 3, 0] rfl)
    intro m11 z2 hI11 ih11 ls hl
    obtain ⟨n, rfl⟩ : ∃ y : Int, y = z2 := ⟨_, rfl⟩
    have hl : lv_has ls 4 [(0, .ref o), (1, .int (iZ f)), (2, .int (iZ c1)), (3, .int (iZ n))] := hl
    have hI11 : -4 ≤ n ∧ n + (m11 : Int) = 0 ∧ ∀ j : Nat, (j : Int) - 4 < n → nuZ F f c1 ((j : Int) - 4) = 0 := hI11
    refine lv_iload_n hx hb dX0_dividesByX_11 rfl (lv_at hl 3 rfl) ?_
    refine zi_fge (tgt := 33) hx hb dX0_dividesByX_12 (by decide) (by omega) (fun hc12 => ?_) (fun hc12 => ?_)
    · refine zi_inc (lv' := [(2, .int (iZ (c1 + 1))), (0, .ref o), (1, .int (iZ f)), (3, .int (iZ n))]) hx hb dX0_dividesByX_33 hl (k := 2) rfl (by decide) rfl (fun ls hl => ?_)
      refine lv_goto (tgt := 2) hx hb dX0_dividesByX_36 (by decide) ?_
      exact ih2 (m2 - 1) (c1 + 1) (by omega) (by (try dsimp only); refine ⟨by omega, by omega, ?_⟩; intro i hi; rcases (show (i : Int) < c1 ∨ (i : Int) = c1 by omega) with h3 | h3; exact hI2.2.2 i h3; rw [h3]; intro j hj; exact hI11.2.2 j (by omega)) ls (lv_sub hl [1, 2, 0] rfl)
    · refine lv_aload_n hx hb dX0_dividesByX_15 rfl (lv_at hl 0 rfl) ?_
      refine lv_iload_n hx hb dX0_dividesByX_16 rfl (lv_at hl 1 rfl) ?_
      refine lv_iload_n hx hb dX0_dividesByX_17 rfl (lv_at hl 2 rfl) ?_
      refine lv_iload_n hx hb dX0_dividesByX_18 rfl (lv_at hl 3 rfl) ?_
      refine rd_V (As := [.int (iZ f), .int (iZ c1), .int (iZ n)]) (rest := []) (st1 := [.int (iZ (nuZ F f c1 n))]) S (k_X0_number l D o q1 q2 cI tE tL F G k f c1 n (by omega) (by omega) (by omega)) tb_197 tb_199 ts_X0_number tb_1 tb_200 hd_X0_number ⟨rfl, rfl, by decide, by decide⟩ rX_bl (rX_mv hB) (rX_recv hB) rfl hl.1 rfl (Nat.le_of_ble_eq_true rfl) dX0_dividesByX_19 ⟨Nat.zero_le _, Nat.zero_le _⟩ rfl ?_
      have hn22 := nuZ_rng hF f c1 n
      refine zi_feq (tgt := 27) hx hb dX0_dividesByX_22 (by decide) (by omega) (fun hc22 => ?_) (fun hc22 => ?_)
      · refine zi_inc (lv' := [(3, .int (iZ (n + 1))), (0, .ref o), (1, .int (iZ f)), (2, .int (iZ c1))]) hx hb dX0_dividesByX_27 hl (k := 3) rfl (by decide) rfl (fun ls hl => ?_)
        refine lv_goto (tgt := 11) hx hb dX0_dividesByX_30 (by decide) ?_
        exact ih11 (m11 - 1) (n + 1) (by omega) (by (try dsimp only); refine ⟨by omega, by omega, ?_⟩; intro i hi; rcases (show (i : Int) - 4 < n ∨ (i : Int) - 4 = n by omega) with h3 | h3; exact hI11.2.2 i h3; rw [h3]; omega) ls (lv_sub hl [1, 2, 3, 0] rfl)
      · refine zi_const hx hb 1 dX0_dividesByX_25 ?_
        exact rd_zret hx hb hr hlk (congrArg (fun z => some (Value.int (iZ z))) (show (dxZ F f : Int) = 1 from by unfold dxZ; rw [if_neg]; intro h; have h2 := h c1.toNat (by omega) (n + 4).toNat (by omega); rw [Int.toNat_of_nonneg (by omega), Int.toNat_of_nonneg (by omega), show n + 4 - 4 = n by omega] at h2; omega)) (by decide) dX0_dividesByX_26
def upZ (F : Nat → Int) (f c x : Int) : Nat → Int
  | 0 => 0
  | m + 1 => (upZ F f c x m * x + nuZ F f c (4 - (m : Int))) % 32003
def loZ (F : Nat → Int) (f c y : Int) : Nat → Int
  | 0 => 0
  | m + 1 => (loZ F f c y m + nuZ F f c ((m : Int) - 4)) % 32003 * y % 32003
theorem upZ_rng (F : Nat → Int) (f c x : Int) (m : Nat) : 0 ≤ upZ F f c x m ∧ upZ F f c x m < 32003 := by
  cases m with
  | zero => exact ⟨Int.le_refl _, by unfold upZ; omega⟩
  | succ m => unfold upZ; omega
theorem loZ_rng (F : Nat → Int) (f c x : Int) (m : Nat) : 0 ≤ loZ F f c x m ∧ loZ F f c x m < 32003 := by
  cases m with
  | zero => exact ⟨Int.le_refl _, by unfold loZ; omega⟩
  | succ m => unfold loZ; omega
def vxZ (F : Nat → Int) (f c x y : Int) : Int := (upZ F f c x 5 + loZ F f c y 4) % 32003
theorem vxZ_rng (F : Nat → Int) (f c x y : Int) : 0 ≤ vxZ F f c x y ∧ vxZ F f c x y < 32003 := by unfold vxZ; omega
set_option maxHeartbeats 4000000 in
set_option maxRecDepth 100000 in
theorem k_X0_valueInX (l : Launch) (D : va_G) (o q1 q2 : Nat) (cI : ClassId) (tE tL : Nat) (F G : Nat → Int) (k : Int) (f c1 x y : Int) (hF : ∀ j, 0 ≤ F j ∧ F j < 32003) (hf : 0 ≤ f ∧ f < 60) (hc1 : 0 ≤ c1 ∧ c1 < 8) (hx1 : 0 ≤ x ∧ x < 32003) (hy1 : 0 ≤ y ∧ y < 32003) : rd_M l yX0_valueInX cX0_valueInX 8 (some .int) ({ frames := 3, cells := 0, slots := 0, locals := 65 }) [.ref o, .int (iZ f), .int (iZ c1), .int (iZ x), .int (iZ y)] (rX D o q1 q2 cI tE tL F G k) (some (.int (iZ (vxZ F f c1 x y)))) := by
  refine rd_of RX0 (by decide) rfl (Nat.le_of_ble_eq_true rfl) ?_
  intro p e s m below meth c S hr hlk hB ls hl
  obtain ⟨hx, hb, hml, hown, hT⟩ := id S
  have hl : lv_has ls 8 [(0, .ref o), (1, .int (iZ f)), (2, .int (iZ c1)), (3, .int (iZ x)), (4, .int (iZ y))] := hl
  obtain ⟨hP, hK, hsX⟩ := id hB
  obtain ⟨⟨hZE, hTE⟩, hZL, hTL⟩ := id hsX
  refine zi_const hx hb 0 dX0_valueInX_0 ?_
  refine lv_istore (lv' := [(5, .int (iZ 0)), (0, .ref o), (1, .int (iZ f)), (2, .int (iZ c1)), (3, .int (iZ x)), (4, .int (iZ y))]) hx hb dX0_valueInX_1 hl (by decide) rfl (fun ls hl => ?_)
  refine zi_const hx hb 4 dX0_valueInX_3 ?_
  refine lv_istore (lv' := [(6, .int (iZ 4)), (5, .int (iZ 0)), (0, .ref o), (1, .int (iZ f)), (2, .int (iZ c1)), (3, .int (iZ x)), (4, .int (iZ y))]) hx hb dX0_valueInX_4 hl (by decide) rfl (fun ls hl => ?_)
  refine lp_go (nL := 8) (α := Int × Int) (fun z => [(0, .ref o), (1, .int (iZ f)), (2, .int (iZ c1)), (3, .int (iZ x)), (4, .int (iZ y)), (5, .int (iZ z.1)), (6, .int (iZ z.2))]) (fun m6 z => z.2 ≤ 4 ∧ z.2 + 1 = (m6 : Int) ∧ z.1 = upZ F f c1 x (4 - z.2).toNat) ?_ 5 ((0 : Int), (4 : Int)) (by (try dsimp only); refine ⟨by omega, by omega, ?_⟩; rfl) ls (lv_sub hl [2, 3, 4, 5, 6, 1, 0] rfl)
  intro m6 z1 hI6 ih6 ls hl
  obtain ⟨u, n⟩ := z1
  have hl : lv_has ls 8 [(0, .ref o), (1, .int (iZ f)), (2, .int (iZ c1)), (3, .int (iZ x)), (4, .int (iZ y)), (5, .int (iZ u)), (6, .int (iZ n))] := hl
  have hI6 : n ≤ 4 ∧ n + 1 = (m6 : Int) ∧ u = upZ F f c1 x (4 - n).toNat := hI6
  have hur := upZ_rng F f c1 x (4 - n).toNat
  rw [← hI6.2.2] at hur
  have hum := mul_rng hur hx1
  refine lv_iload hx hb dX0_valueInX_6 (lv_at hl 6 rfl) ?_
  refine zi_flt (tgt := 38) hx hb dX0_valueInX_8 (by decide) (by omega) (fun hc8 => ?_) (fun hc8 => ?_)
  · refine zi_const hx hb 0 dX0_valueInX_38 ?_
    refine lv_istore (lv' := [(6, .int (iZ 0)), (0, .ref o), (1, .int (iZ f)), (2, .int (iZ c1)), (3, .int (iZ x)), (4, .int (iZ y)), (5, .int (iZ u))]) hx hb dX0_valueInX_39 hl (by decide) rfl (fun ls hl => ?_)
    refine zi_bi hx hb (-4) dX0_valueInX_41 (by decide) ?_
    refine lv_istore (lv' := [(7, .int (iZ (-4))), (6, .int (iZ 0)), (0, .ref o), (1, .int (iZ f)), (2, .int (iZ c1)), (3, .int (iZ x)), (4, .int (iZ y)), (5, .int (iZ u))]) hx hb dX0_valueInX_43 hl (by decide) rfl (fun ls hl => ?_)
    refine lp_go (nL := 8) (α := Int × Int) (fun z => [(0, .ref o), (1, .int (iZ f)), (2, .int (iZ c1)), (3, .int (iZ x)), (4, .int (iZ y)), (5, .int (iZ u)), (6, .int (iZ z.1)), (7, .int (iZ z.2))]) (fun m45 z => -4 ≤ z.2 ∧ z.2 + (m45 : Int) = 0 ∧ z.1 = loZ F f c1 y (z.2 + 4).toNat) ?_ 4 ((0 : Int), ((-4) : Int)) (by (try dsimp only); refine ⟨by omega, by omega, ?_⟩; rfl) ls (lv_sub hl [2, 3, 4, 5, 6, 7, 1, 0] rfl)
    intro m45 z2 hI45 ih45 ls hl
    obtain ⟨v, i⟩ := z2
    have hl : lv_has ls 8 [(0, .ref o), (1, .int (iZ f)), (2, .int (iZ c1)), (3, .int (iZ x)), (4, .int (iZ y)), (5, .int (iZ u)), (6, .int (iZ v)), (7, .int (iZ i))] := hl
    have hI45 : -4 ≤ i ∧ i + (m45 : Int) = 0 ∧ v = loZ F f c1 y (i + 4).toNat := hI45
    have hvr := loZ_rng F f c1 y (i + 4).toNat
    rw [← hI45.2.2] at hvr
    refine lv_iload hx hb dX0_valueInX_45 (lv_at hl 7 rfl) ?_
    refine zi_fge (tgt := 79) hx hb dX0_valueInX_47 (by decide) (by omega) (fun hc47 => ?_) (fun hc47 => ?_)
    · refine lv_iload hx hb dX0_valueInX_79 (lv_at hl 5 rfl) ?_
      refine zi_i2l hx hb dX0_valueInX_81 (by omega) ?_
      refine lv_iload hx hb dX0_valueInX_82 (lv_at hl 6 rfl) ?_
      refine zi_i2l hx hb dX0_valueInX_84 (by omega) ?_
      refine zl_add hx hb dX0_valueInX_85 ?_
      refine rd_S (As := [.long (lZ (u + v))]) (rest := []) (st1 := [.int (iZ ((u + v) % 32003))]) S (k_X0_reduce l (u + v) (by omega)) tb_157 tb_158 tb_1 tb_159 hd_X0_reduce ⟨rfl, rfl, by decide, by decide⟩ bl_T (fun _ _ _ => trivial) rfl hl.1 rfl (Nat.le_of_ble_eq_true rfl) dX0_valueInX_86 ⟨Nat.zero_le _, Nat.zero_le _⟩ rfl ?_
      exact rd_iret hx hb hr hlk (congrArg (fun z => some (Value.int (iZ z))) (show (vxZ F f c1 x y : Int) = (u + v) % 32003 from by unfold vxZ; rw [hI6.2.2, hI45.2.2, show (4 - n).toNat = 5 by omega, show (i + 4).toNat = 4 by omega])) dX0_valueInX_89
    · refine lv_iload hx hb dX0_valueInX_50 (lv_at hl 6 rfl) ?_
      refine zi_i2l hx hb dX0_valueInX_52 (by omega) ?_
      refine lv_aload_n hx hb dX0_valueInX_53 rfl (lv_at hl 0 rfl) ?_
      refine lv_iload_n hx hb dX0_valueInX_54 rfl (lv_at hl 1 rfl) ?_
      refine lv_iload_n hx hb dX0_valueInX_55 rfl (lv_at hl 2 rfl) ?_
      refine lv_iload hx hb dX0_valueInX_56 (lv_at hl 7 rfl) ?_
      refine rd_V (As := [.int (iZ f), .int (iZ c1), .int (iZ i)]) (rest := [.long (lZ v)]) (st1 := [.int (iZ (nuZ F f c1 i)), .long (lZ v)]) S (k_X0_number l D o q1 q2 cI tE tL F G k f c1 i (by omega) (by omega) (by omega)) tb_197 tb_199 ts_X0_number tb_1 tb_200 hd_X0_number ⟨rfl, rfl, by decide, by decide⟩ rX_bl (rX_mv hB) (rX_recv hB) rfl hl.1 rfl (Nat.le_of_ble_eq_true rfl) dX0_valueInX_58 ⟨Nat.zero_le _, Nat.zero_le _⟩ rfl ?_
      have hn61 := nuZ_rng hF f c1 i
      refine zi_i2l hx hb dX0_valueInX_61 (by omega) ?_
      refine zl_add hx hb dX0_valueInX_62 ?_
      refine rd_S (As := [.long (lZ (v + (nuZ F f c1 i)))]) (rest := []) (st1 := [.int (iZ ((v + (nuZ F f c1 i)) % 32003))]) S (k_X0_reduce l (v + (nuZ F f c1 i)) (by omega)) tb_157 tb_158 tb_1 tb_159 hd_X0_reduce ⟨rfl, rfl, by decide, by decide⟩ bl_T (fun _ _ _ => trivial) rfl hl.1 rfl (Nat.le_of_ble_eq_true rfl) dX0_valueInX_63 ⟨Nat.zero_le _, Nat.zero_le _⟩ rfl ?_
      refine lv_iload hx hb dX0_valueInX_66 (lv_at hl 4 rfl) ?_
      refine rd_S (As := [.int (iZ ((v + (nuZ F f c1 i)) % 32003)), .int (iZ y)]) (rest := []) (st1 := [.int (iZ (((v + (nuZ F f c1 i)) % 32003) * y % 32003))]) S (k_X0_multiply l ((v + (nuZ F f c1 i)) % 32003) y (by omega) (by omega)) tb_319 tb_320 tb_1 tb_321 hd_X0_multiply ⟨rfl, rfl, by decide, by decide⟩ bl_T (fun _ _ _ => trivial) rfl hl.1 rfl (Nat.le_of_ble_eq_true rfl) dX0_valueInX_68 ⟨Nat.zero_le _, Nat.zero_le _⟩ rfl ?_
      refine zi_top (fun v3 ev3 => ?_)
      refine lv_istore (lv' := [(6, .int (iZ v3)), (0, .ref o), (1, .int (iZ f)), (2, .int (iZ c1)), (3, .int (iZ x)), (4, .int (iZ y)), (5, .int (iZ u)), (7, .int (iZ i))]) hx hb dX0_valueInX_71 hl (by decide) rfl (fun ls hl => ?_)
      refine zi_inc (lv' := [(7, .int (iZ (i + 1))), (6, .int (iZ v3)), (0, .ref o), (1, .int (iZ f)), (2, .int (iZ c1)), (3, .int (iZ x)), (4, .int (iZ y)), (5, .int (iZ u))]) hx hb dX0_valueInX_73 hl (k := 7) rfl (by decide) rfl (fun ls hl => ?_)
      refine lv_goto (tgt := 45) hx hb dX0_valueInX_76 (by decide) ?_
      exact ih45 (m45 - 1) (v3, i + 1) (by omega) (by (try dsimp only); refine ⟨by omega, by omega, ?_⟩; rw [show (i + 1 + 4).toNat = (i + 4).toNat + 1 by omega]; unfold loZ; rw [ev3, hI45.2.2, show (((i + 4).toNat : Nat) : Int) = i + 4 by omega, show i + 4 - 4 = i by omega]) ls (lv_sub hl [2, 3, 4, 5, 6, 7, 1, 0] rfl)
  · refine lv_iload hx hb dX0_valueInX_11 (lv_at hl 5 rfl) ?_
    refine zi_i2l hx hb dX0_valueInX_13 (by omega) ?_
    refine lv_iload_n hx hb dX0_valueInX_14 rfl (lv_at hl 3 rfl) ?_
    refine zi_i2l hx hb dX0_valueInX_15 (by omega) ?_
    refine zl_mul hx hb dX0_valueInX_16 ?_
    refine lv_aload_n hx hb dX0_valueInX_17 rfl (lv_at hl 0 rfl) ?_
    refine lv_iload_n hx hb dX0_valueInX_18 rfl (lv_at hl 1 rfl) ?_
    refine lv_iload_n hx hb dX0_valueInX_19 rfl (lv_at hl 2 rfl) ?_
    refine lv_iload hx hb dX0_valueInX_20 (lv_at hl 6 rfl) ?_
    refine rd_V (As := [.int (iZ f), .int (iZ c1), .int (iZ n)]) (rest := [.long (lZ (u * x))]) (st1 := [.int (iZ (nuZ F f c1 n)), .long (lZ (u * x))]) S (k_X0_number l D o q1 q2 cI tE tL F G k f c1 n (by omega) (by omega) (by omega)) tb_197 tb_199 ts_X0_number tb_1 tb_200 hd_X0_number ⟨rfl, rfl, by decide, by decide⟩ rX_bl (rX_mv hB) (rX_recv hB) rfl hl.1 rfl (Nat.le_of_ble_eq_true rfl) dX0_valueInX_22 ⟨Nat.zero_le _, Nat.zero_le _⟩ rfl ?_
    have hn25 := nuZ_rng hF f c1 n
    refine zi_i2l hx hb dX0_valueInX_25 (by omega) ?_
    refine zl_add hx hb dX0_valueInX_26 ?_
    refine rd_S (As := [.long (lZ ((u * x) + (nuZ F f c1 n)))]) (rest := []) (st1 := [.int (iZ (((u * x) + (nuZ F f c1 n)) % 32003))]) S (k_X0_reduce l ((u * x) + (nuZ F f c1 n)) (by omega)) tb_157 tb_158 tb_1 tb_159 hd_X0_reduce ⟨rfl, rfl, by decide, by decide⟩ bl_T (fun _ _ _ => trivial) rfl hl.1 rfl (Nat.le_of_ble_eq_true rfl) dX0_valueInX_27 ⟨Nat.zero_le _, Nat.zero_le _⟩ rfl ?_
    refine zi_top (fun v4 ev4 => ?_)
    refine lv_istore (lv' := [(5, .int (iZ v4)), (0, .ref o), (1, .int (iZ f)), (2, .int (iZ c1)), (3, .int (iZ x)), (4, .int (iZ y)), (6, .int (iZ n))]) hx hb dX0_valueInX_30 hl (by decide) rfl (fun ls hl => ?_)
    refine zi_inc (lv' := [(6, .int (iZ (n + (-1)))), (5, .int (iZ v4)), (0, .ref o), (1, .int (iZ f)), (2, .int (iZ c1)), (3, .int (iZ x)), (4, .int (iZ y))]) hx hb dX0_valueInX_32 hl (k := 6) rfl (by decide) rfl (fun ls hl => ?_)
    refine lv_goto (tgt := 6) hx hb dX0_valueInX_35 (by decide) ?_
    exact ih6 (m6 - 1) (v4, n + (-1)) (by omega) (by (try dsimp only); refine ⟨by omega, by omega, ?_⟩; rw [show (4 - (n + -1)).toNat = (4 - n).toNat + 1 by omega]; unfold upZ; rw [ev4, hI6.2.2, show (((4 - n).toNat : Nat) : Int) = 4 - n by omega, show 4 - (4 - n) = n by omega]) ls (lv_sub hl [2, 3, 4, 5, 6, 1, 0] rfl)
def ptZ (G : Nat → Int) : Int := if ∀ c : Nat, c < 15 → ∀ j : Nat, j < 17 → wnZ G c ((j : Int) - 8) ≠ 0 → (knZ c = 1 ∧ 4 ≤ j ∧ j ≤ 12) then 0 else 1
theorem ptZ_or (G : Nat → Int) : ptZ G = 0 ∨ ptZ G = 1 := by unfold ptZ; split <;> omega
set_option maxHeartbeats 4000000 in
set_option maxRecDepth 100000 in
theorem k_X0_productIsTooFar (l : Launch) (D : va_G) (o q1 q2 : Nat) (cI : ClassId) (tE tL : Nat) (F G : Nat → Int) (k : Int)  (hG : ∀ j, 0 ≤ G j ∧ G j < 32003) : rd_M l yX0_productIsTooFar cX0_productIsTooFar 4 (some .boolean) ({ frames := 4, cells := 0, slots := 0, locals := 83 }) [.ref o] (rX D o q1 q2 cI tE tL F G k) (some (.int (iZ (ptZ G)))) := by
  refine rd_of RX0 (by decide) rfl (Nat.le_of_ble_eq_true rfl) ?_
  intro p e s m below meth c S hr hlk hB ls hl
  obtain ⟨hx, hb, hml, hown, hT⟩ := id S
  have hl : lv_has ls 4 [(0, .ref o)] := hl
  obtain ⟨hP, hK, hsX⟩ := id hB
  obtain ⟨⟨hZE, hTE⟩, hZL, hTL⟩ := id hsX
  refine zi_const hx hb 0 dX0_productIsTooFar_0 ?_
  refine lv_istore_n (lv' := [(1, .int (iZ 0)), (0, .ref o)]) hx hb dX0_productIsTooFar_1 rfl hl (by decide) rfl (fun ls hl => ?_)
  refine lp_go (nL := 4) (α := Int) (fun z => [(0, .ref o), (1, .int (iZ z))]) (fun m2 z => 0 ≤ z ∧ z + (m2 : Int) = 15 ∧ ∀ i : Nat, (i : Int) < z → ∀ j : Nat, j < 17 → wnZ G i ((j : Int) - 8) ≠ 0 → (knZ i = 1 ∧ 4 ≤ j ∧ j ≤ 12)) ?_ 15 ((0 : Int)) (by (try dsimp only); refine ⟨by omega, by omega, ?_⟩; intro i hi; omega) ls (lv_sub hl [1, 0] rfl)
  intro m2 z1 hI2 ih2 ls hl
  obtain ⟨c1, rfl⟩ : ∃ y : Int, y = z1 := ⟨_, rfl⟩
  have hl : lv_has ls 4 [(0, .ref o), (1, .int (iZ c1))] := hl
  have hI2 : 0 ≤ c1 ∧ c1 + (m2 : Int) = 15 ∧ ∀ i : Nat, (i : Int) < c1 → ∀ j : Nat, j < 17 → wnZ G i ((j : Int) - 8) ≠ 0 → (knZ i = 1 ∧ 4 ≤ j ∧ j ≤ 12) := hI2
  refine lv_iload_n hx hb dX0_productIsTooFar_2 rfl (lv_at hl 1 rfl) ?_
  refine zi_bi hx hb 15 dX0_productIsTooFar_3 (by decide) ?_
  refine zi_cge (tgt := 56) hx hb dX0_productIsTooFar_5 (by decide) (by omega) (by omega) (fun hc5 => ?_) (fun hc5 => ?_)
  · refine zi_const hx hb 0 dX0_productIsTooFar_56 ?_
    exact rd_zret hx hb hr hlk (congrArg (fun z => some (Value.int (iZ z))) (show (ptZ G : Int) = 0 from by unfold ptZ; rw [if_pos]; intro i hi; exact hI2.2.2 i (by omega))) (by decide) dX0_productIsTooFar_57
  · refine lv_iload_n hx hb dX0_productIsTooFar_8 rfl (lv_at hl 1 rfl) ?_
    refine rd_S (As := [.int (iZ c1)]) (rest := []) (st1 := [.int (iZ (knZ c1))]) S (k_X0_isKnownWideKind l tE tL c1 (by omega)) tb_263 tb_264 tb_1 tb_265 hd_X0_isKnownWideKind ⟨rfl, rfl, by decide, by decide⟩ sB_bl (sB_mv hsX) rfl hl.1 rfl (Nat.le_of_ble_eq_true rfl) dX0_productIsTooFar_9 ⟨Nat.zero_le _, Nat.zero_le _⟩ rfl ?_
    have hkn12 := knZ_or c1
    refine zi_top (fun v2 ev2 => ?_)
    refine lv_istore_n (lv' := [(2, .int (iZ v2)), (0, .ref o), (1, .int (iZ c1))]) hx hb dX0_productIsTooFar_12 rfl hl (by decide) rfl (fun ls hl => ?_)
    refine zi_bi hx hb (-8) dX0_productIsTooFar_13 (by decide) ?_
    refine lv_istore_n (lv' := [(3, .int (iZ (-8))), (2, .int (iZ v2)), (0, .ref o), (1, .int (iZ c1))]) hx hb dX0_productIsTooFar_15 rfl hl (by decide) rfl (fun ls hl => ?_)
    refine lp_go (nL := 4) (α := Int) (fun z => [(0, .ref o), (1, .int (iZ c1)), (2, .int (iZ v2)), (3, .int (iZ z))]) (fun m16 z => -8 ≤ z ∧ z + (m16 : Int) = 9 ∧ ∀ j : Nat, (j : Int) - 8 < z → wnZ G c1 ((j : Int) - 8) ≠ 0 → (knZ c1 = 1 ∧ 4 ≤ j ∧ j ≤ 12)) ?_ 17 (((-8) : Int)) (by (try dsimp only); refine ⟨by omega, by omega, ?_⟩; intro i hi; omega) ls (lv_sub hl [2, 3, 1, 0] rfl)
    intro m16 z3 hI16 ih16 ls hl
    obtain ⟨n, rfl⟩ : ∃ y : Int, y = z3 := ⟨_, rfl⟩
    have hl : lv_has ls 4 [(0, .ref o), (1, .int (iZ c1)), (2, .int (iZ v2)), (3, .int (iZ n))] := hl
    have hI16 : -8 ≤ n ∧ n + (m16 : Int) = 9 ∧ ∀ j : Nat, (j : Int) - 8 < n → wnZ G c1 ((j : Int) - 8) ≠ 0 → (knZ c1 = 1 ∧ 4 ≤ j ∧ j ≤ 12) := hI16
    refine lv_iload_n hx hb dX0_productIsTooFar_16 rfl (lv_at hl 3 rfl) ?_
    refine zi_bi hx hb 8 dX0_productIsTooFar_17 (by decide) ?_
    refine zi_cgt (tgt := 50) hx hb dX0_productIsTooFar_19 (by decide) (by omega) (by omega) (fun hc19 => ?_) (fun hc19 => ?_)
    · refine zi_inc (lv' := [(1, .int (iZ (c1 + 1))), (0, .ref o), (2, .int (iZ v2)), (3, .int (iZ n))]) hx hb dX0_productIsTooFar_50 hl (k := 1) rfl (by decide) rfl (fun ls hl => ?_)
      refine lv_goto (tgt := 2) hx hb dX0_productIsTooFar_53 (by decide) ?_
      exact ih2 (m2 - 1) (c1 + 1) (by omega) (by (try dsimp only); refine ⟨by omega, by omega, ?_⟩; intro i hi; rcases (show (i : Int) < c1 ∨ (i : Int) = c1 by omega) with h3 | h3; exact hI2.2.2 i h3; rw [h3]; intro j hj; exact hI16.2.2 j (by omega)) ls (lv_sub hl [1, 0] rfl)
    · refine lv_aload_n hx hb dX0_productIsTooFar_22 rfl (lv_at hl 0 rfl) ?_
      refine lv_iload_n hx hb dX0_productIsTooFar_23 rfl (lv_at hl 1 rfl) ?_
      refine lv_iload_n hx hb dX0_productIsTooFar_24 rfl (lv_at hl 3 rfl) ?_
      refine rd_V (As := [.int (iZ c1), .int (iZ n)]) (rest := []) (st1 := [.int (iZ (wnZ G c1 n))]) S (k_X0_wideNumber l D o q1 q2 cI tE tL F G k c1 n (by omega) (by omega)) tb_266 tb_268 ts_X0_wideNumber tb_1 tb_269 hd_X0_wideNumber ⟨rfl, rfl, by decide, by decide⟩ rX_bl (rX_mv hB) (rX_recv hB) rfl hl.1 rfl (Nat.le_of_ble_eq_true rfl) dX0_productIsTooFar_25 ⟨Nat.zero_le _, Nat.zero_le _⟩ rfl ?_
      have hn28 := wnZ_rng hG c1 n
      refine zi_feq (tgt := 44) hx hb dX0_productIsTooFar_28 (by decide) (by omega) (fun hc28 => ?_) (fun hc28 => ?_)
      · refine zi_inc (lv' := [(3, .int (iZ (n + 1))), (0, .ref o), (1, .int (iZ c1)), (2, .int (iZ v2))]) hx hb dX0_productIsTooFar_44 hl (k := 3) rfl (by decide) rfl (fun ls hl => ?_)
        refine lv_goto (tgt := 16) hx hb dX0_productIsTooFar_47 (by decide) ?_
        exact ih16 (m16 - 1) (n + 1) (by omega) (by (try dsimp only); refine ⟨by omega, by omega, ?_⟩; intro i hi; rcases (show (i : Int) - 8 < n ∨ (i : Int) - 8 = n by omega) with h3 | h3; exact hI16.2.2 i h3; rw [h3]; omega) ls (lv_sub hl [1, 2, 3, 0] rfl)
      · refine lv_iload_n hx hb dX0_productIsTooFar_31 rfl (lv_at hl 2 rfl) ?_
        refine zi_feq (tgt := 42) hx hb dX0_productIsTooFar_32 (by decide) (by omega) (fun hc32 => ?_) (fun hc32 => ?_)
        · refine zi_const hx hb 1 dX0_productIsTooFar_42 ?_
          exact rd_zret hx hb hr hlk (congrArg (fun z => some (Value.int (iZ z))) (show (ptZ G : Int) = 1 from by unfold ptZ; rw [if_neg]; intro h; have h2 := h c1.toNat (by omega) (n + 8).toNat (by omega); rw [Int.toNat_of_nonneg (by omega), Int.toNat_of_nonneg (by omega), show n + 8 - 8 = n by omega] at h2; omega)) (by decide) dX0_productIsTooFar_43
        · refine lv_iload_n hx hb dX0_productIsTooFar_35 rfl (lv_at hl 3 rfl) ?_
          refine rd_S (As := [.int (iZ n)]) (rest := []) (st1 := [.int (iZ (pwZ n))]) S (k_X0_isPower l n (by omega)) tb_119 tb_120 tb_1 tb_121 hd_X0_isPower ⟨rfl, rfl, by decide, by decide⟩ bl_T (fun _ _ _ => trivial) rfl hl.1 rfl (Nat.le_of_ble_eq_true rfl) dX0_productIsTooFar_36 ⟨Nat.zero_le _, Nat.zero_le _⟩ rfl ?_
          have hf39 := pwZ_or n
          refine zi_fne (tgt := 44) hx hb dX0_productIsTooFar_39 (by decide) (by omega) (fun hc39 => ?_) (fun hc39 => ?_)
          · refine zi_inc (lv' := [(3, .int (iZ (n + 1))), (0, .ref o), (1, .int (iZ c1)), (2, .int (iZ v2))]) hx hb dX0_productIsTooFar_44 hl (k := 3) rfl (by decide) rfl (fun ls hl => ?_)
            refine lv_goto (tgt := 16) hx hb dX0_productIsTooFar_47 (by decide) ?_
            exact ih16 (m16 - 1) (n + 1) (by omega) (by (try dsimp only); refine ⟨by omega, by omega, ?_⟩; intro i hi; rcases (show (i : Int) - 8 < n ∨ (i : Int) - 8 = n by omega) with h3 | h3; exact hI16.2.2 i h3; rw [h3]; omega) ls (lv_sub hl [1, 2, 3, 0] rfl)
          · refine zi_const hx hb 1 dX0_productIsTooFar_42 ?_
            exact rd_zret hx hb hr hlk (congrArg (fun z => some (Value.int (iZ z))) (show (ptZ G : Int) = 1 from by unfold ptZ; rw [if_neg]; intro h; have h2 := h c1.toNat (by omega) (n + 8).toNat (by omega); rw [Int.toNat_of_nonneg (by omega), Int.toNat_of_nonneg (by omega), show n + 8 - 8 = n by omega] at h2; omega)) (by decide) dX0_productIsTooFar_43
