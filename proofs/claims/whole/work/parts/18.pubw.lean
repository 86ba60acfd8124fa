def tgZ (c n v : Int) : Nat → Int := fun j => if j = (c * 9 + n + 4).toNat then v % 32003 else 0
theorem fi_one {F : Nat → Int} {k c n v : Int} (hk : 0 ≤ k) (hc : 0 ≤ c ∧ c < 8) (hn : -4 ≤ n ∧ n ≤ 4) : uZ (fiZ F (k * 72).toNat 72 (fun _ => (0 : Int))) (k * 72 + c * 9 + n + 4).toNat (v % 32003) = fiZ F (k * 72).toNat 72 (tgZ c n v) := by
  funext j
  unfold uZ fiZ tgZ
  by_cases h : j = (k * 72 + c * 9 + n + 4).toNat
  · rw [if_pos h, if_pos (by omega), if_pos (by omega)]
  · rw [if_neg h]
    by_cases h2 : (k * 72).toNat ≤ j ∧ j < (k * 72).toNat + 72
    · rw [if_pos h2, if_pos h2, if_neg (by omega)]
    · rw [if_neg h2, if_neg h2]
def igZ (F : Nat → Int) (f c n : Int) : Int := if n = -4 then 0 else if 4 ≤ c then exZ F f c (5 - n).toNat else if n = 0 then (if c = 0 then 0 else dvZ (nuZ F f (c - 1) (-1)) c) else lgZ F f n (4 - c).toNat
theorem lg_cg {F F' : Nat → Int} {f n : Int} (h : ∀ c n, nuZ F' f c n = nuZ F f c n) (m : Nat) : lgZ F' f n m = lgZ F f n m := by
  induction m with
  | zero => rfl
  | succ m ih => unfold lgZ; rw [ih, h]
theorem ex_cg {F F' : Nat → Int} {f c : Int} (h : ∀ c n, nuZ F' f c n = nuZ F f c n) (m : Nat) : exZ F' f c m = exZ F f c m := by
  induction m with
  | zero => rfl
  | succ m ih => unfold exZ; rw [ih, h]
theorem ig_all {F F1 F2 F3 F4 : Nat → Int} {f : Int} {b : Nat} (hf : (f + 1) * 72 ≤ b) (e1 : F1 = fiZ F b 72 (fun _ => (0 : Int))) (e2 : F2 = paZ F1 b (fun c n => decide (c < 4 ∧ -3 ≤ n ∧ n ≠ 0)) (fun c n => lgZ F1 f n (4 - c).toNat)) (e3 : F3 = paZ F2 b (fun c n => decide (1 ≤ c ∧ c < 4 ∧ n = 0)) (fun c n => dvZ (nuZ F2 f (c - 1) (-1)) c)) (e4 : F4 = paZ F3 b (fun c n => decide (4 ≤ c ∧ -3 ≤ n)) (fun c n => exZ F3 f c (5 - n).toNat)) : F4 = fiZ F b 72 (fun j => igZ F f (jC j) (jN j)) := by
  have n1 : ∀ c n, nuZ F1 f c n = nuZ F f c n := fun c n => by rw [e1]; exact nu_fi hf
  have n2 : ∀ c n, nuZ F2 f c n = nuZ F f c n := fun c n => by rw [e2, nu_pa hf]; exact n1 c n
  have n3 : ∀ c n, nuZ F3 f c n = nuZ F f c n := fun c n => by rw [e3, nu_pa hf]; exact n2 c n
  funext j
  by_cases hr : b ≤ j ∧ j < b + 72
  · obtain ⟨a1, a2, a3, a4, -⟩ := jj_rng hr
    have er : fiZ F b 72 (fun j => igZ F f (jC j) (jN j)) j = igZ F f (jC (j - b)) (jN (j - b)) := by
      unfold fiZ
      rw [if_pos hr]
    rw [er, e4]
    unfold paZ igZ
    by_cases h4 : jN (j - b) = -4
    · rw [if_pos h4, if_neg (by simp only [decide_eq_true_eq]; omega), e3]
      unfold paZ
      rw [if_neg (by simp only [decide_eq_true_eq]; omega), e2]
      unfold paZ
      rw [if_neg (by simp only [decide_eq_true_eq]; omega), e1]
      unfold fiZ
      rw [if_pos hr]
    · rw [if_neg h4]
      by_cases hc : 4 ≤ jC (j - b)
      · rw [if_pos hc, if_pos (by simp only [decide_eq_true_eq]; omega)]
        exact ex_cg n3 _
      · rw [if_neg hc, if_neg (by simp only [decide_eq_true_eq]; omega), e3]
        unfold paZ
        by_cases h0 : jN (j - b) = 0
        · rw [if_pos h0]
          by_cases hc0 : jC (j - b) = 0
          · rw [if_pos hc0, if_neg (by simp only [decide_eq_true_eq]; omega), e2]
            unfold paZ
            rw [if_neg (by simp only [decide_eq_true_eq]; omega), e1]
            unfold fiZ
            rw [if_pos hr]
          · rw [if_neg hc0, if_pos (by simp only [decide_eq_true_eq]; omega)]
            exact congrArg (fun z => dvZ z _) (n2 _ _)
        · rw [if_neg h0, if_neg (by simp only [decide_eq_true_eq]; omega), e2]
          unfold paZ
          rw [if_pos (by simp only [decide_eq_true_eq]; omega)]
          exact lg_cg n1 _
  · rw [e4, e3, e2, e1]
    unfold paZ fiZ
    rw [if_neg (fun q => hr q.1), if_neg (fun q => hr q.1), if_neg (fun q => hr q.1), if_neg hr, if_neg hr]
set_option maxHeartbeats 4000000 in
set_option maxRecDepth 100000 in
theorem k_X0_term (l : Launch) (D : va_G) (o q1 q2 : Nat) (cI : ClassId) (tE tL : Nat) (F G : Nat → Int) (k : Int) (c1 n v : Int) (hd : dX o q1 q2) (hk : 0 ≤ k ∧ k < 60) (hc1 : 0 ≤ c1 ∧ c1 < 8) (hn : -4 ≤ n ∧ n ≤ 4) (hv : -9223372036854775808 ≤ v ∧ v ≤ 9223372036854775807) : wr_M l yX0_term cX0_term 5 (some .int) ({ frames := 4, cells := 0, slots := 0, locals := 87 }) [.int (iZ c1), .int (iZ n), .long (lZ v)] D o q1 q2 cI tE tL F G k (some (.int (iZ k))) (fiZ F (k * 72).toNat 72 (tgZ c1 n v)) G (k + 1) := by
  refine wr_of (by decide) rfl (Nat.le_of_ble_eq_true rfl) ?_
  intro p e s m below meth c A hAe S hr hlk hP hK hs hA hAn hS ls hl
  obtain ⟨hx, hb, hml, hown, hT⟩ := id S
  obtain ⟨⟨hZE, hTE⟩, hZL, hTL⟩ := id hs
  have hl : lv_has ls 5 [(0, .ref o), (1, .int (iZ c1)), (2, .int (iZ n)), (3, .long (lZ v))] := hl
  refine lv_iload_n hx hb dX0_term_0 rfl (lv_at hl 1 rfl) ?_
  refine rd_S (As := [.int (iZ c1)]) (rest := []) (st1 := []) S (k_X0_needKind l c1 (by omega)) tb_42 tb_43 tb_1 tb_44 hd_X0_needKind ⟨rfl, rfl, by decide, by decide⟩ bl_T (fun _ _ _ => trivial) rfl hl.1 rfl (Nat.le_of_ble_eq_true rfl) dX0_term_1 ⟨Nat.zero_le _, Nat.zero_le _⟩ rfl ?_
  refine lv_iload_n hx hb dX0_term_4 rfl (lv_at hl 2 rfl) ?_
  refine rd_S (As := [.int (iZ n)]) (rest := []) (st1 := []) S (k_X0_needPower l n (by omega)) tb_116 tb_117 tb_1 tb_118 hd_X0_needPower ⟨rfl, rfl, by decide, by decide⟩ bl_T (fun _ _ _ => trivial) rfl hl.1 rfl (Nat.le_of_ble_eq_true rfl) dX0_term_5 ⟨Nat.zero_le _, Nat.zero_le _⟩ rfl ?_
  refine lv_aload_n hx hb dX0_term_8 rfl (lv_at hl 0 rfl) ?_
  refine rd_V (As := []) (rest := []) (st1 := []) S (k_X0_needRoom l D o q1 q2 cI tE tL F G k (by omega)) tb_123 tb_125 ts_X0_needRoom tb_1 tb_126 hd_X0_needRoom ⟨rfl, rfl, by decide, by decide⟩ rX_bl (rX_w hP hK rfl hs hS) (va_recv hK hP (ci := 0) (q0 := 0) rfl rfl) rfl hl.1 rfl (Nat.le_of_ble_eq_true rfl) dX0_term_9 ⟨Nat.zero_le _, Nat.zero_le _⟩ rfl ?_
  refine lv_aload_n hx hb dX0_term_12 rfl (lv_at hl 0 rfl) ?_
  refine wr_V (As := []) (rest := []) (st1 := []) (F' := fiZ F (k * 72).toNat 72 (fun j => (0 : Int))) (G' := G) (k' := k) S (k_X0_clearDraft l D o q1 q2 cI tE tL F G k  hd (by omega)) tb_143 tb_145 ts_X0_clearDraft tb_1 tb_146 hd_X0_clearDraft ⟨rfl, rfl, by decide, by decide⟩ hP hK rfl hs hS hA hAn rfl hl.1 rfl (Nat.le_of_ble_eq_true rfl) dX0_term_13 ⟨Nat.zero_le _, Nat.zero_le _⟩ rfl (fun H locs hP hS _ _ => ?_)
  obtain ⟨F1, eF1⟩ : ∃ Z : Nat → Int, Z = fiZ F (k * 72).toNat 72 (fun j => (0 : Int)) := ⟨_, rfl⟩
  rw [← eF1] at hP
  refine lv_aload_n hx hb dX0_term_16 rfl (lv_at hl 0 rfl) ?_
  refine lv_iload_n hx hb dX0_term_17 rfl (lv_at hl 1 rfl) ?_
  refine lv_iload_n hx hb dX0_term_18 rfl (lv_at hl 2 rfl) ?_
  refine lv_lload_n hx hb dX0_term_19 rfl (lv_at hl 3 rfl) ?_
  refine rd_S (As := [.long (lZ v)]) (rest := [.int (iZ n), .int (iZ c1), .ref o]) (st1 := [.int (iZ (v % 32003)), .int (iZ n), .int (iZ c1), .ref o]) S (k_X0_reduce l v (by omega)) tb_157 tb_158 tb_1 tb_159 hd_X0_reduce ⟨rfl, rfl, by decide, by decide⟩ bl_T (fun _ _ _ => trivial) rfl hl.1 rfl (Nat.le_of_ble_eq_true rfl) dX0_term_20 ⟨Nat.zero_le _, Nat.zero_le _⟩ rfl ?_
  refine wr_V (As := [.int (iZ c1), .int (iZ n), .int (iZ (v % 32003))]) (rest := []) (st1 := []) (F' := uZ F1 (k * 72 + c1 * 9 + n + 4).toNat (v % 32003)) (G' := G) (k' := k) S (k_X0_setDraft l D o q1 q2 cI tE tL F1 G k c1 n (v % 32003) hd (by omega) (by omega) (by omega)) tb_147 tb_149 ts_X0_setDraft tb_1 tb_150 hd_X0_setDraft ⟨rfl, rfl, by decide, by decide⟩ hP hK rfl hs hS hA hAn rfl hl.1 rfl (Nat.le_of_ble_eq_true rfl) dX0_term_23 ⟨Nat.zero_le _, Nat.zero_le _⟩ rfl (fun H locs hP hS _ _ => ?_)
  obtain ⟨F2, eF2⟩ : ∃ Z : Nat → Int, Z = uZ F1 (k * 72 + c1 * 9 + n + 4).toNat (v % 32003) := ⟨_, rfl⟩
  rw [← eF2] at hP
  refine lv_aload_n hx hb dX0_term_26 rfl (lv_at hl 0 rfl) ?_
  refine wr_V (As := []) (rest := []) (st1 := [.int (iZ k)]) (F' := F2) (G' := G) (k' := k + 1) S (k_X0_keepDraft l D o q1 q2 cI tE tL F2 G k  hd ) tb_161 tb_163 ts_X0_keepDraft tb_1 tb_164 hd_X0_keepDraft ⟨rfl, rfl, by decide, by decide⟩ hP hK rfl hs hS hA hAn rfl hl.1 rfl (Nat.le_of_ble_eq_true rfl) dX0_term_27 ⟨Nat.zero_le _, Nat.zero_le _⟩ rfl (fun H locs hP hS _ _ => ?_)
  exact wr_iret hx hb hr hlk (wP_eq hP ((by rw [eF2, eF1]; exact fi_one (by omega) (by omega) (by omega))) rfl rfl) hS (congrArg (fun z => some (Value.int (iZ z))) (show (k : Int) = k from rfl)) dX0_term_30
set_option maxHeartbeats 4000000 in
set_option maxRecDepth 100000 in
theorem k_X0_add (l : Launch) (D : va_G) (o q1 q2 : Nat) (cI : ClassId) (tE tL : Nat) (F G : Nat → Int) (k : Int) (f g : Int) (hd : dX o q1 q2) (hF : ∀ j, 0 ≤ F j ∧ F j < 32003) (hk : 0 ≤ k ∧ k < 60) (hf : 0 ≤ f ∧ f < k) (hg : 0 ≤ g ∧ g < k) : wr_M l yX0_add cX0_add 3 (some .int) ({ frames := 4, cells := 0, slots := 0, locals := 90 }) [.int (iZ f), .int (iZ g)] D o q1 q2 cI tE tL F G k (some (.int (iZ k))) (fiZ F (k * 72).toNat 72 (fun j => (F ((f * 72).toNat + j) + 1 * F ((g * 72).toNat + j)) % 32003)) G (k + 1) := by
  refine wr_of (by decide) rfl (Nat.le_of_ble_eq_true rfl) ?_
  intro p e s m below meth c A hAe S hr hlk hP hK hs hA hAn hS ls hl
  obtain ⟨hx, hb, hml, hown, hT⟩ := id S
  obtain ⟨⟨hZE, hTE⟩, hZL, hTL⟩ := id hs
  have hl : lv_has ls 3 [(0, .ref o), (1, .int (iZ f)), (2, .int (iZ g))] := hl
  refine lv_aload_n hx hb dX0_add_0 rfl (lv_at hl 0 rfl) ?_
  refine lv_iload_n hx hb dX0_add_1 rfl (lv_at hl 1 rfl) ?_
  refine rd_V (As := [.int (iZ f)]) (rest := []) (st1 := []) S (k_X0_needElement l D o q1 q2 cI tE tL F G k f (by omega)) tb_173 tb_175 ts_X0_needElement tb_1 tb_176 hd_X0_needElement ⟨rfl, rfl, by decide, by decide⟩ rX_bl (rX_w hP hK rfl hs hS) (va_recv hK hP (ci := 0) (q0 := 0) rfl rfl) rfl hl.1 rfl (Nat.le_of_ble_eq_true rfl) dX0_add_2 ⟨Nat.zero_le _, Nat.zero_le _⟩ rfl ?_
  refine lv_aload_n hx hb dX0_add_5 rfl (lv_at hl 0 rfl) ?_
  refine lv_iload_n hx hb dX0_add_6 rfl (lv_at hl 2 rfl) ?_
  refine rd_V (As := [.int (iZ g)]) (rest := []) (st1 := []) S (k_X0_needElement l D o q1 q2 cI tE tL F G k g (by omega)) tb_173 tb_175 ts_X0_needElement tb_1 tb_176 hd_X0_needElement ⟨rfl, rfl, by decide, by decide⟩ rX_bl (rX_w hP hK rfl hs hS) (va_recv hK hP (ci := 0) (q0 := 0) rfl rfl) rfl hl.1 rfl (Nat.le_of_ble_eq_true rfl) dX0_add_7 ⟨Nat.zero_le _, Nat.zero_le _⟩ rfl ?_
  refine lv_aload_n hx hb dX0_add_10 rfl (lv_at hl 0 rfl) ?_
  refine rd_V (As := []) (rest := []) (st1 := []) S (k_X0_needRoom l D o q1 q2 cI tE tL F G k (by omega)) tb_123 tb_125 ts_X0_needRoom tb_1 tb_126 hd_X0_needRoom ⟨rfl, rfl, by decide, by decide⟩ rX_bl (rX_w hP hK rfl hs hS) (va_recv hK hP (ci := 0) (q0 := 0) rfl rfl) rfl hl.1 rfl (Nat.le_of_ble_eq_true rfl) dX0_add_11 ⟨Nat.zero_le _, Nat.zero_le _⟩ rfl ?_
  refine lv_aload_n hx hb dX0_add_14 rfl (lv_at hl 0 rfl) ?_
  refine lv_iload_n hx hb dX0_add_15 rfl (lv_at hl 1 rfl) ?_
  refine lv_iload_n hx hb dX0_add_16 rfl (lv_at hl 2 rfl) ?_
  refine zi_const hx hb 1 dX0_add_17 ?_
  refine wr_V (As := [.int (iZ f), .int (iZ g), .int (iZ 1)]) (rest := []) (st1 := []) (F' := fiZ F (k * 72).toNat 72 (fun j => ( F ((f * 72).toNat + j) + 1 * F ((g * 72).toNat + j)) % 32003)) (G' := G) (k' := k) S (k_X0_draftSum l D o q1 q2 cI tE tL F G k f g 1 hd hF (by omega) (by omega) (by omega) (by omega)) tb_193 tb_195 ts_X0_draftSum tb_1 tb_196 hd_X0_draftSum ⟨rfl, rfl, by decide, by decide⟩ hP hK rfl hs hS hA hAn rfl hl.1 rfl (Nat.le_of_ble_eq_true rfl) dX0_add_18 ⟨Nat.zero_le _, Nat.zero_le _⟩ rfl (fun H locs hP hS _ _ => ?_)
  obtain ⟨F1, eF1⟩ : ∃ Z : Nat → Int, Z = fiZ F (k * 72).toNat 72 (fun j => ( F ((f * 72).toNat + j) + 1 * F ((g * 72).toNat + j)) % 32003) := ⟨_, rfl⟩
  rw [← eF1] at hP
  refine lv_aload_n hx hb dX0_add_21 rfl (lv_at hl 0 rfl) ?_
  refine wr_V (As := []) (rest := []) (st1 := [.int (iZ k)]) (F' := F1) (G' := G) (k' := k + 1) S (k_X0_keepDraft l D o q1 q2 cI tE tL F1 G k  hd ) tb_161 tb_163 ts_X0_keepDraft tb_1 tb_164 hd_X0_keepDraft ⟨rfl, rfl, by decide, by decide⟩ hP hK rfl hs hS hA hAn rfl hl.1 rfl (Nat.le_of_ble_eq_true rfl) dX0_add_22 ⟨Nat.zero_le _, Nat.zero_le _⟩ rfl (fun H locs hP hS _ _ => ?_)
  exact wr_iret hx hb hr hlk (wP_eq hP ((by rw [eF1])) rfl rfl) hS (congrArg (fun z => some (Value.int (iZ z))) (show (k : Int) = k from rfl)) dX0_add_25
set_option maxHeartbeats 4000000 in
set_option maxRecDepth 100000 in
theorem k_X0_less (l : Launch) (D : va_G) (o q1 q2 : Nat) (cI : ClassId) (tE tL : Nat) (F G : Nat → Int) (k : Int) (f g v : Int) (hd : dX o q1 q2) (hF : ∀ j, 0 ≤ F j ∧ F j < 32003) (hk : 0 ≤ k ∧ k < 60) (hf : 0 ≤ f ∧ f < k) (hg : 0 ≤ g ∧ g < k) (hv : -9223372036854775808 ≤ v ∧ v ≤ 9223372036854775807) : wr_M l yX0_less cX0_less 5 (some .int) ({ frames := 4, cells := 0, slots := 0, locals := 90 }) [.int (iZ f), .int (iZ g), .long (lZ v)] D o q1 q2 cI tE tL F G k (some (.int (iZ k))) (fiZ F (k * 72).toNat 72 (fun j => (F ((f * 72).toNat + j) + (-(v % 32003) % 32003) * F ((g * 72).toNat + j)) % 32003)) G (k + 1) := by
  refine wr_of (by decide) rfl (Nat.le_of_ble_eq_true rfl) ?_
  intro p e s m below meth c A hAe S hr hlk hP hK hs hA hAn hS ls hl
  obtain ⟨hx, hb, hml, hown, hT⟩ := id S
  obtain ⟨⟨hZE, hTE⟩, hZL, hTL⟩ := id hs
  have hl : lv_has ls 5 [(0, .ref o), (1, .int (iZ f)), (2, .int (iZ g)), (3, .long (lZ v))] := hl
  refine lv_aload_n hx hb dX0_less_0 rfl (lv_at hl 0 rfl) ?_
  refine lv_iload_n hx hb dX0_less_1 rfl (lv_at hl 1 rfl) ?_
  refine rd_V (As := [.int (iZ f)]) (rest := []) (st1 := []) S (k_X0_needElement l D o q1 q2 cI tE tL F G k f (by omega)) tb_173 tb_175 ts_X0_needElement tb_1 tb_176 hd_X0_needElement ⟨rfl, rfl, by decide, by decide⟩ rX_bl (rX_w hP hK rfl hs hS) (va_recv hK hP (ci := 0) (q0 := 0) rfl rfl) rfl hl.1 rfl (Nat.le_of_ble_eq_true rfl) dX0_less_2 ⟨Nat.zero_le _, Nat.zero_le _⟩ rfl ?_
  refine lv_aload_n hx hb dX0_less_5 rfl (lv_at hl 0 rfl) ?_
  refine lv_iload_n hx hb dX0_less_6 rfl (lv_at hl 2 rfl) ?_
  refine rd_V (As := [.int (iZ g)]) (rest := []) (st1 := []) S (k_X0_needElement l D o q1 q2 cI tE tL F G k g (by omega)) tb_173 tb_175 ts_X0_needElement tb_1 tb_176 hd_X0_needElement ⟨rfl, rfl, by decide, by decide⟩ rX_bl (rX_w hP hK rfl hs hS) (va_recv hK hP (ci := 0) (q0 := 0) rfl rfl) rfl hl.1 rfl (Nat.le_of_ble_eq_true rfl) dX0_less_7 ⟨Nat.zero_le _, Nat.zero_le _⟩ rfl ?_
  refine lv_aload_n hx hb dX0_less_10 rfl (lv_at hl 0 rfl) ?_
  refine rd_V (As := []) (rest := []) (st1 := []) S (k_X0_needRoom l D o q1 q2 cI tE tL F G k (by omega)) tb_123 tb_125 ts_X0_needRoom tb_1 tb_126 hd_X0_needRoom ⟨rfl, rfl, by decide, by decide⟩ rX_bl (rX_w hP hK rfl hs hS) (va_recv hK hP (ci := 0) (q0 := 0) rfl rfl) rfl hl.1 rfl (Nat.le_of_ble_eq_true rfl) dX0_less_11 ⟨Nat.zero_le _, Nat.zero_le _⟩ rfl ?_
  refine lv_aload_n hx hb dX0_less_14 rfl (lv_at hl 0 rfl) ?_
  refine lv_iload_n hx hb dX0_less_15 rfl (lv_at hl 1 rfl) ?_
  refine lv_iload_n hx hb dX0_less_16 rfl (lv_at hl 2 rfl) ?_
  refine lv_lload_n hx hb dX0_less_17 rfl (lv_at hl 3 rfl) ?_
  refine rd_S (As := [.long (lZ v)]) (rest := [.int (iZ g), .int (iZ f), .ref o]) (st1 := [.int (iZ (v % 32003)), .int (iZ g), .int (iZ f), .ref o]) S (k_X0_reduce l v (by omega)) tb_157 tb_158 tb_1 tb_159 hd_X0_reduce ⟨rfl, rfl, by decide, by decide⟩ bl_T (fun _ _ _ => trivial) rfl hl.1 rfl (Nat.le_of_ble_eq_true rfl) dX0_less_18 ⟨Nat.zero_le _, Nat.zero_le _⟩ rfl ?_
  refine zi_i2l hx hb dX0_less_21 (by omega) ?_
  refine zl_neg hx hb dX0_less_22 ?_
  refine rd_S (As := [.long (lZ (-(v % 32003)))]) (rest := [.int (iZ g), .int (iZ f), .ref o]) (st1 := [.int (iZ ((-(v % 32003)) % 32003)), .int (iZ g), .int (iZ f), .ref o]) S (k_X0_reduce l (-(v % 32003)) (by omega)) tb_157 tb_158 tb_1 tb_159 hd_X0_reduce ⟨rfl, rfl, by decide, by decide⟩ bl_T (fun _ _ _ => trivial) rfl hl.1 rfl (Nat.le_of_ble_eq_true rfl) dX0_less_23 ⟨Nat.zero_le _, Nat.zero_le _⟩ rfl ?_
  refine wr_V (As := [.int (iZ f), .int (iZ g), .int (iZ ((-(v % 32003)) % 32003))]) (rest := []) (st1 := []) (F' := fiZ F (k * 72).toNat 72 (fun j => ( F ((f * 72).toNat + j) + ((-(v % 32003)) % 32003) * F ((g * 72).toNat + j)) % 32003)) (G' := G) (k' := k) S (k_X0_draftSum l D o q1 q2 cI tE tL F G k f g ((-(v % 32003)) % 32003) hd hF (by omega) (by omega) (by omega) (by omega)) tb_193 tb_195 ts_X0_draftSum tb_1 tb_196 hd_X0_draftSum ⟨rfl, rfl, by decide, by decide⟩ hP hK rfl hs hS hA hAn rfl hl.1 rfl (Nat.le_of_ble_eq_true rfl) dX0_less_26 ⟨Nat.zero_le _, Nat.zero_le _⟩ rfl (fun H locs hP hS _ _ => ?_)
  obtain ⟨F1, eF1⟩ : ∃ Z : Nat → Int, Z = fiZ F (k * 72).toNat 72 (fun j => ( F ((f * 72).toNat + j) + ((-(v % 32003)) % 32003) * F ((g * 72).toNat + j)) % 32003) := ⟨_, rfl⟩
  rw [← eF1] at hP
  refine lv_aload_n hx hb dX0_less_29 rfl (lv_at hl 0 rfl) ?_
  refine wr_V (As := []) (rest := []) (st1 := [.int (iZ k)]) (F' := F1) (G' := G) (k' := k + 1) S (k_X0_keepDraft l D o q1 q2 cI tE tL F1 G k  hd ) tb_161 tb_163 ts_X0_keepDraft tb_1 tb_164 hd_X0_keepDraft ⟨rfl, rfl, by decide, by decide⟩ hP hK rfl hs hS hA hAn rfl hl.1 rfl (Nat.le_of_ble_eq_true rfl) dX0_less_30 ⟨Nat.zero_le _, Nat.zero_le _⟩ rfl (fun H locs hP hS _ _ => ?_)
  exact wr_iret hx hb hr hlk (wP_eq hP ((by rw [eF1])) rfl rfl) hS (congrArg (fun z => some (Value.int (iZ z))) (show (k : Int) = k from rfl)) dX0_less_33
set_option maxHeartbeats 4000000 in
set_option maxRecDepth 100000 in
theorem k_X0_derive (l : Launch) (D : va_G) (o q1 q2 : Nat) (cI : ClassId) (tE tL : Nat) (F G : Nat → Int) (k : Int) (f : Int) (hd : dX o q1 q2) (hF : ∀ j, 0 ≤ F j ∧ F j < 32003) (hk : 0 ≤ k ∧ k < 60) (hf : 0 ≤ f ∧ f < k) (h0 : stZ F f = 0) : wr_M l yX0_derive cX0_derive 2 (some .int) ({ frames := 5, cells := 0, slots := 0, locals := 113 }) [.int (iZ f)] D o q1 q2 cI tE tL F G k (some (.int (iZ k))) (fiZ F (k * 72).toNat 72 (fun j => slZ F f (jC j) (jN j))) G (k + 1) := by
  refine wr_of (by decide) rfl (Nat.le_of_ble_eq_true rfl) ?_
  intro p e s m below meth c A hAe S hr hlk hP hK hs hA hAn hS ls hl
  obtain ⟨hx, hb, hml, hown, hT⟩ := id S
  obtain ⟨⟨hZE, hTE⟩, hZL, hTL⟩ := id hs
  have hl : lv_has ls 2 [(0, .ref o), (1, .int (iZ f))] := hl
  refine lv_aload_n hx hb dX0_derive_0 rfl (lv_at hl 0 rfl) ?_
  refine lv_iload_n hx hb dX0_derive_1 rfl (lv_at hl 1 rfl) ?_
  refine rd_V (As := [.int (iZ f)]) (rest := []) (st1 := []) S (k_X0_needElement l D o q1 q2 cI tE tL F G k f (by omega)) tb_173 tb_175 ts_X0_needElement tb_1 tb_176 hd_X0_needElement ⟨rfl, rfl, by decide, by decide⟩ rX_bl (rX_w hP hK rfl hs hS) (va_recv hK hP (ci := 0) (q0 := 0) rfl rfl) rfl hl.1 rfl (Nat.le_of_ble_eq_true rfl) dX0_derive_2 ⟨Nat.zero_le _, Nat.zero_le _⟩ rfl ?_
  refine lv_aload_n hx hb dX0_derive_5 rfl (lv_at hl 0 rfl) ?_
  refine rd_V (As := []) (rest := []) (st1 := []) S (k_X0_needRoom l D o q1 q2 cI tE tL F G k (by omega)) tb_123 tb_125 ts_X0_needRoom tb_1 tb_126 hd_X0_needRoom ⟨rfl, rfl, by decide, by decide⟩ rX_bl (rX_w hP hK rfl hs hS) (va_recv hK hP (ci := 0) (q0 := 0) rfl rfl) rfl hl.1 rfl (Nat.le_of_ble_eq_true rfl) dX0_derive_6 ⟨Nat.zero_le _, Nat.zero_le _⟩ rfl ?_
  refine lv_aload_n hx hb dX0_derive_9 rfl (lv_at hl 0 rfl) ?_
  refine lv_iload_n hx hb dX0_derive_10 rfl (lv_at hl 1 rfl) ?_
  refine rd_V (As := [.int (iZ f)]) (rest := []) (st1 := [.int (iZ (stZ F f))]) S (k_X0_slopeIsTooFar l D o q1 q2 cI tE tL F G k f hF (by omega)) tb_282 tb_284 ts_X0_slopeIsTooFar tb_1 tb_285 hd_X0_slopeIsTooFar ⟨rfl, rfl, by decide, by decide⟩ rX_bl (rX_w hP hK rfl hs hS) (va_recv hK hP (ci := 0) (q0 := 0) rfl rfl) rfl hl.1 rfl (Nat.le_of_ble_eq_true rfl) dX0_derive_11 ⟨Nat.zero_le _, Nat.zero_le _⟩ rfl ?_
  have hst14 := stZ_or F f
  refine zi_feq (tgt := 27) hx hb dX0_derive_14 (by decide) (by omega) (fun hc14 => ?_) (fun hc14 => ?_)
  · refine lv_aload_n hx hb dX0_derive_27 rfl (lv_at hl 0 rfl) ?_
    refine lv_iload_n hx hb dX0_derive_28 rfl (lv_at hl 1 rfl) ?_
    refine wr_V (As := [.int (iZ f)]) (rest := []) (st1 := []) (F' := fiZ F (k * 72).toNat 72 (fun j => slZ F f (jC j) (jN j))) (G' := G) (k' := k) S (k_X0_draftSlope l D o q1 q2 cI tE tL F G k f hd hF (by omega) (by omega)) tb_291 tb_293 ts_X0_draftSlope tb_1 tb_294 hd_X0_draftSlope ⟨rfl, rfl, by decide, by decide⟩ hP hK rfl hs hS hA hAn rfl hl.1 rfl (Nat.le_of_ble_eq_true rfl) dX0_derive_29 ⟨Nat.zero_le _, Nat.zero_le _⟩ rfl (fun H locs hP hS _ _ => ?_)
    obtain ⟨F1, eF1⟩ : ∃ Z : Nat → Int, Z = fiZ F (k * 72).toNat 72 (fun j => slZ F f (jC j) (jN j)) := ⟨_, rfl⟩
    rw [← eF1] at hP
    refine lv_aload_n hx hb dX0_derive_32 rfl (lv_at hl 0 rfl) ?_
    refine wr_V (As := []) (rest := []) (st1 := [.int (iZ k)]) (F' := F1) (G' := G) (k' := k + 1) S (k_X0_keepDraft l D o q1 q2 cI tE tL F1 G k  hd ) tb_161 tb_163 ts_X0_keepDraft tb_1 tb_164 hd_X0_keepDraft ⟨rfl, rfl, by decide, by decide⟩ hP hK rfl hs hS hA hAn rfl hl.1 rfl (Nat.le_of_ble_eq_true rfl) dX0_derive_33 ⟨Nat.zero_le _, Nat.zero_le _⟩ rfl (fun H locs hP hS _ _ => ?_)
    exact wr_iret hx hb hr hlk (wP_eq hP ((by rw [eF1])) rfl rfl) hS (congrArg (fun z => some (Value.int (iZ z))) (show (k : Int) = k from rfl)) dX0_derive_36
  · exfalso
    omega
set_option maxHeartbeats 4000000 in
set_option maxRecDepth 100000 in
theorem k_X0_integrate (l : Launch) (D : va_G) (o q1 q2 : Nat) (cI : ClassId) (tE tL : Nat) (F G : Nat → Int) (k : Int) (f : Int) (hd : dX o q1 q2) (hF : ∀ j, 0 ≤ F j ∧ F j < 32003) (hk : 0 ≤ k ∧ k < 60) (hf : 0 ≤ f ∧ f < k) (h0 : hrZ F f = 0) (h1 : itZ F f = 0) : wr_M l yX0_integrate cX0_integrate 2 (some .int) ({ frames := 6, cells := 0, slots := 0, locals := 135 }) [.int (iZ f)] D o q1 q2 cI tE tL F G k (some (.int (iZ k))) (fiZ F (k * 72).toNat 72 (fun j => igZ F f (jC j) (jN j))) G (k + 1) := by
  refine wr_of (by decide) rfl (Nat.le_of_ble_eq_true rfl) ?_
  intro p e s m below meth c A hAe S hr hlk hP hK hs hA hAn hS ls hl
  obtain ⟨hx, hb, hml, hown, hT⟩ := id S
  obtain ⟨⟨hZE, hTE⟩, hZL, hTL⟩ := id hs
  have hl : lv_has ls 2 [(0, .ref o), (1, .int (iZ f))] := hl
  refine lv_aload_n hx hb dX0_integrate_0 rfl (lv_at hl 0 rfl) ?_
  refine lv_iload_n hx hb dX0_integrate_1 rfl (lv_at hl 1 rfl) ?_
  refine rd_V (As := [.int (iZ f)]) (rest := []) (st1 := []) S (k_X0_needElement l D o q1 q2 cI tE tL F G k f (by omega)) tb_173 tb_175 ts_X0_needElement tb_1 tb_176 hd_X0_needElement ⟨rfl, rfl, by decide, by decide⟩ rX_bl (rX_w hP hK rfl hs hS) (va_recv hK hP (ci := 0) (q0 := 0) rfl rfl) rfl hl.1 rfl (Nat.le_of_ble_eq_true rfl) dX0_integrate_2 ⟨Nat.zero_le _, Nat.zero_le _⟩ rfl ?_
  refine lv_aload_n hx hb dX0_integrate_5 rfl (lv_at hl 0 rfl) ?_
  refine rd_V (As := []) (rest := []) (st1 := []) S (k_X0_needRoom l D o q1 q2 cI tE tL F G k (by omega)) tb_123 tb_125 ts_X0_needRoom tb_1 tb_126 hd_X0_needRoom ⟨rfl, rfl, by decide, by decide⟩ rX_bl (rX_w hP hK rfl hs hS) (va_recv hK hP (ci := 0) (q0 := 0) rfl rfl) rfl hl.1 rfl (Nat.le_of_ble_eq_true rfl) dX0_integrate_6 ⟨Nat.zero_le _, Nat.zero_le _⟩ rfl ?_
  refine lv_aload_n hx hb dX0_integrate_9 rfl (lv_at hl 0 rfl) ?_
  refine lv_iload_n hx hb dX0_integrate_10 rfl (lv_at hl 1 rfl) ?_
  refine rd_V (As := [.int (iZ f)]) (rest := []) (st1 := [.int (iZ (hrZ F f))]) S (k_X0_hasRest l D o q1 q2 cI tE tL F G k f hF (by omega)) tb_302 tb_304 ts_X0_hasRest tb_1 tb_305 hd_X0_hasRest ⟨rfl, rfl, by decide, by decide⟩ rX_bl (rX_w hP hK rfl hs hS) (va_recv hK hP (ci := 0) (q0 := 0) rfl rfl) rfl hl.1 rfl (Nat.le_of_ble_eq_true rfl) dX0_integrate_11 ⟨Nat.zero_le _, Nat.zero_le _⟩ rfl ?_
  have hhr14 := hrZ_or F f
  refine zi_feq (tgt := 19) hx hb dX0_integrate_14 (by decide) (by omega) (fun hc14 => ?_) (fun hc14 => ?_)
  · refine lv_aload_n hx hb dX0_integrate_19 rfl (lv_at hl 0 rfl) ?_
    refine lv_iload_n hx hb dX0_integrate_20 rfl (lv_at hl 1 rfl) ?_
    refine rd_V (As := [.int (iZ f)]) (rest := []) (st1 := [.int (iZ (itZ F f))]) S (k_X0_integralIsTooFar l D o q1 q2 cI tE tL F G k f hF (by omega)) tb_322 tb_324 ts_X0_integralIsTooFar tb_1 tb_325 hd_X0_integralIsTooFar ⟨rfl, rfl, by decide, by decide⟩ rX_bl (rX_w hP hK rfl hs hS) (va_recv hK hP (ci := 0) (q0 := 0) rfl rfl) rfl hl.1 rfl (Nat.le_of_ble_eq_true rfl) dX0_integrate_21 ⟨Nat.zero_le _, Nat.zero_le _⟩ rfl ?_
    have hit24 := itZ_or F f
    refine zi_feq (tgt := 37) hx hb dX0_integrate_24 (by decide) (by omega) (fun hc24 => ?_) (fun hc24 => ?_)
    · refine lv_aload_n hx hb dX0_integrate_37 rfl (lv_at hl 0 rfl) ?_
      refine wr_V (As := []) (rest := []) (st1 := []) (F' := fiZ F (k * 72).toNat 72 (fun j => (0 : Int))) (G' := G) (k' := k) S (k_X0_clearDraft l D o q1 q2 cI tE tL F G k  hd (by omega)) tb_143 tb_145 ts_X0_clearDraft tb_1 tb_146 hd_X0_clearDraft ⟨rfl, rfl, by decide, by decide⟩ hP hK rfl hs hS hA hAn rfl hl.1 rfl (Nat.le_of_ble_eq_true rfl) dX0_integrate_38 ⟨Nat.zero_le _, Nat.zero_le _⟩ rfl (fun H locs hP hS _ _ => ?_)
      obtain ⟨F1, eF1⟩ : ∃ Z : Nat → Int, Z = fiZ F (k * 72).toNat 72 (fun j => (0 : Int)) := ⟨_, rfl⟩
      rw [← eF1] at hP
      have hFF1 : ∀ j, 0 ≤ F1 j ∧ F1 j < 32003 := by
        rw [eF1]
        exact fi_rng hF (fun _ => by omega)
      refine lv_aload_n hx hb dX0_integrate_41 rfl (lv_at hl 0 rfl) ?_
      refine lv_iload_n hx hb dX0_integrate_42 rfl (lv_at hl 1 rfl) ?_
      refine wr_V (As := [.int (iZ f)]) (rest := []) (st1 := []) (F' := paZ F1 (k * 72).toNat (fun c n => decide (c < 4 ∧ -3 ≤ n ∧ n ≠ 0)) (fun c n => lgZ F1 f n (4 - c).toNat)) (G' := G) (k' := k) S (k_X0_draftLogIntegral l D o q1 q2 cI tE tL F1 G k f hd hFF1 (by omega) (by omega)) tb_327 tb_329 ts_X0_draftLogIntegral tb_1 tb_330 hd_X0_draftLogIntegral ⟨rfl, rfl, by decide, by decide⟩ hP hK rfl hs hS hA hAn rfl hl.1 rfl (Nat.le_of_ble_eq_true rfl) dX0_integrate_43 ⟨Nat.zero_le _, Nat.zero_le _⟩ rfl (fun H locs hP hS _ _ => ?_)
      obtain ⟨F2, eF2⟩ : ∃ Z : Nat → Int, Z = paZ F1 (k * 72).toNat (fun c n => decide (c < 4 ∧ -3 ≤ n ∧ n ≠ 0)) (fun c n => lgZ F1 f n (4 - c).toNat) := ⟨_, rfl⟩
      rw [← eF2] at hP
      have hFF2 : ∀ j, 0 ≤ F2 j ∧ F2 j < 32003 := by
        rw [eF2]
        exact pa_rng hFF1 (fun c n => lgZ_rng _ _ _ _)
      refine lv_aload_n hx hb dX0_integrate_46 rfl (lv_at hl 0 rfl) ?_
      refine lv_iload_n hx hb dX0_integrate_47 rfl (lv_at hl 1 rfl) ?_
      refine wr_V (As := [.int (iZ f)]) (rest := []) (st1 := []) (F' := paZ F2 (k * 72).toNat (fun c n => decide (1 ≤ c ∧ c < 4 ∧ n = 0)) (fun c n => dvZ (nuZ F2 f (c - 1) (-1)) c)) (G' := G) (k' := k) S (k_X0_draftConstantPowerIntegral l D o q1 q2 cI tE tL F2 G k f hd hFF2 (by omega) (by omega)) tb_331 tb_333 ts_X0_draftConstantPowerIntegral tb_1 tb_334 hd_X0_draftConstantPowerIntegral ⟨rfl, rfl, by decide, by decide⟩ hP hK rfl hs hS hA hAn rfl hl.1 rfl (Nat.le_of_ble_eq_true rfl) dX0_integrate_48 ⟨Nat.zero_le _, Nat.zero_le _⟩ rfl (fun H locs hP hS _ _ => ?_)
      obtain ⟨F3, eF3⟩ : ∃ Z : Nat → Int, Z = paZ F2 (k * 72).toNat (fun c n => decide (1 ≤ c ∧ c < 4 ∧ n = 0)) (fun c n => dvZ (nuZ F2 f (c - 1) (-1)) c) := ⟨_, rfl⟩
      rw [← eF3] at hP
      have hFF3 : ∀ j, 0 ≤ F3 j ∧ F3 j < 32003 := by
        rw [eF3]
        exact pa_rng hFF2 (fun c n => dvZ_rng _ _)
      refine lv_aload_n hx hb dX0_integrate_51 rfl (lv_at hl 0 rfl) ?_
      refine lv_iload_n hx hb dX0_integrate_52 rfl (lv_at hl 1 rfl) ?_
      refine wr_V (As := [.int (iZ f)]) (rest := []) (st1 := []) (F' := paZ F3 (k * 72).toNat (fun c n => decide (4 ≤ c ∧ -3 ≤ n)) (fun c n => exZ F3 f c (5 - n).toNat)) (G' := G) (k' := k) S (k_X0_draftExponentialIntegral l D o q1 q2 cI tE tL F3 G k f hd hFF3 (by omega) (by omega)) tb_335 tb_337 ts_X0_draftExponentialIntegral tb_1 tb_338 hd_X0_draftExponentialIntegral ⟨rfl, rfl, by decide, by decide⟩ hP hK rfl hs hS hA hAn rfl hl.1 rfl (Nat.le_of_ble_eq_true rfl) dX0_integrate_53 ⟨Nat.zero_le _, Nat.zero_le _⟩ rfl (fun H locs hP hS _ _ => ?_)
      obtain ⟨F4, eF4⟩ : ∃ Z : Nat → Int, Z = paZ F3 (k * 72).toNat (fun c n => decide (4 ≤ c ∧ -3 ≤ n)) (fun c n => exZ F3 f c (5 - n).toNat) := ⟨_, rfl⟩
      rw [← eF4] at hP
      refine lv_aload_n hx hb dX0_integrate_56 rfl (lv_at hl 0 rfl) ?_
      refine wr_V (As := []) (rest := []) (st1 := [.int (iZ k)]) (F' := F4) (G' := G) (k' := k + 1) S (k_X0_keepDraft l D o q1 q2 cI tE tL F4 G k  hd ) tb_161 tb_163 ts_X0_keepDraft tb_1 tb_164 hd_X0_keepDraft ⟨rfl, rfl, by decide, by decide⟩ hP hK rfl hs hS hA hAn rfl hl.1 rfl (Nat.le_of_ble_eq_true rfl) dX0_integrate_57 ⟨Nat.zero_le _, Nat.zero_le _⟩ rfl (fun H locs hP hS _ _ => ?_)
      exact wr_iret hx hb hr hlk (wP_eq hP ((ig_all (b := (k * 72).toNat) (by omega) eF1 eF2 eF3 eF4)) rfl rfl) hS (congrArg (fun z => some (Value.int (iZ z))) (show (k : Int) = k from rfl)) dX0_integrate_60
    · exfalso
      omega
  · exfalso
    omega
set_option maxHeartbeats 4000000 in
set_option maxRecDepth 100000 in
theorem k0_X0_integrate (l : Launch) (D : va_G) (o q1 q2 : Nat) (cI : ClassId) (tE tL : Nat) (F G : Nat → Int) (k : Int) (f : Int) (hd : dX o q1 q2) (hF : ∀ j, 0 ≤ F j ∧ F j < 32003) (hk : 0 ≤ k ∧ k < 60) (hf : 0 ≤ f ∧ f < k) (h0 : hrZ F f = 1) : wr_M l yX0_integrate cX0_integrate 2 (some .int) ({ frames := 6, cells := 0, slots := 0, locals := 135 }) [.int (iZ f)] D o q1 q2 cI tE tL F G k (some (.int (iZ (-1)))) F G k := by
  refine wr_of (by decide) rfl (Nat.le_of_ble_eq_true rfl) ?_
  intro p e s m below meth c A hAe S hr hlk hP hK hs hA hAn hS ls hl
  obtain ⟨hx, hb, hml, hown, hT⟩ := id S
  obtain ⟨⟨hZE, hTE⟩, hZL, hTL⟩ := id hs
  have hl : lv_has ls 2 [(0, .ref o), (1, .int (iZ f))] := hl
  refine lv_aload_n hx hb dX0_integrate_0 rfl (lv_at hl 0 rfl) ?_
  refine lv_iload_n hx hb dX0_integrate_1 rfl (lv_at hl 1 rfl) ?_
  refine rd_V (As := [.int (iZ f)]) (rest := []) (st1 := []) S (k_X0_needElement l D o q1 q2 cI tE tL F G k f (by omega)) tb_173 tb_175 ts_X0_needElement tb_1 tb_176 hd_X0_needElement ⟨rfl, rfl, by decide, by decide⟩ rX_bl (rX_w hP hK rfl hs hS) (va_recv hK hP (ci := 0) (q0 := 0) rfl rfl) rfl hl.1 rfl (Nat.le_of_ble_eq_true rfl) dX0_integrate_2 ⟨Nat.zero_le _, Nat.zero_le _⟩ rfl ?_
  refine lv_aload_n hx hb dX0_integrate_5 rfl (lv_at hl 0 rfl) ?_
  refine rd_V (As := []) (rest := []) (st1 := []) S (k_X0_needRoom l D o q1 q2 cI tE tL F G k (by omega)) tb_123 tb_125 ts_X0_needRoom tb_1 tb_126 hd_X0_needRoom ⟨rfl, rfl, by decide, by decide⟩ rX_bl (rX_w hP hK rfl hs hS) (va_recv hK hP (ci := 0) (q0 := 0) rfl rfl) rfl hl.1 rfl (Nat.le_of_ble_eq_true rfl) dX0_integrate_6 ⟨Nat.zero_le _, Nat.zero_le _⟩ rfl ?_
  refine lv_aload_n hx hb dX0_integrate_9 rfl (lv_at hl 0 rfl) ?_
  refine lv_iload_n hx hb dX0_integrate_10 rfl (lv_at hl 1 rfl) ?_
  refine rd_V (As := [.int (iZ f)]) (rest := []) (st1 := [.int (iZ (hrZ F f))]) S (k_X0_hasRest l D o q1 q2 cI tE tL F G k f hF (by omega)) tb_302 tb_304 ts_X0_hasRest tb_1 tb_305 hd_X0_hasRest ⟨rfl, rfl, by decide, by decide⟩ rX_bl (rX_w hP hK rfl hs hS) (va_recv hK hP (ci := 0) (q0 := 0) rfl rfl) rfl hl.1 rfl (Nat.le_of_ble_eq_true rfl) dX0_integrate_11 ⟨Nat.zero_le _, Nat.zero_le _⟩ rfl ?_
  have hhr14 := hrZ_or F f
  refine zi_feq (tgt := 19) hx hb dX0_integrate_14 (by decide) (by omega) (fun hc14 => ?_) (fun hc14 => ?_)
  · exfalso
    omega
  · refine zi_const hx hb (-1) dX0_integrate_17 ?_
    exact wr_iret hx hb hr hlk (wP_eq hP rfl rfl rfl) hS (congrArg (fun z => some (Value.int (iZ z))) (show ((-1) : Int) = (-1) from rfl)) dX0_integrate_18
set_option maxHeartbeats 4000000 in
set_option maxRecDepth 100000 in
theorem k_X0_times (l : Launch) (D : va_G) (o q1 q2 : Nat) (cI : ClassId) (tE tL : Nat) (F G : Nat → Int) (k : Int) (f g : Int) (hd : dX o q1 q2) (hF : ∀ j, 0 ≤ F j ∧ F j < 32003) (hG : ∀ j, 0 ≤ G j ∧ G j < 32003) (hk : 0 ≤ k ∧ k < 60) (hf : 0 ≤ f ∧ f < k) (hg : 0 ≤ g ∧ g < k) (h0 : lmZ F f g = 0 ∧ lmZ F g f = 0) (h1 : ptZ (spZ F G f g 72) = 0) : wr_M l yX0_times cX0_times 3 (some .int) ({ frames := 5, cells := 0, slots := 0, locals := 117 }) [.int (iZ f), .int (iZ g)] D o q1 q2 cI tE tL F G k (some (.int (iZ k))) (fiZ F (k * 72).toNat 72 (fun j => wnZ (spZ F G f g 72) (wkZ (jC j) 0) (jN j))) (spZ F G f g 72) (k + 1) := by
  refine wr_of (by decide) rfl (Nat.le_of_ble_eq_true rfl) ?_
  intro p e s m below meth c A hAe S hr hlk hP hK hs hA hAn hS ls hl
  obtain ⟨hx, hb, hml, hown, hT⟩ := id S
  obtain ⟨⟨hZE, hTE⟩, hZL, hTL⟩ := id hs
  have hl : lv_has ls 3 [(0, .ref o), (1, .int (iZ f)), (2, .int (iZ g))] := hl
  refine lv_aload_n hx hb dX0_times_0 rfl (lv_at hl 0 rfl) ?_
  refine lv_iload_n hx hb dX0_times_1 rfl (lv_at hl 1 rfl) ?_
  refine rd_V (As := [.int (iZ f)]) (rest := []) (st1 := []) S (k_X0_needElement l D o q1 q2 cI tE tL F G k f (by omega)) tb_173 tb_175 ts_X0_needElement tb_1 tb_176 hd_X0_needElement ⟨rfl, rfl, by decide, by decide⟩ rX_bl (rX_w hP hK rfl hs hS) (va_recv hK hP (ci := 0) (q0 := 0) rfl rfl) rfl hl.1 rfl (Nat.le_of_ble_eq_true rfl) dX0_times_2 ⟨Nat.zero_le _, Nat.zero_le _⟩ rfl ?_
  refine lv_aload_n hx hb dX0_times_5 rfl (lv_at hl 0 rfl) ?_
  refine lv_iload_n hx hb dX0_times_6 rfl (lv_at hl 2 rfl) ?_
  refine rd_V (As := [.int (iZ g)]) (rest := []) (st1 := []) S (k_X0_needElement l D o q1 q2 cI tE tL F G k g (by omega)) tb_173 tb_175 ts_X0_needElement tb_1 tb_176 hd_X0_needElement ⟨rfl, rfl, by decide, by decide⟩ rX_bl (rX_w hP hK rfl hs hS) (va_recv hK hP (ci := 0) (q0 := 0) rfl rfl) rfl hl.1 rfl (Nat.le_of_ble_eq_true rfl) dX0_times_7 ⟨Nat.zero_le _, Nat.zero_le _⟩ rfl ?_
  refine lv_aload_n hx hb dX0_times_10 rfl (lv_at hl 0 rfl) ?_
  refine rd_V (As := []) (rest := []) (st1 := []) S (k_X0_needRoom l D o q1 q2 cI tE tL F G k (by omega)) tb_123 tb_125 ts_X0_needRoom tb_1 tb_126 hd_X0_needRoom ⟨rfl, rfl, by decide, by decide⟩ rX_bl (rX_w hP hK rfl hs hS) (va_recv hK hP (ci := 0) (q0 := 0) rfl rfl) rfl hl.1 rfl (Nat.le_of_ble_eq_true rfl) dX0_times_11 ⟨Nat.zero_le _, Nat.zero_le _⟩ rfl ?_
  refine lv_aload_n hx hb dX0_times_14 rfl (lv_at hl 0 rfl) ?_
  refine lv_iload_n hx hb dX0_times_15 rfl (lv_at hl 1 rfl) ?_
  refine lv_iload_n hx hb dX0_times_16 rfl (lv_at hl 2 rfl) ?_
  refine rd_V (As := [.int (iZ f), .int (iZ g)]) (rest := []) (st1 := [.int (iZ (lmZ F f g))]) S (k_X0_logMeetsExponential l D o q1 q2 cI tE tL F G k f g hF (by omega) (by omega)) tb_215 tb_217 ts_X0_logMeetsExponential tb_1 tb_218 hd_X0_logMeetsExponential ⟨rfl, rfl, by decide, by decide⟩ rX_bl (rX_w hP hK rfl hs hS) (va_recv hK hP (ci := 0) (q0 := 0) rfl rfl) rfl hl.1 rfl (Nat.le_of_ble_eq_true rfl) dX0_times_17 ⟨Nat.zero_le _, Nat.zero_le _⟩ rfl ?_
  have hlm20 := lmZ_or F f g
  refine zi_fne (tgt := 32) hx hb dX0_times_20 (by decide) (by omega) (fun hc20 => ?_) (fun hc20 => ?_)
  · exfalso
    omega
  · refine lv_aload_n hx hb dX0_times_23 rfl (lv_at hl 0 rfl) ?_
    refine lv_iload_n hx hb dX0_times_24 rfl (lv_at hl 2 rfl) ?_
    refine lv_iload_n hx hb dX0_times_25 rfl (lv_at hl 1 rfl) ?_
    refine rd_V (As := [.int (iZ g), .int (iZ f)]) (rest := []) (st1 := [.int (iZ (lmZ F g f))]) S (k_X0_logMeetsExponential l D o q1 q2 cI tE tL F G k g f hF (by omega) (by omega)) tb_215 tb_217 ts_X0_logMeetsExponential tb_1 tb_218 hd_X0_logMeetsExponential ⟨rfl, rfl, by decide, by decide⟩ rX_bl (rX_w hP hK rfl hs hS) (va_recv hK hP (ci := 0) (q0 := 0) rfl rfl) rfl hl.1 rfl (Nat.le_of_ble_eq_true rfl) dX0_times_26 ⟨Nat.zero_le _, Nat.zero_le _⟩ rfl ?_
    have hlm29 := lmZ_or F g f
    refine zi_feq (tgt := 42) hx hb dX0_times_29 (by decide) (by omega) (fun hc29 => ?_) (fun hc29 => ?_)
    · refine lv_aload_n hx hb dX0_times_42 rfl (lv_at hl 0 rfl) ?_
      refine lv_iload_n hx hb dX0_times_43 rfl (lv_at hl 1 rfl) ?_
      refine lv_iload_n hx hb dX0_times_44 rfl (lv_at hl 2 rfl) ?_
      refine wr_V (As := [.int (iZ f), .int (iZ g)]) (rest := []) (st1 := []) (F' := F) (G' := spZ F G f g 72) (k' := k) S (k_X0_sumUpProduct l D o q1 q2 cI tE tL F G k f g hd hF hG (by omega) (by omega)) tb_224 tb_226 ts_X0_sumUpProduct tb_1 tb_227 hd_X0_sumUpProduct ⟨rfl, rfl, by decide, by decide⟩ hP hK rfl hs hS hA hAn rfl hl.1 rfl (Nat.le_of_ble_eq_true rfl) dX0_times_45 ⟨Nat.zero_le _, Nat.zero_le _⟩ rfl (fun H locs hP hS _ _ => ?_)
      obtain ⟨G1, eG1⟩ : ∃ Z : Nat → Int, Z = spZ F G f g 72 := ⟨_, rfl⟩
      rw [← eG1] at hP
      have hGG1 : ∀ j, 0 ≤ G1 j ∧ G1 j < 32003 := by
        rw [eG1]
        exact spZ_rng hG 72
      rw [← eG1] at h1
      refine lv_aload_n hx hb dX0_times_48 rfl (lv_at hl 0 rfl) ?_
      refine rd_V (As := []) (rest := []) (st1 := [.int (iZ (ptZ G1))]) S (k_X0_productIsTooFar l D o q1 q2 cI tE tL F G1 k hGG1) tb_259 tb_261 ts_X0_productIsTooFar tb_1 tb_262 hd_X0_productIsTooFar ⟨rfl, rfl, by decide, by decide⟩ rX_bl (rX_w hP hK rfl hs hS) (va_recv hK hP (ci := 0) (q0 := 0) rfl rfl) rfl hl.1 rfl (Nat.le_of_ble_eq_true rfl) dX0_times_49 ⟨Nat.zero_le _, Nat.zero_le _⟩ rfl ?_
      have hpt52 := ptZ_or G1
      refine zi_feq (tgt := 65) hx hb dX0_times_52 (by decide) (by omega) (fun hc52 => ?_) (fun hc52 => ?_)
      · refine lv_aload_n hx hb dX0_times_65 rfl (lv_at hl 0 rfl) ?_
        refine wr_V (As := []) (rest := []) (st1 := []) (F' := fiZ F (k * 72).toNat 72 (fun j => wnZ G1 (wkZ (jC j) 0) (jN j))) (G' := G1) (k' := k) S (k_X0_draftProduct l D o q1 q2 cI tE tL F G1 k  hd hGG1 (by omega)) tb_271 tb_273 ts_X0_draftProduct tb_1 tb_274 hd_X0_draftProduct ⟨rfl, rfl, by decide, by decide⟩ hP hK rfl hs hS hA hAn rfl hl.1 rfl (Nat.le_of_ble_eq_true rfl) dX0_times_66 ⟨Nat.zero_le _, Nat.zero_le _⟩ rfl (fun H locs hP hS _ _ => ?_)
        obtain ⟨F2, eF2⟩ : ∃ Z : Nat → Int, Z = fiZ F (k * 72).toNat 72 (fun j => wnZ G1 (wkZ (jC j) 0) (jN j)) := ⟨_, rfl⟩
        rw [← eF2] at hP
        refine lv_aload_n hx hb dX0_times_69 rfl (lv_at hl 0 rfl) ?_
        refine wr_V (As := []) (rest := []) (st1 := [.int (iZ k)]) (F' := F2) (G' := G1) (k' := k + 1) S (k_X0_keepDraft l D o q1 q2 cI tE tL F2 G1 k  hd ) tb_161 tb_163 ts_X0_keepDraft tb_1 tb_164 hd_X0_keepDraft ⟨rfl, rfl, by decide, by decide⟩ hP hK rfl hs hS hA hAn rfl hl.1 rfl (Nat.le_of_ble_eq_true rfl) dX0_times_70 ⟨Nat.zero_le _, Nat.zero_le _⟩ rfl (fun H locs hP hS _ _ => ?_)
        exact wr_iret hx hb hr hlk (wP_eq hP ((by rw [eF2, eG1])) eG1 rfl) hS (congrArg (fun z => some (Value.int (iZ z))) (show (k : Int) = k from rfl)) dX0_times_73
      · exfalso
        omega
    · exfalso
      omega
