def fiZ (F : Nat → Int) (b m : Nat) (g : Nat → Int) : Nat → Int := fun j => if b ≤ j ∧ j < b + m then g (j - b) else F j
theorem fi_step {F : Nat → Int} {b m : Nat} {g : Nat → Int} : uZ (fiZ F b m g) (b + m) (g m) = fiZ F b (m + 1) g := by
  funext j
  unfold uZ fiZ
  by_cases h : j = b + m
  · rw [if_pos h, if_pos (by omega), show j - b = m by omega]
  · rw [if_neg h]
    by_cases h2 : b ≤ j ∧ j < b + m
    · rw [if_pos h2, if_pos (by omega)]
    · rw [if_neg h2, if_neg (by omega)]
theorem fi_0 {F : Nat → Int} {b : Nat} {g : Nat → Int} : F = fiZ F b 0 g := by
  funext j
  unfold fiZ
  rw [if_neg (by omega)]
/-- a place written behind the ones that were -/
theorem fi_next {F : Nat → Int} {b m z : Int} {x : Int} {g : Nat → Int} (hb : 0 ≤ b) (hm : 0 ≤ m) (hz : z = b + m) (hx : x = g m.toNat) : uZ (fiZ F b.toNat m.toNat g) z.toNat x = fiZ F b.toNat (m + 1).toNat g := by
  rw [show z.toNat = b.toNat + m.toNat by omega, hx, fi_step, show (m + 1).toNat = m.toNat + 1 by omega]
theorem fi_len {F : Nat → Int} {b : Nat} {m n : Int} {g : Nat → Int} (h : m = n) : fiZ F b m.toNat g = fiZ F b n.toNat g := by rw [h]
theorem nu_fi {F : Nat → Int} {b m : Nat} {g : Nat → Int} {f c n : Int} (h : (f + 1) * 72 ≤ b) : nuZ (fiZ F b m g) f c n = nuZ F f c n := by
  unfold nuZ
  by_cases h1 : 0 ≤ f ∧ f < 60 ∧ 0 ≤ c ∧ c < 8 ∧ -4 ≤ n ∧ n ≤ 4
  · rw [if_pos h1, if_pos h1]
    unfold fiZ
    rw [if_neg (by omega)]
  · rw [if_neg h1, if_neg h1]
theorem fi_rng {F : Nat → Int} {b m : Nat} {g : Nat → Int} (hF : ∀ j, 0 ≤ F j ∧ F j < 32003) (hg : ∀ j, 0 ≤ g j ∧ g j < 32003) : ∀ j, 0 ≤ fiZ F b m g j ∧ fiZ F b m g j < 32003 := by
  intro j
  unfold fiZ
  split
  · exact hg _
  · exact hF _
def jC (j : Nat) : Int := ((j / 9 : Nat) : Int)
def jN (j : Nat) : Int := ((j % 9 : Nat) : Int) - 4
theorem jC_at {c n : Int} (hc : 0 ≤ c) (hn : -4 ≤ n ∧ n ≤ 4) : jC (c * 9 + n + 4).toNat = c := by unfold jC; omega
theorem jN_at {c n : Int} (hc : 0 ≤ c) (hn : -4 ≤ n ∧ n ≤ 4) : jN (c * 9 + n + 4).toNat = n := by unfold jN; omega
set_option maxHeartbeats 4000000 in
set_option maxRecDepth 100000 in
theorem k_X0_keepDraft (l : Launch) (D : va_G) (o q1 q2 : Nat) (cI : ClassId) (tE tL : Nat) (F G : Nat → Int) (k : Int)  (hd : dX o q1 q2)  : wr_M l yX0_keepDraft cX0_keepDraft 2 (some .int) ({ frames := 0, cells := 0, slots := 0, locals := 0 }) [] D o q1 q2 cI tE tL F G k (some (.int (iZ k))) F G (k + 1) := by
  refine wr_of (by decide) rfl (Nat.le_of_ble_eq_true rfl) ?_
  intro p e s m below meth c A hAe S hr hlk hP hK hs hA hAn hS ls hl
  obtain ⟨hx, hb, hml, hown, hT⟩ := id S
  obtain ⟨⟨hZE, hTE⟩, hZL, hTL⟩ := id hs
  have hl : lv_has ls 2 [(0, .ref o)] := hl
  refine lv_aload_n hx hb dX0_keepDraft_0 rfl (lv_at hl 0 rfl) ?_
  refine va_get (D := D) (ci := 0) (C := RX0) (T := TX0) (N := 3) hx hb hT inX0 hown hK hP 0 rfl rfl 2 (by decide) (hT _ tb_20) (fun _ h9 => h9) rfl dX0_keepDraft_1 ?_
  refine lv_istore_n (lv' := [(1, .int (iZ k)), (0, .ref o)]) hx hb dX0_keepDraft_4 rfl hl (by decide) rfl (fun ls hl => ?_)
  refine lv_aload_n hx hb dX0_keepDraft_5 rfl (lv_at hl 1 rfl) ?_
  refine lv_aload_n hx hb dX0_keepDraft_6 rfl (lv_at hl 1 rfl) ?_
  refine va_get (D := D) (ci := 0) (C := RX0) (T := TX0) (N := 3) hx hb hT inX0 hown hK hP 0 rfl rfl 2 (by decide) (hT _ tb_20) (fun _ h9 => h9) rfl dX0_keepDraft_7 ?_
  refine zi_const hx hb 1 dX0_keepDraft_10 ?_
  refine zi_add hx hb dX0_keepDraft_11 ?_
  refine va_put (D := D) (ci := 0) (v := .int (iZ (k + 1))) (ty := .int) (C := RX0) (T := TX0) (N := 3) hx hb hT inX0 tyX0 tyX0_ok nmX0 hown hK hP (dX_D hd hA) hS 0 rfl rfl 2 (by decide) (hT _ tb_20) (fun _ h9 => h9) rfl (by decide +kernel) rfl rfl (Nat.le_of_ble_eq_true rfl) dX0_keepDraft_12 (fun H locs hP _ hS => ?_)
  have hP : va_P D vwCl (wX o q1 q2 cI F G (k + 1)) H := hP
  refine lv_iload_n hx hb dX0_keepDraft_15 rfl (lv_at hl 0 rfl) ?_
  exact wr_iret hx hb hr hlk (wP_eq hP rfl rfl rfl) hS (congrArg (fun z => some (Value.int (iZ z))) (show (k : Int) = k from rfl)) dX0_keepDraft_16
set_option maxHeartbeats 4000000 in
set_option maxRecDepth 100000 in
theorem k_X0_setDraft (l : Launch) (D : va_G) (o q1 q2 : Nat) (cI : ClassId) (tE tL : Nat) (F G : Nat → Int) (k : Int) (c1 n v : Int) (hd : dX o q1 q2) (hk : 0 ≤ k ∧ k < 60) (hc1 : 0 ≤ c1 ∧ c1 < 8) (hn : -4 ≤ n ∧ n ≤ 4) : wr_M l yX0_setDraft cX0_setDraft 4 none ({ frames := 2, cells := 0, slots := 0, locals := 42 }) [.int (iZ c1), .int (iZ n), .int (iZ v)] D o q1 q2 cI tE tL F G k none (uZ F (k * 72 + c1 * 9 + n + 4).toNat v) G k := by
  refine wr_of (by decide) rfl (Nat.le_of_ble_eq_true rfl) ?_
  intro p e s m below meth c A hAe S hr hlk hP hK hs hA hAn hS ls hl
  obtain ⟨hx, hb, hml, hown, hT⟩ := id S
  obtain ⟨⟨hZE, hTE⟩, hZL, hTL⟩ := id hs
  have hl : lv_has ls 4 [(0, .ref o), (1, .int (iZ c1)), (2, .int (iZ n)), (3, .int (iZ v))] := hl
  refine lv_aload_n hx hb dX0_setDraft_0 rfl (lv_at hl 0 rfl) ?_
  refine va_get (D := D) (ci := 0) (C := RX0) (T := TX0) (N := 3) hx hb hT inX0 hown hK hP 0 rfl rfl 2 (by decide) (hT _ tb_20) (fun _ h9 => h9) rfl dX0_setDraft_1 ?_
  refine lv_iload_n hx hb dX0_setDraft_4 rfl (lv_at hl 1 rfl) ?_
  refine lv_iload_n hx hb dX0_setDraft_5 rfl (lv_at hl 2 rfl) ?_
  refine rd_S (As := [.int (iZ k), .int (iZ c1), .int (iZ n)]) (rest := []) (st1 := [.int (iZ (plcZ k c1 n))]) S (k_X0_isPlace l k c1 n (by omega) (by omega) (by omega)) tb_151 tb_152 tb_1 tb_153 hd_X0_isPlace ⟨rfl, rfl, by decide, by decide⟩ bl_T (fun _ _ _ => trivial) rfl hl.1 rfl (Nat.le_of_ble_eq_true rfl) dX0_setDraft_6 ⟨Nat.zero_le _, Nat.zero_le _⟩ rfl ?_
  have hf9 := plcZ_or k c1 n
  refine zi_feq (tgt := 27) hx hb dX0_setDraft_9 (by decide) (by omega) (fun hc9 => ?_) (fun hc9 => ?_)
  · exfalso
    omega
  · refine lv_aload_n hx hb dX0_setDraft_12 rfl (lv_at hl 0 rfl) ?_
    refine va_get (D := D) (ci := 0) (C := RX0) (T := TX0) (N := 3) hx hb hT inX0 hown hK hP 0 rfl rfl 0 (by decide) (hT _ tb_18) (fun _ h9 => h9) rfl dX0_setDraft_13 ?_
    refine lv_aload_n hx hb dX0_setDraft_16 rfl (lv_at hl 0 rfl) ?_
    refine va_get (D := D) (ci := 0) (C := RX0) (T := TX0) (N := 3) hx hb hT inX0 hown hK hP 0 rfl rfl 2 (by decide) (hT _ tb_20) (fun _ h9 => h9) rfl dX0_setDraft_17 ?_
    refine lv_iload_n hx hb dX0_setDraft_20 rfl (lv_at hl 1 rfl) ?_
    refine lv_iload_n hx hb dX0_setDraft_21 rfl (lv_at hl 2 rfl) ?_
    refine rd_S (As := [.int (iZ k), .int (iZ c1), .int (iZ n)]) (rest := [.ref q1]) (st1 := [.int (iZ (k * 72 + c1 * 9 + n + 4)), .ref q1]) S (k_X0_place l k c1 n) tb_154 tb_155 tb_1 tb_156 hd_X0_place ⟨rfl, rfl, by decide, by decide⟩ bl_T (fun _ _ _ => trivial) rfl hl.1 rfl (Nat.le_of_ble_eq_true rfl) dX0_setDraft_22 ⟨Nat.zero_le _, Nat.zero_le _⟩ rfl ?_
    refine lv_iload_n hx hb dX0_setDraft_25 rfl (lv_at hl 3 rfl) ?_
    refine wx_num hx hb hK hP hd hA hS (by omega) dX0_setDraft_26 (fun H locs hP hS => ?_)
    obtain ⟨F1, eF1⟩ : ∃ Z : Nat → Int, Z = uZ F (k * 72 + c1 * 9 + n + 4).toNat v := ⟨_, rfl⟩
    rw [← eF1] at hP
    exact wr_vret hx hb hr hlk (wP_eq hP ((by rw [eF1])) rfl rfl) hS rfl dX0_setDraft_27
set_option maxHeartbeats 4000000 in
set_option maxRecDepth 100000 in
theorem k_X0_clearDraft (l : Launch) (D : va_G) (o q1 q2 : Nat) (cI : ClassId) (tE tL : Nat) (F G : Nat → Int) (k : Int)  (hd : dX o q1 q2) (hk : 0 ≤ k ∧ k < 60) : wr_M l yX0_clearDraft cX0_clearDraft 3 none ({ frames := 3, cells := 0, slots := 0, locals := 65 }) [] D o q1 q2 cI tE tL F G k none (fiZ F (k * 72).toNat 72 (fun j => (0 : Int))) G k := by
  refine wr_of (by decide) rfl (Nat.le_of_ble_eq_true rfl) ?_
  intro p e s m below meth c A hAe S hr hlk hP hK hs hA hAn hS ls hl
  obtain ⟨hx, hb, hml, hown, hT⟩ := id S
  obtain ⟨⟨hZE, hTE⟩, hZL, hTL⟩ := id hs
  have hl : lv_has ls 3 [(0, .ref o)] := hl
  refine zi_const hx hb 0 dX0_clearDraft_0 ?_
  refine lv_istore_n (lv' := [(1, .int (iZ 0)), (0, .ref o)]) hx hb dX0_clearDraft_1 rfl hl (by decide) rfl (fun ls hl => ?_)
  refine lp_goX (nL := 3) (α := Int) (fun z => [(0, .ref o), (1, .int (iZ z))]) (fun z => fiZ F (k * 72).toNat (z * 9).toNat (fun j => (0 : Int))) (fun _ => G) (fun _ => k) (fun m2 z => 0 ≤ z ∧ z + (m2 : Int) = 8) ?_ 8 ((0 : Int)) (by (try dsimp only); omega) _ _ (wP_eq hP fi_0 rfl rfl) hS ls (lv_sub hl [1, 0] rfl)
  intro m2 z1 hI2 ih2 H locs hP hS ls hl
  obtain ⟨c1, rfl⟩ : ∃ y : Int, y = z1 := ⟨_, rfl⟩
  have hl : lv_has ls 3 [(0, .ref o), (1, .int (iZ c1))] := hl
  have hI2 : 0 ≤ c1 ∧ c1 + (m2 : Int) = 8 := hI2
  have hP : va_P D vwCl (wX o q1 q2 cI (fiZ F (k * 72).toNat (c1 * 9).toNat (fun j => (0 : Int))) G k) H := hP
  obtain ⟨F2, eF2⟩ : ∃ Z : Nat → Int, Z = fiZ F (k * 72).toNat (c1 * 9).toNat (fun j => (0 : Int)) := ⟨_, rfl⟩
  rw [← eF2] at hP
  refine lv_iload_n hx hb dX0_clearDraft_2 rfl (lv_at hl 1 rfl) ?_
  refine zi_bi hx hb 8 dX0_clearDraft_3 (by decide) ?_
  refine zi_cge (tgt := 35) hx hb dX0_clearDraft_5 (by decide) (by omega) (by omega) (fun hc5 => ?_) (fun hc5 => ?_)
  · exact wr_vret hx hb hr hlk (wP_eq hP ((by rw [eF2]; exact fi_len (n := 72) (by omega))) rfl rfl) hS rfl dX0_clearDraft_35
  · refine zi_bi hx hb (-4) dX0_clearDraft_8 (by decide) ?_
    refine lv_istore_n (lv' := [(2, .int (iZ (-4))), (0, .ref o), (1, .int (iZ c1))]) hx hb dX0_clearDraft_10 rfl hl (by decide) rfl (fun ls hl => ?_)
    refine lp_goX (nL := 3) (α := Int) (fun z => [(0, .ref o), (1, .int (iZ c1)), (2, .int (iZ z))]) (fun z => fiZ F (k * 72).toNat (c1 * 9 + z + 4).toNat (fun j => (0 : Int))) (fun _ => G) (fun _ => k) (fun m11 z => -4 ≤ z ∧ z + (m11 : Int) = 5) ?_ 9 (((-4) : Int)) (by (try dsimp only); omega) _ _ (wP_eq hP ((by rw [eF2]; exact fi_len (by omega))) rfl rfl) hS ls (lv_sub hl [1, 2, 0] rfl)
    intro m11 z3 hI11 ih11 H locs hP hS ls hl
    obtain ⟨n, rfl⟩ : ∃ y : Int, y = z3 := ⟨_, rfl⟩
    have hl : lv_has ls 3 [(0, .ref o), (1, .int (iZ c1)), (2, .int (iZ n))] := hl
    have hI11 : -4 ≤ n ∧ n + (m11 : Int) = 5 := hI11
    have hP : va_P D vwCl (wX o q1 q2 cI (fiZ F (k * 72).toNat (c1 * 9 + n + 4).toNat (fun j => (0 : Int))) G k) H := hP
    obtain ⟨F4, eF4⟩ : ∃ Z : Nat → Int, Z = fiZ F (k * 72).toNat (c1 * 9 + n + 4).toNat (fun j => (0 : Int)) := ⟨_, rfl⟩
    rw [← eF4] at hP
    refine lv_iload_n hx hb dX0_clearDraft_11 rfl (lv_at hl 2 rfl) ?_
    refine zi_const hx hb 4 dX0_clearDraft_12 ?_
    refine zi_cgt (tgt := 29) hx hb dX0_clearDraft_13 (by decide) (by omega) (by omega) (fun hc13 => ?_) (fun hc13 => ?_)
    · refine zi_inc (lv' := [(1, .int (iZ (c1 + 1))), (0, .ref o), (2, .int (iZ n))]) hx hb dX0_clearDraft_29 hl (k := 1) rfl (by decide) rfl (fun ls hl => ?_)
      refine lv_goto (tgt := 2) hx hb dX0_clearDraft_32 (by decide) ?_
      exact ih2 (m2 - 1) (c1 + 1) (by omega) (by (try dsimp only); omega) _ _ (wP_eq hP ((by rw [eF4]; exact fi_len (by omega))) rfl rfl) hS ls (lv_sub hl [1, 0] rfl)
    · refine lv_aload_n hx hb dX0_clearDraft_16 rfl (lv_at hl 0 rfl) ?_
      refine lv_iload_n hx hb dX0_clearDraft_17 rfl (lv_at hl 1 rfl) ?_
      refine lv_iload_n hx hb dX0_clearDraft_18 rfl (lv_at hl 2 rfl) ?_
      refine zi_const hx hb 0 dX0_clearDraft_19 ?_
      refine wr_V (As := [.int (iZ c1), .int (iZ n), .int (iZ 0)]) (rest := []) (st1 := []) (F' := uZ F4 (k * 72 + c1 * 9 + n + 4).toNat 0) (G' := G) (k' := k) S (k_X0_setDraft l D o q1 q2 cI tE tL F4 G k c1 n 0 hd (by omega) (by omega) (by omega)) tb_147 tb_149 ts_X0_setDraft tb_1 tb_150 hd_X0_setDraft ⟨rfl, rfl, by decide, by decide⟩ hP hK rfl hs hS hA hAn rfl hl.1 rfl (Nat.le_of_ble_eq_true rfl) dX0_clearDraft_20 ⟨Nat.zero_le _, Nat.zero_le _⟩ rfl (fun H locs hP hS _ _ => ?_)
      obtain ⟨F5, eF5⟩ : ∃ Z : Nat → Int, Z = uZ F4 (k * 72 + c1 * 9 + n + 4).toNat 0 := ⟨_, rfl⟩
      rw [← eF5] at hP
      refine zi_inc (lv' := [(2, .int (iZ (n + 1))), (0, .ref o), (1, .int (iZ c1))]) hx hb dX0_clearDraft_23 hl (k := 2) rfl (by decide) rfl (fun ls hl => ?_)
      refine lv_goto (tgt := 11) hx hb dX0_clearDraft_26 (by decide) ?_
      exact ih11 (m11 - 1) (n + 1) (by omega) (by (try dsimp only); omega) _ _ (wP_eq hP ((by rw [eF5, eF4]; exact (fi_next (m := c1 * 9 + n + 4) (by omega) (by omega) (by omega) (rfl)).trans (fi_len (by omega)))) rfl rfl) hS ls (lv_sub hl [1, 2, 0] rfl)
set_option maxHeartbeats 4000000 in
set_option maxRecDepth 100000 in
theorem k_X0_draftSum (l : Launch) (D : va_G) (o q1 q2 : Nat) (cI : ClassId) (tE tL : Nat) (F G : Nat → Int) (k : Int) (f g t : Int) (hd : dX o q1 q2) (hF : ∀ j, 0 ≤ F j ∧ F j < 32003) (hk : 0 ≤ k ∧ k < 60) (hf : 0 ≤ f ∧ f < k) (hg : 0 ≤ g ∧ g < k) (ht : 0 ≤ t ∧ t < 32003) : wr_M l yX0_draftSum cX0_draftSum 6 none ({ frames := 3, cells := 0, slots := 0, locals := 65 }) [.int (iZ f), .int (iZ g), .int (iZ t)] D o q1 q2 cI tE tL F G k none (fiZ F (k * 72).toNat 72 (fun j => ( F ((f * 72).toNat + j) + t * F ((g * 72).toNat + j)) % 32003)) G k := by
  refine wr_of (by decide) rfl (Nat.le_of_ble_eq_true rfl) ?_
  intro p e s m below meth c A hAe S hr hlk hP hK hs hA hAn hS ls hl
  obtain ⟨hx, hb, hml, hown, hT⟩ := id S
  obtain ⟨⟨hZE, hTE⟩, hZL, hTL⟩ := id hs
  have hl : lv_has ls 6 [(0, .ref o), (1, .int (iZ f)), (2, .int (iZ g)), (3, .int (iZ t))] := hl
  refine zi_const hx hb 0 dX0_draftSum_0 ?_
  refine lv_istore (lv' := [(4, .int (iZ 0)), (0, .ref o), (1, .int (iZ f)), (2, .int (iZ g)), (3, .int (iZ t))]) hx hb dX0_draftSum_1 hl (by decide) rfl (fun ls hl => ?_)
  refine lp_goX (nL := 6) (α := Int) (fun z => [(0, .ref o), (1, .int (iZ f)), (2, .int (iZ g)), (3, .int (iZ t)), (4, .int (iZ z))]) (fun z => fiZ F (k * 72).toNat (z * 9).toNat (fun j => ( F ((f * 72).toNat + j) + t * F ((g * 72).toNat + j)) % 32003)) (fun _ => G) (fun _ => k) (fun m3 z => 0 ≤ z ∧ z + (m3 : Int) = 8) ?_ 8 ((0 : Int)) (by (try dsimp only); omega) _ _ (wP_eq hP fi_0 rfl rfl) hS ls (lv_sub hl [1, 2, 3, 4, 0] rfl)
  intro m3 z1 hI3 ih3 H locs hP hS ls hl
  obtain ⟨c1, rfl⟩ : ∃ y : Int, y = z1 := ⟨_, rfl⟩
  have hl : lv_has ls 6 [(0, .ref o), (1, .int (iZ f)), (2, .int (iZ g)), (3, .int (iZ t)), (4, .int (iZ c1))] := hl
  have hI3 : 0 ≤ c1 ∧ c1 + (m3 : Int) = 8 := hI3
  have hP : va_P D vwCl (wX o q1 q2 cI (fiZ F (k * 72).toNat (c1 * 9).toNat (fun j => ( F ((f * 72).toNat + j) + t * F ((g * 72).toNat + j)) % 32003)) G k) H := hP
  obtain ⟨F2, eF2⟩ : ∃ Z : Nat → Int, Z = fiZ F (k * 72).toNat (c1 * 9).toNat (fun j => ( F ((f * 72).toNat + j) + t * F ((g * 72).toNat + j)) % 32003) := ⟨_, rfl⟩
  rw [← eF2] at hP
  refine lv_iload hx hb dX0_draftSum_3 (lv_at hl 4 rfl) ?_
  refine zi_bi hx hb 8 dX0_draftSum_5 (by decide) ?_
  refine zi_cge (tgt := 67) hx hb dX0_draftSum_7 (by decide) (by omega) (by omega) (fun hc7 => ?_) (fun hc7 => ?_)
  · exact wr_vret hx hb hr hlk (wP_eq hP ((by rw [eF2]; exact fi_len (n := 72) (by omega))) rfl rfl) hS rfl dX0_draftSum_67
  · refine zi_bi hx hb (-4) dX0_draftSum_10 (by decide) ?_
    refine lv_istore (lv' := [(5, .int (iZ (-4))), (0, .ref o), (1, .int (iZ f)), (2, .int (iZ g)), (3, .int (iZ t)), (4, .int (iZ c1))]) hx hb dX0_draftSum_12 hl (by decide) rfl (fun ls hl => ?_)
    refine lp_goX (nL := 6) (α := Int) (fun z => [(0, .ref o), (1, .int (iZ f)), (2, .int (iZ g)), (3, .int (iZ t)), (4, .int (iZ c1)), (5, .int (iZ z))]) (fun z => fiZ F (k * 72).toNat (c1 * 9 + z + 4).toNat (fun j => ( F ((f * 72).toNat + j) + t * F ((g * 72).toNat + j)) % 32003)) (fun _ => G) (fun _ => k) (fun m14 z => -4 ≤ z ∧ z + (m14 : Int) = 5) ?_ 9 (((-4) : Int)) (by (try dsimp only); omega) _ _ (wP_eq hP ((by rw [eF2]; exact fi_len (by omega))) rfl rfl) hS ls (lv_sub hl [1, 2, 3, 4, 5, 0] rfl)
    intro m14 z3 hI14 ih14 H locs hP hS ls hl
    obtain ⟨n, rfl⟩ : ∃ y : Int, y = z3 := ⟨_, rfl⟩
    have hl : lv_has ls 6 [(0, .ref o), (1, .int (iZ f)), (2, .int (iZ g)), (3, .int (iZ t)), (4, .int (iZ c1)), (5, .int (iZ n))] := hl
    have hI14 : -4 ≤ n ∧ n + (m14 : Int) = 5 := hI14
    have hP : va_P D vwCl (wX o q1 q2 cI (fiZ F (k * 72).toNat (c1 * 9 + n + 4).toNat (fun j => ( F ((f * 72).toNat + j) + t * F ((g * 72).toNat + j)) % 32003)) G k) H := hP
    obtain ⟨F4, eF4⟩ : ∃ Z : Nat → Int, Z = fiZ F (k * 72).toNat (c1 * 9 + n + 4).toNat (fun j => ( F ((f * 72).toNat + j) + t * F ((g * 72).toNat + j)) % 32003) := ⟨_, rfl⟩
    rw [← eF4] at hP
    have hFi : ∀ j, 0 ≤ F4 j ∧ F4 j < 32003 := by
      rw [eF4]
      exact fi_rng hF (fun j => (show 0 ≤ (F ((f * 72).toNat + j) + t * F ((g * 72).toNat + j)) % 32003 ∧ (F ((f * 72).toNat + j) + t * F ((g * 72).toNat + j)) % 32003 < 32003 by omega))
    have hm1 := mul_rng ht (nuZ_rng hFi g c1 n)
    refine lv_iload hx hb dX0_draftSum_14 (lv_at hl 5 rfl) ?_
    refine zi_const hx hb 4 dX0_draftSum_16 ?_
    refine zi_cgt (tgt := 61) hx hb dX0_draftSum_17 (by decide) (by omega) (by omega) (fun hc17 => ?_) (fun hc17 => ?_)
    · refine zi_inc (lv' := [(4, .int (iZ (c1 + 1))), (0, .ref o), (1, .int (iZ f)), (2, .int (iZ g)), (3, .int (iZ t)), (5, .int (iZ n))]) hx hb dX0_draftSum_61 hl (k := 4) rfl (by decide) rfl (fun ls hl => ?_)
      refine lv_goto (tgt := 3) hx hb dX0_draftSum_64 (by decide) ?_
      exact ih3 (m3 - 1) (c1 + 1) (by omega) (by (try dsimp only); omega) _ _ (wP_eq hP ((by rw [eF4]; exact fi_len (by omega))) rfl rfl) hS ls (lv_sub hl [1, 2, 3, 4, 0] rfl)
    · refine lv_aload_n hx hb dX0_draftSum_20 rfl (lv_at hl 0 rfl) ?_
      refine lv_iload hx hb dX0_draftSum_21 (lv_at hl 4 rfl) ?_
      refine lv_iload hx hb dX0_draftSum_23 (lv_at hl 5 rfl) ?_
      refine lv_aload_n hx hb dX0_draftSum_25 rfl (lv_at hl 0 rfl) ?_
      refine lv_iload_n hx hb dX0_draftSum_26 rfl (lv_at hl 1 rfl) ?_
      refine lv_iload hx hb dX0_draftSum_27 (lv_at hl 4 rfl) ?_
      refine lv_iload hx hb dX0_draftSum_29 (lv_at hl 5 rfl) ?_
      refine rd_V (As := [.int (iZ f), .int (iZ c1), .int (iZ n)]) (rest := [.int (iZ n), .int (iZ c1), .ref o]) (st1 := [.int (iZ (nuZ F4 f c1 n)), .int (iZ n), .int (iZ c1), .ref o]) S (k_X0_number l D o q1 q2 cI tE tL F4 G k f c1 n (by omega) (by omega) (by omega)) tb_197 tb_199 ts_X0_number tb_1 tb_200 hd_X0_number ⟨rfl, rfl, by decide, by decide⟩ rX_bl (rX_w hP hK rfl hs hS) (va_recv hK hP (ci := 0) (q0 := 0) rfl rfl) rfl hl.1 rfl (Nat.le_of_ble_eq_true rfl) dX0_draftSum_31 ⟨Nat.zero_le _, Nat.zero_le _⟩ rfl ?_
      have hn34 := nuZ_rng hFi f c1 n
      refine zi_i2l hx hb dX0_draftSum_34 (by omega) ?_
      refine lv_iload_n hx hb dX0_draftSum_35 rfl (lv_at hl 3 rfl) ?_
      refine zi_i2l hx hb dX0_draftSum_36 (by omega) ?_
      refine lv_aload_n hx hb dX0_draftSum_37 rfl (lv_at hl 0 rfl) ?_
      refine lv_iload_n hx hb dX0_draftSum_38 rfl (lv_at hl 2 rfl) ?_
      refine lv_iload hx hb dX0_draftSum_39 (lv_at hl 4 rfl) ?_
      refine lv_iload hx hb dX0_draftSum_41 (lv_at hl 5 rfl) ?_
      refine rd_V (As := [.int (iZ g), .int (iZ c1), .int (iZ n)]) (rest := [.long (lZ t), .long (lZ (nuZ F4 f c1 n)), .int (iZ n), .int (iZ c1), .ref o]) (st1 := [.int (iZ (nuZ F4 g c1 n)), .long (lZ t), .long (lZ (nuZ F4 f c1 n)), .int (iZ n), .int (iZ c1), .ref o]) S (k_X0_number l D o q1 q2 cI tE tL F4 G k g c1 n (by omega) (by omega) (by omega)) tb_197 tb_199 ts_X0_number tb_1 tb_200 hd_X0_number ⟨rfl, rfl, by decide, by decide⟩ rX_bl (rX_w hP hK rfl hs hS) (va_recv hK hP (ci := 0) (q0 := 0) rfl rfl) rfl hl.1 rfl (Nat.le_of_ble_eq_true rfl) dX0_draftSum_43 ⟨Nat.zero_le _, Nat.zero_le _⟩ rfl ?_
      have hn46 := nuZ_rng hFi g c1 n
      refine zi_i2l hx hb dX0_draftSum_46 (by omega) ?_
      refine zl_mul hx hb dX0_draftSum_47 ?_
      refine zl_add hx hb dX0_draftSum_48 ?_
      refine rd_S (As := [.long (lZ ((nuZ F4 f c1 n) + (t * (nuZ F4 g c1 n))))]) (rest := [.int (iZ n), .int (iZ c1), .ref o]) (st1 := [.int (iZ (((nuZ F4 f c1 n) + (t * (nuZ F4 g c1 n))) % 32003)), .int (iZ n), .int (iZ c1), .ref o]) S (k_X0_reduce l ((nuZ F4 f c1 n) + (t * (nuZ F4 g c1 n))) (by omega)) tb_157 tb_158 tb_1 tb_159 hd_X0_reduce ⟨rfl, rfl, by decide, by decide⟩ bl_T (fun _ _ _ => trivial) rfl hl.1 rfl (Nat.le_of_ble_eq_true rfl) dX0_draftSum_49 ⟨Nat.zero_le _, Nat.zero_le _⟩ rfl ?_
      refine wr_V (As := [.int (iZ c1), .int (iZ n), .int (iZ (((nuZ F4 f c1 n) + (t * (nuZ F4 g c1 n))) % 32003))]) (rest := []) (st1 := []) (F' := uZ F4 (k * 72 + c1 * 9 + n + 4).toNat (((nuZ F4 f c1 n) + (t * (nuZ F4 g c1 n))) % 32003)) (G' := G) (k' := k) S (k_X0_setDraft l D o q1 q2 cI tE tL F4 G k c1 n (((nuZ F4 f c1 n) + (t * (nuZ F4 g c1 n))) % 32003) hd (by omega) (by omega) (by omega)) tb_147 tb_149 ts_X0_setDraft tb_1 tb_150 hd_X0_setDraft ⟨rfl, rfl, by decide, by decide⟩ hP hK rfl hs hS hA hAn rfl hl.1 rfl (Nat.le_of_ble_eq_true rfl) dX0_draftSum_52 ⟨Nat.zero_le _, Nat.zero_le _⟩ rfl (fun H locs hP hS _ _ => ?_)
      obtain ⟨F5, eF5⟩ : ∃ Z : Nat → Int, Z = uZ F4 (k * 72 + c1 * 9 + n + 4).toNat (((nuZ F4 f c1 n) + (t * (nuZ F4 g c1 n))) % 32003) := ⟨_, rfl⟩
      rw [← eF5] at hP
      refine zi_inc (lv' := [(5, .int (iZ (n + 1))), (0, .ref o), (1, .int (iZ f)), (2, .int (iZ g)), (3, .int (iZ t)), (4, .int (iZ c1))]) hx hb dX0_draftSum_55 hl (k := 5) rfl (by decide) rfl (fun ls hl => ?_)
      refine lv_goto (tgt := 14) hx hb dX0_draftSum_58 (by decide) ?_
      exact ih14 (m14 - 1) (n + 1) (by omega) (by (try dsimp only); omega) _ _ (wP_eq hP ((by rw [eF5, eF4]; exact (fi_next (m := c1 * 9 + n + 4) (by omega) (by omega) (by omega) (by rw [nu_fi (by omega), nu_fi (by omega), nu_lin (by omega) (by omega) (by omega), nu_lin (by omega) (by omega) (by omega)])).trans (fi_len (by omega)))) rfl rfl) hS ls (lv_sub hl [1, 2, 3, 4, 5, 0] rfl)
theorem sl_fi {F : Nat → Int} {b m : Nat} {g : Nat → Int} {f c n : Int} (h : (f + 1) * 72 ≤ b) : slZ (fiZ F b m g) f c n = slZ F f c n := by
  unfold slZ
  rw [nu_fi h, nu_fi h, nu_fi h]
set_option maxHeartbeats 4000000 in
set_option maxRecDepth 100000 in
theorem k_X0_draftSlope (l : Launch) (D : va_G) (o q1 q2 : Nat) (cI : ClassId) (tE tL : Nat) (F G : Nat → Int) (k : Int) (f : Int) (hd : dX o q1 q2) (hF : ∀ j, 0 ≤ F j ∧ F j < 32003) (hk : 0 ≤ k ∧ k < 60) (hf : 0 ≤ f ∧ f < k) : wr_M l yX0_draftSlope cX0_draftSlope 4 none ({ frames := 4, cells := 0, slots := 0, locals := 90 }) [.int (iZ f)] D o q1 q2 cI tE tL F G k none (fiZ F (k * 72).toNat 72 (fun j => slZ F f (jC j) (jN j))) G k := by
  refine wr_of (by decide) rfl (Nat.le_of_ble_eq_true rfl) ?_
  intro p e s m below meth c A hAe S hr hlk hP hK hs hA hAn hS ls hl
  obtain ⟨hx, hb, hml, hown, hT⟩ := id S
  obtain ⟨⟨hZE, hTE⟩, hZL, hTL⟩ := id hs
  have hl : lv_has ls 4 [(0, .ref o), (1, .int (iZ f))] := hl
  refine zi_const hx hb 0 dX0_draftSlope_0 ?_
  refine lv_istore_n (lv' := [(2, .int (iZ 0)), (0, .ref o), (1, .int (iZ f))]) hx hb dX0_draftSlope_1 rfl hl (by decide) rfl (fun ls hl => ?_)
  refine lp_goX (nL := 4) (α := Int) (fun z => [(0, .ref o), (1, .int (iZ f)), (2, .int (iZ z))]) (fun z => fiZ F (k * 72).toNat (z * 9).toNat (fun j => slZ F f (jC j) (jN j))) (fun _ => G) (fun _ => k) (fun m2 z => 0 ≤ z ∧ z + (m2 : Int) = 8) ?_ 8 ((0 : Int)) (by (try dsimp only); omega) _ _ (wP_eq hP fi_0 rfl rfl) hS ls (lv_sub hl [1, 2, 0] rfl)
  intro m2 z1 hI2 ih2 H locs hP hS ls hl
  obtain ⟨c1, rfl⟩ : ∃ y : Int, y = z1 := ⟨_, rfl⟩
  have hl : lv_has ls 4 [(0, .ref o), (1, .int (iZ f)), (2, .int (iZ c1))] := hl
  have hI2 : 0 ≤ c1 ∧ c1 + (m2 : Int) = 8 := hI2
  have hP : va_P D vwCl (wX o q1 q2 cI (fiZ F (k * 72).toNat (c1 * 9).toNat (fun j => slZ F f (jC j) (jN j))) G k) H := hP
  obtain ⟨F2, eF2⟩ : ∃ Z : Nat → Int, Z = fiZ F (k * 72).toNat (c1 * 9).toNat (fun j => slZ F f (jC j) (jN j)) := ⟨_, rfl⟩
  rw [← eF2] at hP
  refine lv_iload_n hx hb dX0_draftSlope_2 rfl (lv_at hl 2 rfl) ?_
  refine zi_bi hx hb 8 dX0_draftSlope_3 (by decide) ?_
  refine zi_cge (tgt := 41) hx hb dX0_draftSlope_5 (by decide) (by omega) (by omega) (fun hc5 => ?_) (fun hc5 => ?_)
  · exact wr_vret hx hb hr hlk (wP_eq hP ((by rw [eF2]; exact fi_len (n := 72) (by omega))) rfl rfl) hS rfl dX0_draftSlope_41
  · refine zi_bi hx hb (-4) dX0_draftSlope_8 (by decide) ?_
    refine lv_istore_n (lv' := [(3, .int (iZ (-4))), (0, .ref o), (1, .int (iZ f)), (2, .int (iZ c1))]) hx hb dX0_draftSlope_10 rfl hl (by decide) rfl (fun ls hl => ?_)
    refine lp_goX (nL := 4) (α := Int) (fun z => [(0, .ref o), (1, .int (iZ f)), (2, .int (iZ c1)), (3, .int (iZ z))]) (fun z => fiZ F (k * 72).toNat (c1 * 9 + z + 4).toNat (fun j => slZ F f (jC j) (jN j))) (fun _ => G) (fun _ => k) (fun m11 z => -4 ≤ z ∧ z + (m11 : Int) = 5) ?_ 9 (((-4) : Int)) (by (try dsimp only); omega) _ _ (wP_eq hP ((by rw [eF2]; exact fi_len (by omega))) rfl rfl) hS ls (lv_sub hl [1, 2, 3, 0] rfl)
    intro m11 z3 hI11 ih11 H locs hP hS ls hl
    obtain ⟨n, rfl⟩ : ∃ y : Int, y = z3 := ⟨_, rfl⟩
    have hl : lv_has ls 4 [(0, .ref o), (1, .int (iZ f)), (2, .int (iZ c1)), (3, .int (iZ n))] := hl
    have hI11 : -4 ≤ n ∧ n + (m11 : Int) = 5 := hI11
    have hP : va_P D vwCl (wX o q1 q2 cI (fiZ F (k * 72).toNat (c1 * 9 + n + 4).toNat (fun j => slZ F f (jC j) (jN j))) G k) H := hP
    obtain ⟨F4, eF4⟩ : ∃ Z : Nat → Int, Z = fiZ F (k * 72).toNat (c1 * 9 + n + 4).toNat (fun j => slZ F f (jC j) (jN j)) := ⟨_, rfl⟩
    rw [← eF4] at hP
    have hFi : ∀ j, 0 ≤ F4 j ∧ F4 j < 32003 := by
      rw [eF4]
      exact fi_rng hF (fun j => slZ_rng _ _ _ _)
    refine lv_iload_n hx hb dX0_draftSlope_11 rfl (lv_at hl 3 rfl) ?_
    refine zi_const hx hb 4 dX0_draftSlope_12 ?_
    refine zi_cgt (tgt := 35) hx hb dX0_draftSlope_13 (by decide) (by omega) (by omega) (fun hc13 => ?_) (fun hc13 => ?_)
    · refine zi_inc (lv' := [(2, .int (iZ (c1 + 1))), (0, .ref o), (1, .int (iZ f)), (3, .int (iZ n))]) hx hb dX0_draftSlope_35 hl (k := 2) rfl (by decide) rfl (fun ls hl => ?_)
      refine lv_goto (tgt := 2) hx hb dX0_draftSlope_38 (by decide) ?_
      exact ih2 (m2 - 1) (c1 + 1) (by omega) (by (try dsimp only); omega) _ _ (wP_eq hP ((by rw [eF4]; exact fi_len (by omega))) rfl rfl) hS ls (lv_sub hl [1, 2, 0] rfl)
    · refine lv_aload_n hx hb dX0_draftSlope_16 rfl (lv_at hl 0 rfl) ?_
      refine lv_iload_n hx hb dX0_draftSlope_17 rfl (lv_at hl 2 rfl) ?_
      refine lv_iload_n hx hb dX0_draftSlope_18 rfl (lv_at hl 3 rfl) ?_
      refine lv_aload_n hx hb dX0_draftSlope_19 rfl (lv_at hl 0 rfl) ?_
      refine lv_iload_n hx hb dX0_draftSlope_20 rfl (lv_at hl 1 rfl) ?_
      refine lv_iload_n hx hb dX0_draftSlope_21 rfl (lv_at hl 2 rfl) ?_
      refine lv_iload_n hx hb dX0_draftSlope_22 rfl (lv_at hl 3 rfl) ?_
      refine rd_V (As := [.int (iZ f), .int (iZ c1), .int (iZ n)]) (rest := [.int (iZ n), .int (iZ c1), .ref o]) (st1 := [.int (iZ (slZ F4 f c1 n)), .int (iZ n), .int (iZ c1), .ref o]) S (k_X0_slopeNumber l D o q1 q2 cI tE tL F4 G k f c1 n hFi (by omega) (by omega) (by omega)) tb_286 tb_288 ts_X0_slopeNumber tb_1 tb_289 hd_X0_slopeNumber ⟨rfl, rfl, by decide, by decide⟩ rX_bl (rX_w hP hK rfl hs hS) (va_recv hK hP (ci := 0) (q0 := 0) rfl rfl) rfl hl.1 rfl (Nat.le_of_ble_eq_true rfl) dX0_draftSlope_23 ⟨Nat.zero_le _, Nat.zero_le _⟩ rfl ?_
      have hsl26 := slZ_rng F4 f c1 n
      refine wr_V (As := [.int (iZ c1), .int (iZ n), .int (iZ (slZ F4 f c1 n))]) (rest := []) (st1 := []) (F' := uZ F4 (k * 72 + c1 * 9 + n + 4).toNat (slZ F4 f c1 n)) (G' := G) (k' := k) S (k_X0_setDraft l D o q1 q2 cI tE tL F4 G k c1 n (slZ F4 f c1 n) hd (by omega) (by omega) (by omega)) tb_147 tb_149 ts_X0_setDraft tb_1 tb_150 hd_X0_setDraft ⟨rfl, rfl, by decide, by decide⟩ hP hK rfl hs hS hA hAn rfl hl.1 rfl (Nat.le_of_ble_eq_true rfl) dX0_draftSlope_26 ⟨Nat.zero_le _, Nat.zero_le _⟩ rfl (fun H locs hP hS _ _ => ?_)
      obtain ⟨F5, eF5⟩ : ∃ Z : Nat → Int, Z = uZ F4 (k * 72 + c1 * 9 + n + 4).toNat (slZ F4 f c1 n) := ⟨_, rfl⟩
      rw [← eF5] at hP
      refine zi_inc (lv' := [(3, .int (iZ (n + 1))), (0, .ref o), (1, .int (iZ f)), (2, .int (iZ c1))]) hx hb dX0_draftSlope_29 hl (k := 3) rfl (by decide) rfl (fun ls hl => ?_)
      refine lv_goto (tgt := 11) hx hb dX0_draftSlope_32 (by decide) ?_
      exact ih11 (m11 - 1) (n + 1) (by omega) (by (try dsimp only); omega) _ _ (wP_eq hP ((by rw [eF5, eF4]; exact (fi_next (m := c1 * 9 + n + 4) (by omega) (by omega) (by omega) (by rw [sl_fi (by omega), jC_at (by omega) (by omega), jN_at (by omega) (by omega)])).trans (fi_len (by omega)))) rfl rfl) hS ls (lv_sub hl [1, 2, 3, 0] rfl)
set_option maxHeartbeats 4000000 in
set_option maxRecDepth 100000 in
theorem k_X0_draftProduct (l : Launch) (D : va_G) (o q1 q2 : Nat) (cI : ClassId) (tE tL : Nat) (F G : Nat → Int) (k : Int)  (hd : dX o q1 q2) (hG : ∀ j, 0 ≤ G j ∧ G j < 32003) (hk : 0 ≤ k ∧ k < 60) : wr_M l yX0_draftProduct cX0_draftProduct 3 none ({ frames := 3, cells := 0, slots := 0, locals := 65 }) [] D o q1 q2 cI tE tL F G k none (fiZ F (k * 72).toNat 72 (fun j => wnZ G (wkZ (jC j) 0) (jN j))) G k := by
  refine wr_of (by decide) rfl (Nat.le_of_ble_eq_true rfl) ?_
  intro p e s m below meth c A hAe S hr hlk hP hK hs hA hAn hS ls hl
  obtain ⟨hx, hb, hml, hown, hT⟩ := id S
  obtain ⟨⟨hZE, hTE⟩, hZL, hTL⟩ := id hs
  have hl : lv_has ls 3 [(0, .ref o)] := hl
  refine zi_const hx hb 0 dX0_draftProduct_0 ?_
  refine lv_istore_n (lv' := [(1, .int (iZ 0)), (0, .ref o)]) hx hb dX0_draftProduct_1 rfl hl (by decide) rfl (fun ls hl => ?_)
  refine lp_goX (nL := 3) (α := Int) (fun z => [(0, .ref o), (1, .int (iZ z))]) (fun z => fiZ F (k * 72).toNat (z * 9).toNat (fun j => wnZ G (wkZ (jC j) 0) (jN j))) (fun _ => G) (fun _ => k) (fun m2 z => 0 ≤ z ∧ z + (m2 : Int) = 8) ?_ 8 ((0 : Int)) (by (try dsimp only); omega) _ _ (wP_eq hP fi_0 rfl rfl) hS ls (lv_sub hl [1, 0] rfl)
  intro m2 z1 hI2 ih2 H locs hP hS ls hl
  obtain ⟨c1, rfl⟩ : ∃ y : Int, y = z1 := ⟨_, rfl⟩
  have hl : lv_has ls 3 [(0, .ref o), (1, .int (iZ c1))] := hl
  have hI2 : 0 ≤ c1 ∧ c1 + (m2 : Int) = 8 := hI2
  have hP : va_P D vwCl (wX o q1 q2 cI (fiZ F (k * 72).toNat (c1 * 9).toNat (fun j => wnZ G (wkZ (jC j) 0) (jN j))) G k) H := hP
  obtain ⟨F2, eF2⟩ : ∃ Z : Nat → Int, Z = fiZ F (k * 72).toNat (c1 * 9).toNat (fun j => wnZ G (wkZ (jC j) 0) (jN j)) := ⟨_, rfl⟩
  rw [← eF2] at hP
  refine lv_iload_n hx hb dX0_draftProduct_2 rfl (lv_at hl 1 rfl) ?_
  refine zi_bi hx hb 8 dX0_draftProduct_3 (by decide) ?_
  refine zi_cge (tgt := 44) hx hb dX0_draftProduct_5 (by decide) (by omega) (by omega) (fun hc5 => ?_) (fun hc5 => ?_)
  · exact wr_vret hx hb hr hlk (wP_eq hP ((by rw [eF2]; exact fi_len (n := 72) (by omega))) rfl rfl) hS rfl dX0_draftProduct_44
  · refine zi_bi hx hb (-4) dX0_draftProduct_8 (by decide) ?_
    refine lv_istore_n (lv' := [(2, .int (iZ (-4))), (0, .ref o), (1, .int (iZ c1))]) hx hb dX0_draftProduct_10 rfl hl (by decide) rfl (fun ls hl => ?_)
    refine lp_goX (nL := 3) (α := Int) (fun z => [(0, .ref o), (1, .int (iZ c1)), (2, .int (iZ z))]) (fun z => fiZ F (k * 72).toNat (c1 * 9 + z + 4).toNat (fun j => wnZ G (wkZ (jC j) 0) (jN j))) (fun _ => G) (fun _ => k) (fun m11 z => -4 ≤ z ∧ z + (m11 : Int) = 5) ?_ 9 (((-4) : Int)) (by (try dsimp only); omega) _ _ (wP_eq hP ((by rw [eF2]; exact fi_len (by omega))) rfl rfl) hS ls (lv_sub hl [1, 2, 0] rfl)
    intro m11 z3 hI11 ih11 H locs hP hS ls hl
    obtain ⟨n, rfl⟩ : ∃ y : Int, y = z3 := ⟨_, rfl⟩
    have hl : lv_has ls 3 [(0, .ref o), (1, .int (iZ c1)), (2, .int (iZ n))] := hl
    have hI11 : -4 ≤ n ∧ n + (m11 : Int) = 5 := hI11
    have hP : va_P D vwCl (wX o q1 q2 cI (fiZ F (k * 72).toNat (c1 * 9 + n + 4).toNat (fun j => wnZ G (wkZ (jC j) 0) (jN j))) G k) H := hP
    obtain ⟨F4, eF4⟩ : ∃ Z : Nat → Int, Z = fiZ F (k * 72).toNat (c1 * 9 + n + 4).toNat (fun j => wnZ G (wkZ (jC j) 0) (jN j)) := ⟨_, rfl⟩
    rw [← eF4] at hP
    refine lv_iload_n hx hb dX0_draftProduct_11 rfl (lv_at hl 2 rfl) ?_
    refine zi_const hx hb 4 dX0_draftProduct_12 ?_
    refine zi_cgt (tgt := 38) hx hb dX0_draftProduct_13 (by decide) (by omega) (by omega) (fun hc13 => ?_) (fun hc13 => ?_)
    · refine zi_inc (lv' := [(1, .int (iZ (c1 + 1))), (0, .ref o), (2, .int (iZ n))]) hx hb dX0_draftProduct_38 hl (k := 1) rfl (by decide) rfl (fun ls hl => ?_)
      refine lv_goto (tgt := 2) hx hb dX0_draftProduct_41 (by decide) ?_
      exact ih2 (m2 - 1) (c1 + 1) (by omega) (by (try dsimp only); omega) _ _ (wP_eq hP ((by rw [eF4]; exact fi_len (by omega))) rfl rfl) hS ls (lv_sub hl [1, 0] rfl)
    · refine lv_aload_n hx hb dX0_draftProduct_16 rfl (lv_at hl 0 rfl) ?_
      refine lv_iload_n hx hb dX0_draftProduct_17 rfl (lv_at hl 1 rfl) ?_
      refine lv_iload_n hx hb dX0_draftProduct_18 rfl (lv_at hl 2 rfl) ?_
      refine lv_aload_n hx hb dX0_draftProduct_19 rfl (lv_at hl 0 rfl) ?_
      refine lv_iload_n hx hb dX0_draftProduct_20 rfl (lv_at hl 1 rfl) ?_
      refine zi_const hx hb 0 dX0_draftProduct_21 ?_
      refine rd_S (As := [.int (iZ c1), .int (iZ 0)]) (rest := [.ref o, .int (iZ n), .int (iZ c1), .ref o]) (st1 := [.int (iZ (wkZ c1 0)), .ref o, .int (iZ n), .int (iZ c1), .ref o]) S (k_X0_wideKind l tE tL c1 0 (by omega) (by omega)) tb_236 tb_237 tb_1 tb_238 hd_X0_wideKind ⟨rfl, rfl, by decide, by decide⟩ sB_bl (sB_w hs hS) rfl hl.1 rfl (Nat.le_of_ble_eq_true rfl) dX0_draftProduct_22 ⟨Nat.zero_le _, Nat.zero_le _⟩ rfl ?_
      have hw25 := wkZ_rng c1 0
      refine lv_iload_n hx hb dX0_draftProduct_25 rfl (lv_at hl 2 rfl) ?_
      refine rd_V (As := [.int (iZ (wkZ c1 0)), .int (iZ n)]) (rest := [.int (iZ n), .int (iZ c1), .ref o]) (st1 := [.int (iZ (wnZ G (wkZ c1 0) n)), .int (iZ n), .int (iZ c1), .ref o]) S (k_X0_wideNumber l D o q1 q2 cI tE tL F4 G k (wkZ c1 0) n (by omega) (by omega)) tb_266 tb_268 ts_X0_wideNumber tb_1 tb_269 hd_X0_wideNumber ⟨rfl, rfl, by decide, by decide⟩ rX_bl (rX_w hP hK rfl hs hS) (va_recv hK hP (ci := 0) (q0 := 0) rfl rfl) rfl hl.1 rfl (Nat.le_of_ble_eq_true rfl) dX0_draftProduct_26 ⟨Nat.zero_le _, Nat.zero_le _⟩ rfl ?_
      have hn29 := wnZ_rng hG (wkZ c1 0) n
      refine wr_V (As := [.int (iZ c1), .int (iZ n), .int (iZ (wnZ G (wkZ c1 0) n))]) (rest := []) (st1 := []) (F' := uZ F4 (k * 72 + c1 * 9 + n + 4).toNat (wnZ G (wkZ c1 0) n)) (G' := G) (k' := k) S (k_X0_setDraft l D o q1 q2 cI tE tL F4 G k c1 n (wnZ G (wkZ c1 0) n) hd (by omega) (by omega) (by omega)) tb_147 tb_149 ts_X0_setDraft tb_1 tb_150 hd_X0_setDraft ⟨rfl, rfl, by decide, by decide⟩ hP hK rfl hs hS hA hAn rfl hl.1 rfl (Nat.le_of_ble_eq_true rfl) dX0_draftProduct_29 ⟨Nat.zero_le _, Nat.zero_le _⟩ rfl (fun H locs hP hS _ _ => ?_)
      obtain ⟨F5, eF5⟩ : ∃ Z : Nat → Int, Z = uZ F4 (k * 72 + c1 * 9 + n + 4).toNat (wnZ G (wkZ c1 0) n) := ⟨_, rfl⟩
      rw [← eF5] at hP
      refine zi_inc (lv' := [(2, .int (iZ (n + 1))), (0, .ref o), (1, .int (iZ c1))]) hx hb dX0_draftProduct_32 hl (k := 2) rfl (by decide) rfl (fun ls hl => ?_)
      refine lv_goto (tgt := 11) hx hb dX0_draftProduct_35 (by decide) ?_
      exact ih11 (m11 - 1) (n + 1) (by omega) (by (try dsimp only); omega) _ _ (wP_eq hP ((by rw [eF5, eF4]; exact (fi_next (m := c1 * 9 + n + 4) (by omega) (by omega) (by omega) (by rw [jC_at (by omega) (by omega), jN_at (by omega) (by omega)])).trans (fi_len (by omega)))) rfl rfl) hS ls (lv_sub hl [1, 2, 0] rfl)
