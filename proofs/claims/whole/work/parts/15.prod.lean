set_option maxHeartbeats 4000000 in
set_option maxRecDepth 100000 in
theorem k_X0_clearWide (l : Launch) (D : va_G) (o q1 q2 : Nat) (cI : ClassId) (tE tL : Nat) (F G : Nat → Int) (k : Int)  (hd : dX o q1 q2)  : wr_M l yX0_clearWide cX0_clearWide 2 none ({ frames := 0, cells := 0, slots := 0, locals := 0 }) [] D o q1 q2 cI tE tL F G k none F (fiZ G 0 255 (fun _ => (0 : Int))) k := by
  refine wr_of (by decide) rfl (Nat.le_of_ble_eq_true rfl) ?_
  intro p e s m below meth c A hAe S hr hlk hP hK hs hA hAn hS ls hl
  obtain ⟨hx, hb, hml, hown, hT⟩ := id S
  obtain ⟨⟨hZE, hTE⟩, hZL, hTL⟩ := id hs
  have hl : lv_has ls 2 [(0, .ref o)] := hl
  refine zi_const hx hb 0 dX0_clearWide_0 ?_
  refine lv_istore_n (lv' := [(1, .int (iZ 0)), (0, .ref o)]) hx hb dX0_clearWide_1 rfl hl (by decide) rfl (fun ls hl => ?_)
  refine lp_goX (nL := 2) (α := Int) (fun z => [(0, .ref o), (1, .int (iZ z))]) (fun _ => F) (fun z => fiZ G 0 z.toNat (fun _ => (0 : Int))) (fun _ => k) (fun m2 z => 0 ≤ z ∧ z + (m2 : Int) = 255) ?_ 255 ((0 : Int)) (by (try dsimp only); omega) _ _ (wP_eq hP rfl fi_0 rfl) hS ls (lv_sub hl [1, 0] rfl)
  intro m2 z1 hI2 ih2 H locs hP hS ls hl
  obtain ⟨i, rfl⟩ : ∃ y : Int, y = z1 := ⟨_, rfl⟩
  have hl : lv_has ls 2 [(0, .ref o), (1, .int (iZ i))] := hl
  have hI2 : 0 ≤ i ∧ i + (m2 : Int) = 255 := hI2
  have hP : va_P D vwCl (wX o q1 q2 cI F (fiZ G 0 i.toNat (fun _ => (0 : Int))) k) H := hP
  obtain ⟨G2, eG2⟩ : ∃ Z : Nat → Int, Z = fiZ G 0 i.toNat (fun _ => (0 : Int)) := ⟨_, rfl⟩
  rw [← eG2] at hP
  refine lv_iload_n hx hb dX0_clearWide_2 rfl (lv_at hl 1 rfl) ?_
  refine zi_si hx hb 255 dX0_clearWide_3 (by decide) ?_
  refine zi_cge (tgt := 22) hx hb dX0_clearWide_6 (by decide) (by omega) (by omega) (fun hc6 => ?_) (fun hc6 => ?_)
  · exact wr_vret hx hb hr hlk (wP_eq hP rfl ((by rw [eG2]; exact fi_len (n := 255) (by omega))) rfl) hS rfl dX0_clearWide_22
  · refine lv_aload_n hx hb dX0_clearWide_9 rfl (lv_at hl 0 rfl) ?_
    refine va_get (D := D) (ci := 0) (C := RX0) (T := TX0) (N := 3) hx hb hT inX0 hown hK hP 0 rfl rfl 1 (by decide) (hT _ tb_19) (fun _ h9 => h9) rfl dX0_clearWide_10 ?_
    refine lv_iload_n hx hb dX0_clearWide_13 rfl (lv_at hl 1 rfl) ?_
    refine zi_const hx hb 0 dX0_clearWide_14 ?_
    refine wx_wid hx hb hK hP hd hA hS (by omega) dX0_clearWide_15 (fun H locs hP hS => ?_)
    obtain ⟨G3, eG3⟩ : ∃ Z : Nat → Int, Z = uZ G2 (i).toNat 0 := ⟨_, rfl⟩
    rw [← eG3] at hP
    refine zi_inc (lv' := [(1, .int (iZ (i + 1))), (0, .ref o)]) hx hb dX0_clearWide_16 hl (k := 1) rfl (by decide) rfl (fun ls hl => ?_)
    refine lv_goto (tgt := 2) hx hb dX0_clearWide_19 (by decide) ?_
    exact ih2 (m2 - 1) (i + 1) (by omega) (by (try dsimp only); omega) _ _ (wP_eq hP rfl ((by rw [eG3, eG2]; exact fi_next (b := 0) (by omega) (by omega) (by omega) rfl)) rfl) hS ls (lv_sub hl [1, 0] rfl)
def awZ (G : Nat → Int) (c n v : Int) : Nat → Int := if v = 0 then G else uZ G (c * 17 + n + 8).toNat ((G (c * 17 + n + 8).toNat + v) % 32003)
theorem uZ_rng {G : Nat → Int} {i : Nat} {x : Int} (hG : ∀ j, 0 ≤ G j ∧ G j < 32003) (hx : 0 ≤ x ∧ x < 32003) : ∀ j, 0 ≤ uZ G i x j ∧ uZ G i x j < 32003 := by
  intro j
  unfold uZ
  split
  · exact hx
  · exact hG j
theorem awZ_rng {G : Nat → Int} (hG : ∀ j, 0 ≤ G j ∧ G j < 32003) (c n v : Int) : ∀ j, 0 ≤ awZ G c n v j ∧ awZ G c n v j < 32003 := by
  unfold awZ
  split
  · exact hG
  · exact uZ_rng hG (by omega)
set_option maxHeartbeats 4000000 in
set_option maxRecDepth 100000 in
theorem k_X0_addWide (l : Launch) (D : va_G) (o q1 q2 : Nat) (cI : ClassId) (tE tL : Nat) (F G : Nat → Int) (k : Int) (c1 n v : Int) (hd : dX o q1 q2) (hG : ∀ j, 0 ≤ G j ∧ G j < 32003) (hc1 : 0 ≤ c1 ∧ c1 < 15) (hn : -8 ≤ n ∧ n ≤ 8) (hv : 0 ≤ v ∧ v ≤ 1024128004) : wr_M l yX0_addWide cX0_addWide 6 none ({ frames := 1, cells := 0, slots := 0, locals := 23 }) [.int (iZ c1), .int (iZ n), .long (lZ v)] D o q1 q2 cI tE tL F G k none F (awZ G c1 n v) k := by
  refine wr_of (by decide) rfl (Nat.le_of_ble_eq_true rfl) ?_
  intro p e s m below meth c A hAe S hr hlk hP hK hs hA hAn hS ls hl
  obtain ⟨hx, hb, hml, hown, hT⟩ := id S
  obtain ⟨⟨hZE, hTE⟩, hZL, hTL⟩ := id hs
  have hl : lv_has ls 6 [(0, .ref o), (1, .int (iZ c1)), (2, .int (iZ n)), (3, .long (lZ v))] := hl
  refine lv_lload_n hx hb dX0_addWide_0 rfl (lv_at hl 3 rfl) ?_
  refine zl_const hx hb 0 dX0_addWide_1 (by decide) ?_
  refine zl_ceq (tgt := 41) hx hb dX0_addWide_2 dX0_addWide_3 (by decide) (by omega) (by omega) (fun hc2 => ?_) (fun hc2 => ?_)
  · exact wr_vret hx hb hr hlk (wP_eq hP rfl ((by unfold awZ; rw [if_pos (by omega)])) rfl) hS rfl dX0_addWide_41
  · refine lv_iload_n hx hb dX0_addWide_6 rfl (lv_at hl 1 rfl) ?_
    refine lv_iload_n hx hb dX0_addWide_7 rfl (lv_at hl 2 rfl) ?_
    refine rd_S (As := [.int (iZ c1), .int (iZ n)]) (rest := []) (st1 := [.int (iZ (wdZ c1 n))]) S (k_X0_isWidePlace l c1 n (by omega) (by omega)) tb_253 tb_254 tb_1 tb_255 hd_X0_isWidePlace ⟨rfl, rfl, by decide, by decide⟩ bl_T (fun _ _ _ => trivial) rfl hl.1 rfl (Nat.le_of_ble_eq_true rfl) dX0_addWide_8 ⟨Nat.zero_le _, Nat.zero_le _⟩ rfl ?_
    have hf11 := wdZ_or c1 n
    refine zi_feq (tgt := 41) hx hb dX0_addWide_11 (by decide) (by omega) (fun hc11 => ?_) (fun hc11 => ?_)
    · exfalso
      omega
    · refine lv_iload_n hx hb dX0_addWide_14 rfl (lv_at hl 1 rfl) ?_
      refine lv_iload_n hx hb dX0_addWide_15 rfl (lv_at hl 2 rfl) ?_
      refine rd_S (As := [.int (iZ c1), .int (iZ n)]) (rest := []) (st1 := [.int (iZ (c1 * 17 + n + 8))]) S (k_X0_widePlace l c1 n) tb_256 tb_257 tb_1 tb_258 hd_X0_widePlace ⟨rfl, rfl, by decide, by decide⟩ bl_T (fun _ _ _ => trivial) rfl hl.1 rfl (Nat.le_of_ble_eq_true rfl) dX0_addWide_16 ⟨Nat.zero_le _, Nat.zero_le _⟩ rfl ?_
      refine zi_top (fun v1 ev1 => ?_)
      refine lv_istore (lv' := [(5, .int (iZ v1)), (0, .ref o), (1, .int (iZ c1)), (2, .int (iZ n)), (3, .long (lZ v))]) hx hb dX0_addWide_19 hl (by decide) rfl (fun ls hl => ?_)
      refine lv_aload_n hx hb dX0_addWide_21 rfl (lv_at hl 1 rfl) ?_
      refine va_get (D := D) (ci := 0) (C := RX0) (T := TX0) (N := 3) hx hb hT inX0 hown hK hP 0 rfl rfl 1 (by decide) (hT _ tb_19) (fun _ h9 => h9) rfl dX0_addWide_22 ?_
      refine lv_iload hx hb dX0_addWide_25 (lv_at hl 0 rfl) ?_
      refine lv_aload_n hx hb dX0_addWide_27 rfl (lv_at hl 1 rfl) ?_
      refine va_get (D := D) (ci := 0) (C := RX0) (T := TX0) (N := 3) hx hb hT inX0 hown hK hP 0 rfl rfl 1 (by decide) (hT _ tb_19) (fun _ h9 => h9) rfl dX0_addWide_28 ?_
      refine lv_iload hx hb dX0_addWide_31 (lv_at hl 0 rfl) ?_
      refine va_iald hx hb hK hP 2 0 rfl rfl (iZ_in (by omega) (by omega) (by decide)) dX0_addWide_33 ?_
      refine zi_as (a := G ((v1).toNat)) (by rw [iZ_cl (by omega) (by omega)]) ?_
      have hgg := hG (c1 * 17 + n + 8).toNat
      have hzz : G (v1).toNat = G (c1 * 17 + n + 8).toNat := by rw [ev1]
      rw [← hzz] at hgg
      refine zi_i2l hx hb dX0_addWide_34 (by omega) ?_
      refine lv_lload_n hx hb dX0_addWide_35 rfl (lv_at hl 4 rfl) ?_
      refine zl_add hx hb dX0_addWide_36 ?_
      refine rd_S (As := [.long (lZ ((G (v1).toNat) + v))]) (rest := [.int (iZ v1), .ref q2]) (st1 := [.int (iZ (((G (v1).toNat) + v) % 32003)), .int (iZ v1), .ref q2]) S (k_X0_reduce l ((G (v1).toNat) + v) (by omega)) tb_157 tb_158 tb_1 tb_159 hd_X0_reduce ⟨rfl, rfl, by decide, by decide⟩ bl_T (fun _ _ _ => trivial) rfl hl.1 rfl (Nat.le_of_ble_eq_true rfl) dX0_addWide_37 ⟨Nat.zero_le _, Nat.zero_le _⟩ rfl ?_
      refine wx_wid hx hb hK hP hd hA hS (by omega) dX0_addWide_40 (fun H locs hP hS => ?_)
      obtain ⟨G2, eG2⟩ : ∃ Z : Nat → Int, Z = uZ G (v1).toNat (((G (v1).toNat) + v) % 32003) := ⟨_, rfl⟩
      rw [← eG2] at hP
      exact wr_vret hx hb hr hlk (wP_eq hP rfl ((by unfold awZ; rw [if_neg (by omega), eG2, ev1])) rfl) hS rfl dX0_addWide_41
def amZ (F G : Nat → Int) (g a b t : Int) : Nat → (Nat → Int)
  | 0 => G
  | m + 1 => awZ (amZ F G g a b t m) (wkZ (jC m) a) (jN m + b) (t * F ((g * 72).toNat + m))
theorem amZ_rng {F G : Nat → Int} {g a b t : Int} (hG : ∀ j, 0 ≤ G j ∧ G j < 32003) (m : Nat) : ∀ j, 0 ≤ amZ F G g a b t m j ∧ amZ F G g a b t m j < 32003 := by
  induction m with
  | zero => exact hG
  | succ m ih => exact awZ_rng ih _ _ _
theorem am_len {F G : Nat → Int} {g a b t m n : Int} (h : m = n) : amZ F G g a b t m.toNat = amZ F G g a b t n.toNat := by rw [h]
theorem am_next {F G : Nat → Int} {g a b t c n : Int} (hc : 0 ≤ c) (hn : -4 ≤ n ∧ n ≤ 4) {w v : Int} (hw : w = wkZ c a) (hv : v = t * F ((g * 72).toNat + (c * 9 + n + 4).toNat)) : awZ (amZ F G g a b t (c * 9 + n + 4).toNat) w (n + b) v = amZ F G g a b t (c * 9 + (n + 1) + 4).toNat := by
  rw [show (c * 9 + (n + 1) + 4).toNat = (c * 9 + n + 4).toNat + 1 by omega]
  show _ = awZ _ (wkZ (jC _) a) (jN _ + b) _
  rw [jC_at hc hn, jN_at hc hn, hw, hv]
set_option maxHeartbeats 4000000 in
set_option maxRecDepth 100000 in
theorem k_X0_addMultiple (l : Launch) (D : va_G) (o q1 q2 : Nat) (cI : ClassId) (tE tL : Nat) (F G : Nat → Int) (k : Int) (g a b t : Int) (hd : dX o q1 q2) (hF : ∀ j, 0 ≤ F j ∧ F j < 32003) (hG : ∀ j, 0 ≤ G j ∧ G j < 32003) (hg : 0 ≤ g ∧ g < 60) (ha : 0 ≤ a ∧ a < 8) (hb1 : -4 ≤ b ∧ b ≤ 4) (ht : 0 ≤ t ∧ t < 32003) : wr_M l yX0_addMultiple cX0_addMultiple 8 none ({ frames := 3, cells := 0, slots := 0, locals := 65 }) [.int (iZ g), .int (iZ a), .int (iZ b), .int (iZ t)] D o q1 q2 cI tE tL F G k none F (amZ F G g a b t 72) k := by
  refine wr_of (by decide) rfl (Nat.le_of_ble_eq_true rfl) ?_
  intro p e s m below meth c A hAe S hr hlk hP hK hs hA hAn hS ls hl
  obtain ⟨hx, hb, hml, hown, hT⟩ := id S
  obtain ⟨⟨hZE, hTE⟩, hZL, hTL⟩ := id hs
  have hl : lv_has ls 8 [(0, .ref o), (1, .int (iZ g)), (2, .int (iZ a)), (3, .int (iZ b)), (4, .int (iZ t))] := hl
  refine zi_const hx hb 0 dX0_addMultiple_0 ?_
  refine lv_istore (lv' := [(5, .int (iZ 0)), (0, .ref o), (1, .int (iZ g)), (2, .int (iZ a)), (3, .int (iZ b)), (4, .int (iZ t))]) hx hb dX0_addMultiple_1 hl (by decide) rfl (fun ls hl => ?_)
  refine lp_goX (nL := 8) (α := Int) (fun z => [(0, .ref o), (1, .int (iZ g)), (2, .int (iZ a)), (3, .int (iZ b)), (4, .int (iZ t)), (5, .int (iZ z))]) (fun _ => F) (fun z => amZ F G g a b t (z * 9).toNat) (fun _ => k) (fun m3 z => 0 ≤ z ∧ z + (m3 : Int) = 8) ?_ 8 ((0 : Int)) (by (try dsimp only); omega) _ _ (wP_eq hP rfl rfl rfl) hS ls (lv_sub hl [1, 2, 3, 4, 5, 0] rfl)
  intro m3 z1 hI3 ih3 H locs hP hS ls hl
  obtain ⟨c1, rfl⟩ : ∃ y : Int, y = z1 := ⟨_, rfl⟩
  have hl : lv_has ls 8 [(0, .ref o), (1, .int (iZ g)), (2, .int (iZ a)), (3, .int (iZ b)), (4, .int (iZ t)), (5, .int (iZ c1))] := hl
  have hI3 : 0 ≤ c1 ∧ c1 + (m3 : Int) = 8 := hI3
  have hP : va_P D vwCl (wX o q1 q2 cI F (amZ F G g a b t (c1 * 9).toNat) k) H := hP
  obtain ⟨G2, eG2⟩ : ∃ Z : Nat → Int, Z = amZ F G g a b t (c1 * 9).toNat := ⟨_, rfl⟩
  rw [← eG2] at hP
  refine lv_iload hx hb dX0_addMultiple_3 (lv_at hl 5 rfl) ?_
  refine zi_bi hx hb 8 dX0_addMultiple_5 (by decide) ?_
  refine zi_cge (tgt := 64) hx hb dX0_addMultiple_7 (by decide) (by omega) (by omega) (fun hc7 => ?_) (fun hc7 => ?_)
  · exact wr_vret hx hb hr hlk (wP_eq hP rfl ((by rw [eG2]; exact am_len (n := 72) (by omega))) rfl) hS rfl dX0_addMultiple_64
  · refine lv_iload hx hb dX0_addMultiple_10 (lv_at hl 5 rfl) ?_
    refine lv_iload_n hx hb dX0_addMultiple_12 rfl (lv_at hl 2 rfl) ?_
    refine rd_S (As := [.int (iZ c1), .int (iZ a)]) (rest := []) (st1 := [.int (iZ (wkZ c1 a))]) S (k_X0_wideKind l tE tL c1 a (by omega) (by omega)) tb_236 tb_237 tb_1 tb_238 hd_X0_wideKind ⟨rfl, rfl, by decide, by decide⟩ sB_bl (sB_w hs hS) rfl hl.1 rfl (Nat.le_of_ble_eq_true rfl) dX0_addMultiple_13 ⟨Nat.zero_le _, Nat.zero_le _⟩ rfl ?_
    have hw16 := wkZ_rng c1 a
    refine zi_top (fun v3 ev3 => ?_)
    refine lv_istore (lv' := [(6, .int (iZ v3)), (0, .ref o), (1, .int (iZ g)), (2, .int (iZ a)), (3, .int (iZ b)), (4, .int (iZ t)), (5, .int (iZ c1))]) hx hb dX0_addMultiple_16 hl (by decide) rfl (fun ls hl => ?_)
    refine zi_bi hx hb (-4) dX0_addMultiple_18 (by decide) ?_
    refine lv_istore (lv' := [(7, .int (iZ (-4))), (6, .int (iZ v3)), (0, .ref o), (1, .int (iZ g)), (2, .int (iZ a)), (3, .int (iZ b)), (4, .int (iZ t)), (5, .int (iZ c1))]) hx hb dX0_addMultiple_20 hl (by decide) rfl (fun ls hl => ?_)
    refine lp_goX (nL := 8) (α := Int) (fun z => [(0, .ref o), (1, .int (iZ g)), (2, .int (iZ a)), (3, .int (iZ b)), (4, .int (iZ t)), (5, .int (iZ c1)), (6, .int (iZ v3)), (7, .int (iZ z))]) (fun _ => F) (fun z => amZ F G g a b t (c1 * 9 + z + 4).toNat) (fun _ => k) (fun m22 z => -4 ≤ z ∧ z + (m22 : Int) = 5) ?_ 9 (((-4) : Int)) (by (try dsimp only); omega) _ _ (wP_eq hP rfl ((by rw [eG2]; exact am_len (by omega))) rfl) hS ls (lv_sub hl [2, 3, 4, 5, 6, 7, 1, 0] rfl)
    intro m22 z4 hI22 ih22 H locs hP hS ls hl
    obtain ⟨n, rfl⟩ : ∃ y : Int, y = z4 := ⟨_, rfl⟩
    have hl : lv_has ls 8 [(0, .ref o), (1, .int (iZ g)), (2, .int (iZ a)), (3, .int (iZ b)), (4, .int (iZ t)), (5, .int (iZ c1)), (6, .int (iZ v3)), (7, .int (iZ n))] := hl
    have hI22 : -4 ≤ n ∧ n + (m22 : Int) = 5 := hI22
    have hP : va_P D vwCl (wX o q1 q2 cI F (amZ F G g a b t (c1 * 9 + n + 4).toNat) k) H := hP
    obtain ⟨G5, eG5⟩ : ∃ Z : Nat → Int, Z = amZ F G g a b t (c1 * 9 + n + 4).toNat := ⟨_, rfl⟩
    rw [← eG5] at hP
    have hGi : ∀ j, 0 ≤ G5 j ∧ G5 j < 32003 := by
      rw [eG5]
      exact amZ_rng hG _
    have hm1 := mul_rng ht (nuZ_rng hF g c1 n)
    refine lv_iload hx hb dX0_addMultiple_22 (lv_at hl 7 rfl) ?_
    refine zi_const hx hb 4 dX0_addMultiple_24 ?_
    refine zi_cgt (tgt := 58) hx hb dX0_addMultiple_25 (by decide) (by omega) (by omega) (fun hc25 => ?_) (fun hc25 => ?_)
    · refine zi_inc (lv' := [(5, .int (iZ (c1 + 1))), (0, .ref o), (1, .int (iZ g)), (2, .int (iZ a)), (3, .int (iZ b)), (4, .int (iZ t)), (6, .int (iZ v3)), (7, .int (iZ n))]) hx hb dX0_addMultiple_58 hl (k := 5) rfl (by decide) rfl (fun ls hl => ?_)
      refine lv_goto (tgt := 3) hx hb dX0_addMultiple_61 (by decide) ?_
      exact ih3 (m3 - 1) (c1 + 1) (by omega) (by (try dsimp only); omega) _ _ (wP_eq hP rfl ((by rw [eG5]; exact am_len (by omega))) rfl) hS ls (lv_sub hl [1, 2, 3, 4, 5, 0] rfl)
    · refine lv_aload_n hx hb dX0_addMultiple_28 rfl (lv_at hl 0 rfl) ?_
      refine lv_iload hx hb dX0_addMultiple_29 (lv_at hl 6 rfl) ?_
      refine lv_iload hx hb dX0_addMultiple_31 (lv_at hl 7 rfl) ?_
      refine lv_iload_n hx hb dX0_addMultiple_33 rfl (lv_at hl 3 rfl) ?_
      refine zi_add hx hb dX0_addMultiple_34 ?_
      refine lv_iload hx hb dX0_addMultiple_35 (lv_at hl 4 rfl) ?_
      refine zi_i2l hx hb dX0_addMultiple_37 (by omega) ?_
      refine lv_aload_n hx hb dX0_addMultiple_38 rfl (lv_at hl 0 rfl) ?_
      refine lv_iload_n hx hb dX0_addMultiple_39 rfl (lv_at hl 1 rfl) ?_
      refine lv_iload hx hb dX0_addMultiple_40 (lv_at hl 5 rfl) ?_
      refine lv_iload hx hb dX0_addMultiple_42 (lv_at hl 7 rfl) ?_
      refine rd_V (As := [.int (iZ g), .int (iZ c1), .int (iZ n)]) (rest := [.long (lZ t), .int (iZ (n + b)), .int (iZ v3), .ref o]) (st1 := [.int (iZ (nuZ F g c1 n)), .long (lZ t), .int (iZ (n + b)), .int (iZ v3), .ref o]) S (k_X0_number l D o q1 q2 cI tE tL F G5 k g c1 n (by omega) (by omega) (by omega)) tb_197 tb_199 ts_X0_number tb_1 tb_200 hd_X0_number ⟨rfl, rfl, by decide, by decide⟩ rX_bl (rX_w hP hK rfl hs hS) (va_recv hK hP (ci := 0) (q0 := 0) rfl rfl) rfl hl.1 rfl (Nat.le_of_ble_eq_true rfl) dX0_addMultiple_44 ⟨Nat.zero_le _, Nat.zero_le _⟩ rfl ?_
      have hn47 := nuZ_rng hF g c1 n
      refine zi_i2l hx hb dX0_addMultiple_47 (by omega) ?_
      refine zl_mul hx hb dX0_addMultiple_48 ?_
      refine wr_V (As := [.int (iZ v3), .int (iZ (n + b)), .long (lZ (t * (nuZ F g c1 n)))]) (rest := []) (st1 := []) (F' := F) (G' := awZ G5 v3 (n + b) (t * (nuZ F g c1 n))) (k' := k) S (k_X0_addWide l D o q1 q2 cI tE tL F G5 k v3 (n + b) (t * (nuZ F g c1 n)) hd hGi (by omega) (by omega) (by omega)) tb_249 tb_251 ts_X0_addWide tb_1 tb_252 hd_X0_addWide ⟨rfl, rfl, by decide, by decide⟩ hP hK rfl hs hS hA hAn rfl hl.1 rfl (Nat.le_of_ble_eq_true rfl) dX0_addMultiple_49 ⟨Nat.zero_le _, Nat.zero_le _⟩ rfl (fun H locs hP hS _ _ => ?_)
      obtain ⟨G6, eG6⟩ : ∃ Z : Nat → Int, Z = awZ G5 v3 (n + b) (t * (nuZ F g c1 n)) := ⟨_, rfl⟩
      rw [← eG6] at hP
      refine zi_inc (lv' := [(7, .int (iZ (n + 1))), (0, .ref o), (1, .int (iZ g)), (2, .int (iZ a)), (3, .int (iZ b)), (4, .int (iZ t)), (5, .int (iZ c1)), (6, .int (iZ v3))]) hx hb dX0_addMultiple_52 hl (k := 7) rfl (by decide) rfl (fun ls hl => ?_)
      refine lv_goto (tgt := 22) hx hb dX0_addMultiple_55 (by decide) ?_
      exact ih22 (m22 - 1) (n + 1) (by omega) (by (try dsimp only); omega) _ _ (wP_eq hP rfl ((by rw [eG6, eG5]; exact am_next (by omega) (by omega) ev3 (by rw [nu_lin (by omega) (by omega) (by omega)]))) rfl) hS ls (lv_sub hl [1, 2, 3, 4, 5, 6, 7, 0] rfl)
def spZ (F G : Nat → Int) (f g : Int) : Nat → (Nat → Int)
  | 0 => fiZ G 0 255 (fun _ => (0 : Int))
  | m + 1 => if F ((f * 72).toNat + m) = 0 then spZ F G f g m else amZ F (spZ F G f g m) g (jC m) (jN m) (F ((f * 72).toNat + m)) 72
theorem spZ_rng {F G : Nat → Int} {f g : Int} (hG : ∀ j, 0 ≤ G j ∧ G j < 32003) (m : Nat) : ∀ j, 0 ≤ spZ F G f g m j ∧ spZ F G f g m j < 32003 := by
  induction m with
  | zero => exact fi_rng hG (fun _ => by omega)
  | succ m ih =>
    unfold spZ
    split
    · exact ih
    · exact amZ_rng ih 72
theorem sp_len {F G : Nat → Int} {f g m n : Int} (h : m = n) : spZ F G f g m.toNat = spZ F G f g n.toNat := by rw [h]
theorem sp_same {F G : Nat → Int} {f g c n v : Int} (hc : 0 ≤ c) (hn : -4 ≤ n ∧ n ≤ 4) (hv : v = F ((f * 72).toNat + (c * 9 + n + 4).toNat)) (h0 : v = 0) : spZ F G f g (c * 9 + n + 4).toNat = spZ F G f g (c * 9 + (n + 1) + 4).toNat := by
  rw [show (c * 9 + (n + 1) + 4).toNat = (c * 9 + n + 4).toNat + 1 by omega]
  show _ = ite _ _ _
  rw [if_pos (by rw [← hv]; exact h0)]
theorem sp_next {F G : Nat → Int} {f g c n v : Int} (hc : 0 ≤ c) (hn : -4 ≤ n ∧ n ≤ 4) (hv : v = F ((f * 72).toNat + (c * 9 + n + 4).toNat)) (h0 : v ≠ 0) : amZ F (spZ F G f g (c * 9 + n + 4).toNat) g c n v 72 = spZ F G f g (c * 9 + (n + 1) + 4).toNat := by
  rw [show (c * 9 + (n + 1) + 4).toNat = (c * 9 + n + 4).toNat + 1 by omega]
  show _ = ite _ _ _
  rw [if_neg (by rw [← hv]; exact h0), jC_at hc hn, jN_at hc hn, ← hv]
set_option maxHeartbeats 4000000 in
set_option maxRecDepth 100000 in
theorem k_X0_sumUpProduct (l : Launch) (D : va_G) (o q1 q2 : Nat) (cI : ClassId) (tE tL : Nat) (F G : Nat → Int) (k : Int) (f g : Int) (hd : dX o q1 q2) (hF : ∀ j, 0 ≤ F j ∧ F j < 32003) (hG : ∀ j, 0 ≤ G j ∧ G j < 32003) (hf : 0 ≤ f ∧ f < 60) (hg : 0 ≤ g ∧ g < 60) : wr_M l yX0_sumUpProduct cX0_sumUpProduct 6 none ({ frames := 4, cells := 0, slots := 0, locals := 92 }) [.int (iZ f), .int (iZ g)] D o q1 q2 cI tE tL F G k none F (spZ F G f g 72) k := by
  refine wr_of (by decide) rfl (Nat.le_of_ble_eq_true rfl) ?_
  intro p e s m below meth c A hAe S hr hlk hP hK hs hA hAn hS ls hl
  obtain ⟨hx, hb, hml, hown, hT⟩ := id S
  obtain ⟨⟨hZE, hTE⟩, hZL, hTL⟩ := id hs
  have hl : lv_has ls 6 [(0, .ref o), (1, .int (iZ f)), (2, .int (iZ g))] := hl
  refine lv_aload_n hx hb dX0_sumUpProduct_0 rfl (lv_at hl 0 rfl) ?_
  refine wr_V (As := []) (rest := []) (st1 := []) (F' := F) (G' := fiZ G 0 255 (fun _ => (0 : Int))) (k' := k) S (k_X0_clearWide l D o q1 q2 cI tE tL F G k  hd ) tb_228 tb_230 ts_X0_clearWide tb_1 tb_231 hd_X0_clearWide ⟨rfl, rfl, by decide, by decide⟩ hP hK rfl hs hS hA hAn rfl hl.1 rfl (Nat.le_of_ble_eq_true rfl) dX0_sumUpProduct_1 ⟨Nat.zero_le _, Nat.zero_le _⟩ rfl (fun H locs hP hS _ _ => ?_)
  obtain ⟨G1, eG1⟩ : ∃ Z : Nat → Int, Z = fiZ G 0 255 (fun _ => (0 : Int)) := ⟨_, rfl⟩
  rw [← eG1] at hP
  refine zi_const hx hb 0 dX0_sumUpProduct_4 ?_
  refine lv_istore_n (lv' := [(3, .int (iZ 0)), (0, .ref o), (1, .int (iZ f)), (2, .int (iZ g))]) hx hb dX0_sumUpProduct_5 rfl hl (by decide) rfl (fun ls hl => ?_)
  refine lp_goX (nL := 6) (α := Int) (fun z => [(0, .ref o), (1, .int (iZ f)), (2, .int (iZ g)), (3, .int (iZ z))]) (fun _ => F) (fun z => spZ F G f g (z * 9).toNat) (fun _ => k) (fun m6 z => 0 ≤ z ∧ z + (m6 : Int) = 8) ?_ 8 ((0 : Int)) (by (try dsimp only); omega) _ _ (wP_eq hP rfl ((by rw [eG1]; rfl)) rfl) hS ls (lv_sub hl [1, 2, 3, 0] rfl)
  intro m6 z2 hI6 ih6 H locs hP hS ls hl
  obtain ⟨c1, rfl⟩ : ∃ y : Int, y = z2 := ⟨_, rfl⟩
  have hl : lv_has ls 6 [(0, .ref o), (1, .int (iZ f)), (2, .int (iZ g)), (3, .int (iZ c1))] := hl
  have hI6 : 0 ≤ c1 ∧ c1 + (m6 : Int) = 8 := hI6
  have hP : va_P D vwCl (wX o q1 q2 cI F (spZ F G f g (c1 * 9).toNat) k) H := hP
  obtain ⟨G3, eG3⟩ : ∃ Z : Nat → Int, Z = spZ F G f g (c1 * 9).toNat := ⟨_, rfl⟩
  rw [← eG3] at hP
  refine lv_iload_n hx hb dX0_sumUpProduct_6 rfl (lv_at hl 3 rfl) ?_
  refine zi_bi hx hb 8 dX0_sumUpProduct_7 (by decide) ?_
  refine zi_cge (tgt := 59) hx hb dX0_sumUpProduct_9 (by decide) (by omega) (by omega) (fun hc9 => ?_) (fun hc9 => ?_)
  · exact wr_vret hx hb hr hlk (wP_eq hP rfl ((by rw [eG3]; exact sp_len (n := 72) (by omega))) rfl) hS rfl dX0_sumUpProduct_59
  · refine zi_bi hx hb (-4) dX0_sumUpProduct_12 (by decide) ?_
    refine lv_istore (lv' := [(4, .int (iZ (-4))), (0, .ref o), (1, .int (iZ f)), (2, .int (iZ g)), (3, .int (iZ c1))]) hx hb dX0_sumUpProduct_14 hl (by decide) rfl (fun ls hl => ?_)
    refine lp_goX (nL := 6) (α := Int) (fun z => [(0, .ref o), (1, .int (iZ f)), (2, .int (iZ g)), (3, .int (iZ c1)), (4, .int (iZ z))]) (fun _ => F) (fun z => spZ F G f g (c1 * 9 + z + 4).toNat) (fun _ => k) (fun m16 z => -4 ≤ z ∧ z + (m16 : Int) = 5) ?_ 9 (((-4) : Int)) (by (try dsimp only); omega) _ _ (wP_eq hP rfl ((by rw [eG3]; exact sp_len (by omega))) rfl) hS ls (lv_sub hl [1, 2, 3, 4, 0] rfl)
    intro m16 z4 hI16 ih16 H locs hP hS ls hl
    obtain ⟨n, rfl⟩ : ∃ y : Int, y = z4 := ⟨_, rfl⟩
    have hl : lv_has ls 6 [(0, .ref o), (1, .int (iZ f)), (2, .int (iZ g)), (3, .int (iZ c1)), (4, .int (iZ n))] := hl
    have hI16 : -4 ≤ n ∧ n + (m16 : Int) = 5 := hI16
    have hP : va_P D vwCl (wX o q1 q2 cI F (spZ F G f g (c1 * 9 + n + 4).toNat) k) H := hP
    obtain ⟨G5, eG5⟩ : ∃ Z : Nat → Int, Z = spZ F G f g (c1 * 9 + n + 4).toNat := ⟨_, rfl⟩
    rw [← eG5] at hP
    have hGi : ∀ j, 0 ≤ G5 j ∧ G5 j < 32003 := by
      rw [eG5]
      exact spZ_rng hG _
    refine lv_iload hx hb dX0_sumUpProduct_16 (lv_at hl 4 rfl) ?_
    refine zi_const hx hb 4 dX0_sumUpProduct_18 ?_
    refine zi_cgt (tgt := 53) hx hb dX0_sumUpProduct_19 (by decide) (by omega) (by omega) (fun hc19 => ?_) (fun hc19 => ?_)
    · refine zi_inc (lv' := [(3, .int (iZ (c1 + 1))), (0, .ref o), (1, .int (iZ f)), (2, .int (iZ g)), (4, .int (iZ n))]) hx hb dX0_sumUpProduct_53 hl (k := 3) rfl (by decide) rfl (fun ls hl => ?_)
      refine lv_goto (tgt := 6) hx hb dX0_sumUpProduct_56 (by decide) ?_
      exact ih6 (m6 - 1) (c1 + 1) (by omega) (by (try dsimp only); omega) _ _ (wP_eq hP rfl ((by rw [eG5]; exact sp_len (by omega))) rfl) hS ls (lv_sub hl [1, 2, 3, 0] rfl)
    · refine lv_aload_n hx hb dX0_sumUpProduct_22 rfl (lv_at hl 0 rfl) ?_
      refine lv_iload_n hx hb dX0_sumUpProduct_23 rfl (lv_at hl 1 rfl) ?_
      refine lv_iload_n hx hb dX0_sumUpProduct_24 rfl (lv_at hl 3 rfl) ?_
      refine lv_iload hx hb dX0_sumUpProduct_25 (lv_at hl 4 rfl) ?_
      refine rd_V (As := [.int (iZ f), .int (iZ c1), .int (iZ n)]) (rest := []) (st1 := [.int (iZ (nuZ F f c1 n))]) S (k_X0_number l D o q1 q2 cI tE tL F G5 k f c1 n (by omega) (by omega) (by omega)) tb_197 tb_199 ts_X0_number tb_1 tb_200 hd_X0_number ⟨rfl, rfl, by decide, by decide⟩ rX_bl (rX_w hP hK rfl hs hS) (va_recv hK hP (ci := 0) (q0 := 0) rfl rfl) rfl hl.1 rfl (Nat.le_of_ble_eq_true rfl) dX0_sumUpProduct_27 ⟨Nat.zero_le _, Nat.zero_le _⟩ rfl ?_
      have hn30 := nuZ_rng hF f c1 n
      refine zi_top (fun v6 ev6 => ?_)
      refine lv_istore (lv' := [(5, .int (iZ v6)), (0, .ref o), (1, .int (iZ f)), (2, .int (iZ g)), (3, .int (iZ c1)), (4, .int (iZ n))]) hx hb dX0_sumUpProduct_30 hl (by decide) rfl (fun ls hl => ?_)
      refine lv_iload hx hb dX0_sumUpProduct_32 (lv_at hl 0 rfl) ?_
      refine zi_feq (tgt := 47) hx hb dX0_sumUpProduct_34 (by decide) (by omega) (fun hc34 => ?_) (fun hc34 => ?_)
      · refine zi_inc (lv' := [(4, .int (iZ (n + 1))), (5, .int (iZ v6)), (0, .ref o), (1, .int (iZ f)), (2, .int (iZ g)), (3, .int (iZ c1))]) hx hb dX0_sumUpProduct_47 hl (k := 5) rfl (by decide) rfl (fun ls hl => ?_)
        refine lv_goto (tgt := 16) hx hb dX0_sumUpProduct_50 (by decide) ?_
        exact ih16 (m16 - 1) (n + 1) (by omega) (by (try dsimp only); omega) _ _ (wP_eq hP rfl ((by rw [eG5]; exact sp_same (v := v6) (by omega) (by omega) (by rw [ev6, nu_lin (by omega) (by omega) (by omega)]) (by omega))) rfl) hS ls (lv_sub hl [2, 3, 4, 5, 0] rfl)
      · refine lv_aload_n hx hb dX0_sumUpProduct_37 rfl (lv_at hl 1 rfl) ?_
        refine lv_iload_n hx hb dX0_sumUpProduct_38 rfl (lv_at hl 3 rfl) ?_
        refine lv_iload_n hx hb dX0_sumUpProduct_39 rfl (lv_at hl 4 rfl) ?_
        refine lv_iload hx hb dX0_sumUpProduct_40 (lv_at hl 5 rfl) ?_
        refine lv_iload hx hb dX0_sumUpProduct_42 (lv_at hl 0 rfl) ?_
        refine wr_V (As := [.int (iZ g), .int (iZ c1), .int (iZ n), .int (iZ v6)]) (rest := []) (st1 := []) (F' := F) (G' := amZ F G5 g c1 n v6 72) (k' := k) S (k_X0_addMultiple l D o q1 q2 cI tE tL F G5 k g c1 n v6 hd hF hGi (by omega) (by omega) (by omega) (by omega)) tb_232 tb_234 ts_X0_addMultiple tb_1 tb_235 hd_X0_addMultiple ⟨rfl, rfl, by decide, by decide⟩ hP hK rfl hs hS hA hAn rfl hl.1 rfl (Nat.le_of_ble_eq_true rfl) dX0_sumUpProduct_44 ⟨Nat.zero_le _, Nat.zero_le _⟩ rfl (fun H locs hP hS _ _ => ?_)
        obtain ⟨G7, eG7⟩ : ∃ Z : Nat → Int, Z = amZ F G5 g c1 n v6 72 := ⟨_, rfl⟩
        rw [← eG7] at hP
        refine zi_inc (lv' := [(4, .int (iZ (n + 1))), (5, .int (iZ v6)), (0, .ref o), (1, .int (iZ f)), (2, .int (iZ g)), (3, .int (iZ c1))]) hx hb dX0_sumUpProduct_47 hl (k := 5) rfl (by decide) rfl (fun ls hl => ?_)
        refine lv_goto (tgt := 16) hx hb dX0_sumUpProduct_50 (by decide) ?_
        exact ih16 (m16 - 1) (n + 1) (by omega) (by (try dsimp only); omega) _ _ (wP_eq hP rfl ((by rw [eG7, eG5]; exact sp_next (v := v6) (by omega) (by omega) (by rw [ev6, nu_lin (by omega) (by omega) (by omega)]) (by omega))) rfl) hS ls (lv_sub hl [2, 3, 4, 5, 0] rfl)
