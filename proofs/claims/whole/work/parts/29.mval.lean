set_option maxHeartbeats 4000000 in
set_option maxRecDepth 100000 in
theorem k_X1_value (l : Launch) (D : va_G) (mo : Nat) (na : Nat → Nat) (cI cJ : ClassId) (c0 k : Int) (V : Nat → Nat → Int) (f x1 l1 e1 : Int) (hd : dM mo na) (hN : ∀ j, 0 ≤ V 0 j ∧ V 0 j < 32003) (hk : 0 ≤ k ∧ k ≤ 60) (hf : 0 ≤ f ∧ f < k) (hx10 : -9223372036854775808 ≤ x1 ∧ x1 ≤ 9223372036854775807) (hl10 : -9223372036854775808 ≤ l1 ∧ l1 ≤ 9223372036854775807) (he10 : -9223372036854775808 ≤ e1 ∧ e1 ≤ 9223372036854775807) : wm_M l yX1_value cX1_value 20 (some .int) ({ frames := 3, cells := 0, slots := 0, locals := 76 }) [.int (iZ f), .long (lZ x1), .long (lZ l1), .long (lZ e1)] D mo na cI cJ c0 k V (some (.int (iZ (vlZ (V 0) f x1 l1 e1)))) 0 k (fun Z => Z = V) := by
  refine wm_of (by decide) rfl (Nat.le_of_ble_eq_true rfl) ?_
  intro p e s m below meth c A hAe S hr hlk hP hK hA hAn hS ls hl
  obtain ⟨hx, hb, hml, hown, hT⟩ := id S
  have hl : lv_has ls 20 [(0, .ref mo), (1, .int (iZ f)), (2, .long (lZ x1)), (4, .long (lZ l1)), (6, .long (lZ e1))] := hl
  refine lv_aload_n hx hb dX1_value_0 rfl (lv_at hl 0 rfl) ?_
  refine lv_aload_n hx hb dX1_value_1 rfl (lv_at hl 0 rfl) ?_
  refine lv_iload_n hx hb dX1_value_2 rfl (lv_at hl 1 rfl) ?_
  refine rd_V (As := [.int (iZ f)]) (rest := [.ref mo]) (st1 := [.int (iZ (inZ f 0 (k - 1))), .ref mo]) S (k_X1_isThere l D mo na cI cJ c0 k V f (by omega) (by omega)) tb_466 tb_468 ts_X1_isThere tb_2 tb_469 hd_X1_isThere ⟨rfl, rfl, by decide, by decide⟩ rM_bl (rM_mv hP hK) (va_recv hK hP (ci := 1) (q0 := 0) rfl rfl) rfl hl.1 rfl (Nat.le_of_ble_eq_true rfl) dX1_value_3 ⟨Nat.zero_le _, Nat.zero_le _⟩ rfl ?_
  have hi6 := inZ_or f 0 (k - 1)
  refine zi_feq (tgt := 13) hx hb dX1_value_6 (by decide) (by omega) (fun hc6 => ?_) (fun hc6 => ?_)
  · refine zi_const hx hb 1 dX1_value_13 ?_
    exfalso
    omega
  · refine zi_const hx hb 0 dX1_value_9 ?_
    refine lv_goto (tgt := 14) hx hb dX1_value_10 (by decide) ?_
    refine va_put (D := D) (ci := 1) (v := .int (iZ 0)) (ty := .int) (C := RX1) (T := TX1) (N := 8) hx hb hT inX1 tyX1 tyX1_ok nmX1 hown hK hP (dM_D hd hA) hS 0 rfl rfl 0 (by decide) (hT _ tb_402) (fun _ h9 => h9) rfl (by decide +kernel) rfl rfl (Nat.le_of_ble_eq_true rfl) dX1_value_14 (fun H locs hP _ hS => ?_)
    have hP : va_P D vwCl (mX mo na cI cJ 0 k V) H := hP
    refine lv_aload_n hx hb dX1_value_17 rfl (lv_at hl 0 rfl) ?_
    refine va_get (D := D) (ci := 1) (C := RX1) (T := TX1) (N := 8) hx hb hT inX1 hown hK hP 0 rfl rfl 0 (by decide) (hT _ tb_402) (fun _ h9 => h9) rfl dX1_value_18 ?_
    refine zi_fle (tgt := 26) hx hb dX1_value_21 (by decide) (by omega) (fun hc21 => ?_) (fun hc21 => ?_)
    · refine lv_lload_n hx hb dX1_value_26 rfl (lv_at hl 2 rfl) ?_
      refine rd_S (As := [.long (lZ x1)]) (rest := []) (st1 := [.long (lZ (x1 % 32003))]) S (k_X1_modulo l x1 (by omega)) tb_445 tb_446 tb_2 tb_447 hd_X1_modulo ⟨rfl, rfl, by decide, by decide⟩ bl_T (fun _ _ _ => trivial) rfl hl.1 rfl (Nat.le_of_ble_eq_true rfl) dX1_value_27 ⟨Nat.zero_le _, Nat.zero_le _⟩ rfl ?_
      refine zl_top (fun v1 ev1 => ?_)
      refine lv_lstore (lv' := [(8, .long (lZ v1)), (0, .ref mo), (1, .int (iZ f)), (2, .long (lZ x1)), (4, .long (lZ l1)), (6, .long (lZ e1))]) hx hb dX1_value_30 hl (by decide) rfl (fun ls hl => ?_)
      refine lv_lload hx hb dX1_value_32 (lv_at hl 4 rfl) ?_
      refine rd_S (As := [.long (lZ l1)]) (rest := []) (st1 := [.long (lZ (l1 % 32003))]) S (k_X1_modulo l l1 (by omega)) tb_445 tb_446 tb_2 tb_447 hd_X1_modulo ⟨rfl, rfl, by decide, by decide⟩ bl_T (fun _ _ _ => trivial) rfl hl.1 rfl (Nat.le_of_ble_eq_true rfl) dX1_value_34 ⟨Nat.zero_le _, Nat.zero_le _⟩ rfl ?_
      refine zl_top (fun v2 ev2 => ?_)
      refine lv_lstore (lv' := [(10, .long (lZ v2)), (8, .long (lZ v1)), (0, .ref mo), (1, .int (iZ f)), (2, .long (lZ x1)), (4, .long (lZ l1)), (6, .long (lZ e1))]) hx hb dX1_value_37 hl (by decide) rfl (fun ls hl => ?_)
      refine lv_lload hx hb dX1_value_39 (lv_at hl 6 rfl) ?_
      refine rd_S (As := [.long (lZ e1)]) (rest := []) (st1 := [.long (lZ (e1 % 32003))]) S (k_X1_modulo l e1 (by omega)) tb_445 tb_446 tb_2 tb_447 hd_X1_modulo ⟨rfl, rfl, by decide, by decide⟩ bl_T (fun _ _ _ => trivial) rfl hl.1 rfl (Nat.le_of_ble_eq_true rfl) dX1_value_41 ⟨Nat.zero_le _, Nat.zero_le _⟩ rfl ?_
      refine zl_top (fun v3 ev3 => ?_)
      refine lv_lstore (lv' := [(12, .long (lZ v3)), (10, .long (lZ v2)), (8, .long (lZ v1)), (0, .ref mo), (1, .int (iZ f)), (2, .long (lZ x1)), (4, .long (lZ l1)), (6, .long (lZ e1))]) hx hb dX1_value_44 hl (by decide) rfl (fun ls hl => ?_)
      refine zl_const hx hb 0 dX1_value_46 (by decide) ?_
      refine lv_lstore (lv' := [(14, .long (lZ 0)), (12, .long (lZ v3)), (10, .long (lZ v2)), (8, .long (lZ v1)), (0, .ref mo), (1, .int (iZ f)), (2, .long (lZ x1)), (4, .long (lZ l1)), (6, .long (lZ e1))]) hx hb dX1_value_47 hl (by decide) rfl (fun ls hl => ?_)
      refine zi_const hx hb 0 dX1_value_49 ?_
      refine lv_istore (lv' := [(16, .int (iZ 0)), (14, .long (lZ 0)), (12, .long (lZ v3)), (10, .long (lZ v2)), (8, .long (lZ v1)), (0, .ref mo), (1, .int (iZ f)), (2, .long (lZ x1)), (4, .long (lZ l1)), (6, .long (lZ e1))]) hx hb dX1_value_50 hl (by decide) rfl (fun ls hl => ?_)
      refine lp_go (nL := 20) (α := Int × Int) (fun z => [(0, .ref mo), (1, .int (iZ f)), (8, .long (lZ v1)), (10, .long (lZ v2)), (12, .long (lZ v3)), (14, .long (lZ z.1)), (16, .int (iZ z.2))]) (fun m52 z => 0 ≤ z.2 ∧ z.2 + (m52 : Int) = 8 ∧ z.1 = mvZ (V 0) f v1 v2 v3 (z.2 * 9).toNat ∧ ∀ j : Nat, (j : Int) < z.2 * 9 → okZ (V 0) f v1 v3 j) ?_ 8 ((0 : Int), (0 : Int)) (by (try dsimp only); exact ⟨by omega, by omega, rfl, fun j hj => by omega⟩) ls (lv_sub hl [5, 6, 4, 3, 2, 1, 0] rfl)
      intro m52 z4 hI52 ih52 ls hl
      obtain ⟨u, c1⟩ := z4
      have hl : lv_has ls 20 [(0, .ref mo), (1, .int (iZ f)), (8, .long (lZ v1)), (10, .long (lZ v2)), (12, .long (lZ v3)), (14, .long (lZ u)), (16, .int (iZ c1))] := hl
      have hI52 : 0 ≤ c1 ∧ c1 + (m52 : Int) = 8 ∧ u = mvZ (V 0) f v1 v2 v3 (c1 * 9).toNat ∧ ∀ j : Nat, (j : Int) < c1 * 9 → okZ (V 0) f v1 v3 j := hI52
      refine lv_iload hx hb dX1_value_52 (lv_at hl 6 rfl) ?_
      refine zi_bi hx hb 8 dX1_value_54 (by decide) ?_
      refine zi_cge (tgt := 190) hx hb dX1_value_56 (by decide) (by omega) (by omega) (fun hc56 => ?_) (fun hc56 => ?_)
      · refine lv_lload hx hb dX1_value_190 (lv_at hl 5 rfl) ?_
        refine zl_l2i hx hb dX1_value_192 ?_
        exact wm_iret hx hb hr hlk hP rfl rfl rfl hS (congrArg (fun z => some (Value.int (iZ z))) (show (vlZ (V 0) f x1 l1 e1 : Int) = u from by rw [vl_pos (by omega) (fun j hj => by rw [← ev1, ← ev3]; exact hI52.2.2.2 j (by omega)), hI52.2.2.1, ev1, ev2, ev3]; exact congrArg _ (by omega))) dX1_value_193
      · refine zi_bi hx hb (-4) dX1_value_59 (by decide) ?_
        refine lv_istore (lv' := [(17, .int (iZ (-4))), (0, .ref mo), (1, .int (iZ f)), (8, .long (lZ v1)), (10, .long (lZ v2)), (12, .long (lZ v3)), (14, .long (lZ u)), (16, .int (iZ c1))]) hx hb dX1_value_61 hl (by decide) rfl (fun ls hl => ?_)
        refine lp_go (nL := 20) (α := Int × Int) (fun z => [(0, .ref mo), (1, .int (iZ f)), (8, .long (lZ v1)), (10, .long (lZ v2)), (12, .long (lZ v3)), (14, .long (lZ z.1)), (16, .int (iZ c1)), (17, .int (iZ z.2))]) (fun m63 z => -4 ≤ z.2 ∧ z.2 + (m63 : Int) = 5 ∧ z.1 = mvZ (V 0) f v1 v2 v3 (c1 * 9 + z.2 + 4).toNat ∧ ∀ j : Nat, (j : Int) < c1 * 9 + z.2 + 4 → okZ (V 0) f v1 v3 j) ?_ 9 ((u : Int), ((-4) : Int)) (by (try dsimp only); exact ⟨by omega, by omega, by rw [hI52.2.2.1]; exact congrArg _ (by omega), fun j hj => hI52.2.2.2 j (by omega)⟩) ls (lv_sub hl [1, 2, 3, 4, 5, 6, 7, 0] rfl)
        intro m63 z5 hI63 ih63 ls hl
        obtain ⟨y, n⟩ := z5
        have hl : lv_has ls 20 [(0, .ref mo), (1, .int (iZ f)), (8, .long (lZ v1)), (10, .long (lZ v2)), (12, .long (lZ v3)), (14, .long (lZ y)), (16, .int (iZ c1)), (17, .int (iZ n))] := hl
        have hI63 : -4 ≤ n ∧ n + (m63 : Int) = 5 ∧ y = mvZ (V 0) f v1 v2 v3 (c1 * 9 + n + 4).toNat ∧ ∀ j : Nat, (j : Int) < c1 * 9 + n + 4 → okZ (V 0) f v1 v3 j := hI63
        have hnv : n ≤ 4 → nuZ (V 0) f c1 n = V 0 (72 * f + (c1 * 9 + n + 4)).toNat := fun h => by unfold nuZ; rw [if_pos (by omega)]; exact congrArg (V 0) (by omega)
        have hnr := hN (72 * f + (c1 * 9 + n + 4)).toNat
        have hyr := mvZ_rng (V 0) f v1 v2 v3 (c1 * 9 + n + 4).toNat
        rw [← hI63.2.2.1] at hyr
        refine lv_iload hx hb dX1_value_63 (lv_at hl 7 rfl) ?_
        refine zi_const hx hb 4 dX1_value_65 ?_
        refine zi_cgt (tgt := 184) hx hb dX1_value_66 (by decide) (by omega) (by omega) (fun hc66 => ?_) (fun hc66 => ?_)
        · refine zi_inc (lv' := [(16, .int (iZ (c1 + 1))), (0, .ref mo), (1, .int (iZ f)), (8, .long (lZ v1)), (10, .long (lZ v2)), (12, .long (lZ v3)), (14, .long (lZ y)), (17, .int (iZ n))]) hx hb dX1_value_184 hl (k := 6) rfl (by decide) rfl (fun ls hl => ?_)
          refine lv_goto (tgt := 52) hx hb dX1_value_187 (by decide) ?_
          exact ih52 (m52 - 1) (y, c1 + 1) (by omega) (by (try dsimp only); exact ⟨by omega, by omega, by rw [hI63.2.2.1]; exact congrArg _ (by omega), fun j hj => hI63.2.2.2 j (by omega)⟩) ls (lv_sub hl [1, 2, 3, 4, 5, 6, 0] rfl)
        · have hnv := hnv (by omega)
          refine lv_aload_n hx hb dX1_value_69 rfl (lv_at hl 0 rfl) ?_
          refine va_get (D := D) (ci := 1) (C := RX1) (T := TX1) (N := 8) hx hb hT inX1 hown hK hP 0 rfl rfl 2 (by decide) (hT _ tb_404) (fun _ h9 => h9) rfl dX1_value_70 ?_
          refine zi_bi hx hb 72 dX1_value_73 (by decide) ?_
          refine lv_iload_n hx hb dX1_value_75 rfl (lv_at hl 1 rfl) ?_
          refine zi_mul hx hb dX1_value_76 ?_
          refine lv_iload hx hb dX1_value_77 (lv_at hl 6 rfl) ?_
          refine lv_iload hx hb dX1_value_79 (lv_at hl 7 rfl) ?_
          refine rd_S (As := [.int (iZ c1), .int (iZ n)]) (rest := [.int (iZ (72 * f)), .ref (na 0)]) (st1 := [.int (iZ (c1 * 9 + n + 4)), .int (iZ (72 * f)), .ref (na 0)]) S (k_X1_place l c1 n) tb_442 tb_443 tb_2 tb_444 hd_X1_place ⟨rfl, rfl, by decide, by decide⟩ bl_T (fun _ _ _ => trivial) rfl hl.1 rfl (Nat.le_of_ble_eq_true rfl) dX1_value_81 ⟨Nat.zero_le _, Nat.zero_le _⟩ rfl ?_
          refine zi_add hx hb dX1_value_84 ?_
          refine va_iald hx hb hK hP 1 0 rfl rfl (iZ_in (by omega) (by omega) (by decide)) dX1_value_85 ?_
          refine zi_as (a := V 0 (((72 * f) + (c1 * 9 + n + 4)).toNat)) (by rw [iZ_cl (by omega) (by omega)]) ?_
          refine zi_i2l hx hb dX1_value_86 (by omega) ?_
          refine zl_top (fun v6 ev6 => ?_)
          refine lv_lstore (lv' := [(18, .long (lZ v6)), (0, .ref mo), (1, .int (iZ f)), (8, .long (lZ v1)), (10, .long (lZ v2)), (12, .long (lZ v3)), (14, .long (lZ y)), (16, .int (iZ c1)), (17, .int (iZ n))]) hx hb dX1_value_87 hl (by decide) rfl (fun ls hl => ?_)
          refine lv_lload hx hb dX1_value_89 (lv_at hl 0 rfl) ?_
          refine zl_const hx hb 0 dX1_value_91 (by decide) ?_
          refine zl_cne (tgt := 99) hx hb dX1_value_92 dX1_value_93 (by decide) (by omega) (by omega) (fun hc92 => ?_) (fun hc92 => ?_)
          · refine lv_iload hx hb dX1_value_99 (lv_at hl 8 rfl) ?_
            refine zi_fge (tgt := 111) hx hb dX1_value_101 (by decide) (by omega) (fun hc101 => ?_) (fun hc101 => ?_)
            · refine lv_iload hx hb dX1_value_111 (lv_at hl 7 rfl) ?_
              refine rd_S (As := [.int (iZ c1)]) (rest := []) (st1 := [.int (iZ (xpZ c1))]) S (k_X1_exponent l c1 (by omega)) tb_491 tb_492 tb_2 tb_493 hd_X1_exponent ⟨rfl, rfl, by decide, by decide⟩ bl_T (fun _ _ _ => trivial) rfl hl.1 rfl (Nat.le_of_ble_eq_true rfl) dX1_value_113 ⟨Nat.zero_le _, Nat.zero_le _⟩ rfl ?_
              have hxe116 : xpZ c1 = (if c1 < 4 then 0 else if c1 < 6 then c1 - 6 else c1 - 5) := rfl
              refine zi_fge (tgt := 128) hx hb dX1_value_116 (by decide) (by omega) (fun hc116 => ?_) (fun hc116 => ?_)
              · refine lv_lload hx hb dX1_value_128 (lv_at hl 6 rfl) ?_
                refine lv_lload hx hb dX1_value_130 (lv_at hl 0 rfl) ?_
                refine lv_lload hx hb dX1_value_132 (lv_at hl 3 rfl) ?_
                refine lv_iload hx hb dX1_value_134 (lv_at hl 8 rfl) ?_
                refine rd_S (As := [.long (lZ v1), .int (iZ n)]) (rest := [.long (lZ v6), .long (lZ y)]) (st1 := [.long (lZ (poZ v1 n)), .long (lZ v6), .long (lZ y)]) S (k_X1_power l v1 n (by omega) (by omega)) tb_536 tb_537 tb_2 tb_538 hd_X1_power ⟨rfl, rfl, by decide, by decide⟩ bl_T (fun _ _ _ => trivial) rfl hl.1 rfl (Nat.le_of_ble_eq_true rfl) dX1_value_136 ⟨Nat.zero_le _, Nat.zero_le _⟩ rfl ?_
                have hpo139 := poZ_rng v1 n
                have hvr : 0 ≤ v6 ∧ v6 < 32003 := by omega
                have hmr := mul_rng hvr (poZ_rng v1 n)
                refine zl_mul hx hb dX1_value_139 ?_
                refine zl_ldc hx hb 32003 hown (hT _ tb_448) (by decide) dX1_value_140 ?_
                refine zl_rem hx hb dX1_value_143 (by omega) (by omega) ?_
                refine zl_top (fun t7 et7 => ?_)
                have ht9 : t7 = v6 * poZ v1 n % 32003 := by
                  rw [et7]
                  exact tmP (by omega)
                refine lv_iload hx hb dX1_value_144 (lv_at hl 7 rfl) ?_
                refine zi_const hx hb 4 dX1_value_146 ?_
                refine zi_cge (tgt := 160) hx hb dX1_value_147 (by decide) (by omega) (by omega) (fun hc147 => ?_) (fun hc147 => ?_)
                · refine lv_lload hx hb dX1_value_160 (lv_at hl 5 rfl) ?_
                  refine lv_iload hx hb dX1_value_162 (lv_at hl 7 rfl) ?_
                  refine rd_S (As := [.int (iZ c1)]) (rest := [.long (lZ v3), .long (lZ t7), .long (lZ y)]) (st1 := [.int (iZ (xpZ c1)), .long (lZ v3), .long (lZ t7), .long (lZ y)]) S (k_X1_exponent l c1 (by omega)) tb_491 tb_492 tb_2 tb_493 hd_X1_exponent ⟨rfl, rfl, by decide, by decide⟩ bl_T (fun _ _ _ => trivial) rfl hl.1 rfl (Nat.le_of_ble_eq_true rfl) dX1_value_164 ⟨Nat.zero_le _, Nat.zero_le _⟩ rfl ?_
                  have hxe167 : xpZ c1 = (if c1 < 4 then 0 else if c1 < 6 then c1 - 6 else c1 - 5) := rfl
                  refine rd_S (As := [.long (lZ v3), .int (iZ (xpZ c1))]) (rest := [.long (lZ t7), .long (lZ y)]) (st1 := [.long (lZ (poZ v3 (xpZ c1))), .long (lZ t7), .long (lZ y)]) S (k_X1_power l v3 (xpZ c1) (by omega) (by omega)) tb_536 tb_537 tb_2 tb_538 hd_X1_power ⟨rfl, rfl, by decide, by decide⟩ bl_T (fun _ _ _ => trivial) rfl hl.1 rfl (Nat.le_of_ble_eq_true rfl) dX1_value_167 ⟨Nat.zero_le _, Nat.zero_le _⟩ rfl ?_
                  have hpo170 := poZ_rng v3 (xpZ c1)
                  refine zl_top (fun w8 ew8 => ?_)
                  have hq9 : w8 = kqZ v2 v3 c1 := by
                    rw [ew8]
                    unfold kqZ
                    first
                      | rw [if_pos (by omega)]
                      | rw [if_neg (by omega)]
                  have hq8 : 0 ≤ w8 ∧ w8 < 32003 := by
                    rw [ew8]
                    exact poZ_rng _ _
                  have hmq := mul_rng (a := t7) (by omega) hq8
                  refine zl_mul hx hb dX1_value_170 ?_
                  refine zl_add hx hb dX1_value_171 ?_
                  refine zl_ldc hx hb 32003 hown (hT _ tb_448) (by decide) dX1_value_172 ?_
                  refine zl_rem hx hb dX1_value_175 (by omega) (by omega) ?_
                  refine zl_top (fun r9 er9 => ?_)
                  have hst : r9 = mvZ (V 0) f v1 v2 v3 (c1 * 9 + (n + 1) + 4).toNat := by
                    rw [er9, tmP (by omega), ht9, hq9, ev6, ← hnv]
                    exact mv_step (by omega) (by omega) hI63.2.2.1
                  refine lv_lstore (lv' := [(14, .long (lZ r9)), (18, .long (lZ v6)), (0, .ref mo), (1, .int (iZ f)), (8, .long (lZ v1)), (10, .long (lZ v2)), (12, .long (lZ v3)), (16, .int (iZ c1)), (17, .int (iZ n))]) hx hb dX1_value_176 hl (by decide) rfl (fun ls hl => ?_)
                  refine zi_inc (lv' := [(17, .int (iZ (n + 1))), (14, .long (lZ r9)), (18, .long (lZ v6)), (0, .ref mo), (1, .int (iZ f)), (8, .long (lZ v1)), (10, .long (lZ v2)), (12, .long (lZ v3)), (16, .int (iZ c1))]) hx hb dX1_value_178 hl (k := 8) rfl (by decide) rfl (fun ls hl => ?_)
                  refine lv_goto (tgt := 63) hx hb dX1_value_181 (by decide) ?_
                  exact ih63 (m63 - 1) (r9, n + 1) (by omega) (by (try dsimp only); exact ⟨by omega, by omega, hst, ok_step (by omega) (by omega) hI63.2.2.2 (Or.inr ⟨by omega, by omega⟩)⟩) ls (lv_sub hl [3, 4, 5, 6, 7, 1, 8, 0] rfl)
                · refine lv_lload hx hb dX1_value_150 (lv_at hl 4 rfl) ?_
                  refine lv_iload hx hb dX1_value_152 (lv_at hl 7 rfl) ?_
                  refine rd_S (As := [.long (lZ v2), .int (iZ c1)]) (rest := [.long (lZ t7), .long (lZ y)]) (st1 := [.long (lZ (poZ v2 c1)), .long (lZ t7), .long (lZ y)]) S (k_X1_power l v2 c1 (by omega) (by omega)) tb_536 tb_537 tb_2 tb_538 hd_X1_power ⟨rfl, rfl, by decide, by decide⟩ bl_T (fun _ _ _ => trivial) rfl hl.1 rfl (Nat.le_of_ble_eq_true rfl) dX1_value_154 ⟨Nat.zero_le _, Nat.zero_le _⟩ rfl ?_
                  have hpo157 := poZ_rng v2 c1
                  refine lv_goto (tgt := 170) hx hb dX1_value_157 (by decide) ?_
                  refine zl_top (fun w10 ew10 => ?_)
                  have hq9 : w10 = kqZ v2 v3 c1 := by
                    rw [ew10]
                    unfold kqZ
                    first
                      | rw [if_pos (by omega)]
                      | rw [if_neg (by omega)]
                  have hq8 : 0 ≤ w10 ∧ w10 < 32003 := by
                    rw [ew10]
                    exact poZ_rng _ _
                  have hmq := mul_rng (a := t7) (by omega) hq8
                  refine zl_mul hx hb dX1_value_170 ?_
                  refine zl_add hx hb dX1_value_171 ?_
                  refine zl_ldc hx hb 32003 hown (hT _ tb_448) (by decide) dX1_value_172 ?_
                  refine zl_rem hx hb dX1_value_175 (by omega) (by omega) ?_
                  refine zl_top (fun r11 er11 => ?_)
                  have hst : r11 = mvZ (V 0) f v1 v2 v3 (c1 * 9 + (n + 1) + 4).toNat := by
                    rw [er11, tmP (by omega), ht9, hq9, ev6, ← hnv]
                    exact mv_step (by omega) (by omega) hI63.2.2.1
                  refine lv_lstore (lv' := [(14, .long (lZ r11)), (18, .long (lZ v6)), (0, .ref mo), (1, .int (iZ f)), (8, .long (lZ v1)), (10, .long (lZ v2)), (12, .long (lZ v3)), (16, .int (iZ c1)), (17, .int (iZ n))]) hx hb dX1_value_176 hl (by decide) rfl (fun ls hl => ?_)
                  refine zi_inc (lv' := [(17, .int (iZ (n + 1))), (14, .long (lZ r11)), (18, .long (lZ v6)), (0, .ref mo), (1, .int (iZ f)), (8, .long (lZ v1)), (10, .long (lZ v2)), (12, .long (lZ v3)), (16, .int (iZ c1))]) hx hb dX1_value_178 hl (k := 8) rfl (by decide) rfl (fun ls hl => ?_)
                  refine lv_goto (tgt := 63) hx hb dX1_value_181 (by decide) ?_
                  exact ih63 (m63 - 1) (r11, n + 1) (by omega) (by (try dsimp only); exact ⟨by omega, by omega, hst, ok_step (by omega) (by omega) hI63.2.2.2 (Or.inr ⟨by omega, by omega⟩)⟩) ls (lv_sub hl [3, 4, 5, 6, 7, 1, 8, 0] rfl)
              · refine lv_lload hx hb dX1_value_119 (lv_at hl 5 rfl) ?_
                refine zl_const hx hb 0 dX1_value_121 (by decide) ?_
                refine zl_cne (tgt := 128) hx hb dX1_value_122 dX1_value_123 (by decide) (by omega) (by omega) (fun hc122 => ?_) (fun hc122 => ?_)
                · refine lv_lload hx hb dX1_value_128 (lv_at hl 6 rfl) ?_
                  refine lv_lload hx hb dX1_value_130 (lv_at hl 0 rfl) ?_
                  refine lv_lload hx hb dX1_value_132 (lv_at hl 3 rfl) ?_
                  refine lv_iload hx hb dX1_value_134 (lv_at hl 8 rfl) ?_
                  refine rd_S (As := [.long (lZ v1), .int (iZ n)]) (rest := [.long (lZ v6), .long (lZ y)]) (st1 := [.long (lZ (poZ v1 n)), .long (lZ v6), .long (lZ y)]) S (k_X1_power l v1 n (by omega) (by omega)) tb_536 tb_537 tb_2 tb_538 hd_X1_power ⟨rfl, rfl, by decide, by decide⟩ bl_T (fun _ _ _ => trivial) rfl hl.1 rfl (Nat.le_of_ble_eq_true rfl) dX1_value_136 ⟨Nat.zero_le _, Nat.zero_le _⟩ rfl ?_
                  have hpo139 := poZ_rng v1 n
                  have hvr : 0 ≤ v6 ∧ v6 < 32003 := by omega
                  have hmr := mul_rng hvr (poZ_rng v1 n)
                  refine zl_mul hx hb dX1_value_139 ?_
                  refine zl_ldc hx hb 32003 hown (hT _ tb_448) (by decide) dX1_value_140 ?_
                  refine zl_rem hx hb dX1_value_143 (by omega) (by omega) ?_
                  refine zl_top (fun t12 et12 => ?_)
                  have ht9 : t12 = v6 * poZ v1 n % 32003 := by
                    rw [et12]
                    exact tmP (by omega)
                  refine lv_iload hx hb dX1_value_144 (lv_at hl 7 rfl) ?_
                  refine zi_const hx hb 4 dX1_value_146 ?_
                  refine zi_cge (tgt := 160) hx hb dX1_value_147 (by decide) (by omega) (by omega) (fun hc147 => ?_) (fun hc147 => ?_)
                  · refine lv_lload hx hb dX1_value_160 (lv_at hl 5 rfl) ?_
                    refine lv_iload hx hb dX1_value_162 (lv_at hl 7 rfl) ?_
                    refine rd_S (As := [.int (iZ c1)]) (rest := [.long (lZ v3), .long (lZ t12), .long (lZ y)]) (st1 := [.int (iZ (xpZ c1)), .long (lZ v3), .long (lZ t12), .long (lZ y)]) S (k_X1_exponent l c1 (by omega)) tb_491 tb_492 tb_2 tb_493 hd_X1_exponent ⟨rfl, rfl, by decide, by decide⟩ bl_T (fun _ _ _ => trivial) rfl hl.1 rfl (Nat.le_of_ble_eq_true rfl) dX1_value_164 ⟨Nat.zero_le _, Nat.zero_le _⟩ rfl ?_
                    have hxe167 : xpZ c1 = (if c1 < 4 then 0 else if c1 < 6 then c1 - 6 else c1 - 5) := rfl
                    refine rd_S (As := [.long (lZ v3), .int (iZ (xpZ c1))]) (rest := [.long (lZ t12), .long (lZ y)]) (st1 := [.long (lZ (poZ v3 (xpZ c1))), .long (lZ t12), .long (lZ y)]) S (k_X1_power l v3 (xpZ c1) (by omega) (by omega)) tb_536 tb_537 tb_2 tb_538 hd_X1_power ⟨rfl, rfl, by decide, by decide⟩ bl_T (fun _ _ _ => trivial) rfl hl.1 rfl (Nat.le_of_ble_eq_true rfl) dX1_value_167 ⟨Nat.zero_le _, Nat.zero_le _⟩ rfl ?_
                    have hpo170 := poZ_rng v3 (xpZ c1)
                    refine zl_top (fun w13 ew13 => ?_)
                    have hq9 : w13 = kqZ v2 v3 c1 := by
                      rw [ew13]
                      unfold kqZ
                      first
                        | rw [if_pos (by omega)]
                        | rw [if_neg (by omega)]
                    have hq8 : 0 ≤ w13 ∧ w13 < 32003 := by
                      rw [ew13]
                      exact poZ_rng _ _
                    have hmq := mul_rng (a := t12) (by omega) hq8
                    refine zl_mul hx hb dX1_value_170 ?_
                    refine zl_add hx hb dX1_value_171 ?_
                    refine zl_ldc hx hb 32003 hown (hT _ tb_448) (by decide) dX1_value_172 ?_
                    refine zl_rem hx hb dX1_value_175 (by omega) (by omega) ?_
                    refine zl_top (fun r14 er14 => ?_)
                    have hst : r14 = mvZ (V 0) f v1 v2 v3 (c1 * 9 + (n + 1) + 4).toNat := by
                      rw [er14, tmP (by omega), ht9, hq9, ev6, ← hnv]
                      exact mv_step (by omega) (by omega) hI63.2.2.1
                    refine lv_lstore (lv' := [(14, .long (lZ r14)), (18, .long (lZ v6)), (0, .ref mo), (1, .int (iZ f)), (8, .long (lZ v1)), (10, .long (lZ v2)), (12, .long (lZ v3)), (16, .int (iZ c1)), (17, .int (iZ n))]) hx hb dX1_value_176 hl (by decide) rfl (fun ls hl => ?_)
                    refine zi_inc (lv' := [(17, .int (iZ (n + 1))), (14, .long (lZ r14)), (18, .long (lZ v6)), (0, .ref mo), (1, .int (iZ f)), (8, .long (lZ v1)), (10, .long (lZ v2)), (12, .long (lZ v3)), (16, .int (iZ c1))]) hx hb dX1_value_178 hl (k := 8) rfl (by decide) rfl (fun ls hl => ?_)
                    refine lv_goto (tgt := 63) hx hb dX1_value_181 (by decide) ?_
                    exact ih63 (m63 - 1) (r14, n + 1) (by omega) (by (try dsimp only); exact ⟨by omega, by omega, hst, ok_step (by omega) (by omega) hI63.2.2.2 (Or.inr ⟨by omega, by omega⟩)⟩) ls (lv_sub hl [3, 4, 5, 6, 7, 1, 8, 0] rfl)
                  · refine lv_lload hx hb dX1_value_150 (lv_at hl 4 rfl) ?_
                    refine lv_iload hx hb dX1_value_152 (lv_at hl 7 rfl) ?_
                    refine rd_S (As := [.long (lZ v2), .int (iZ c1)]) (rest := [.long (lZ t12), .long (lZ y)]) (st1 := [.long (lZ (poZ v2 c1)), .long (lZ t12), .long (lZ y)]) S (k_X1_power l v2 c1 (by omega) (by omega)) tb_536 tb_537 tb_2 tb_538 hd_X1_power ⟨rfl, rfl, by decide, by decide⟩ bl_T (fun _ _ _ => trivial) rfl hl.1 rfl (Nat.le_of_ble_eq_true rfl) dX1_value_154 ⟨Nat.zero_le _, Nat.zero_le _⟩ rfl ?_
                    have hpo157 := poZ_rng v2 c1
                    refine lv_goto (tgt := 170) hx hb dX1_value_157 (by decide) ?_
                    refine zl_top (fun w15 ew15 => ?_)
                    have hq9 : w15 = kqZ v2 v3 c1 := by
                      rw [ew15]
                      unfold kqZ
                      first
                        | rw [if_pos (by omega)]
                        | rw [if_neg (by omega)]
                    have hq8 : 0 ≤ w15 ∧ w15 < 32003 := by
                      rw [ew15]
                      exact poZ_rng _ _
                    have hmq := mul_rng (a := t12) (by omega) hq8
                    refine zl_mul hx hb dX1_value_170 ?_
                    refine zl_add hx hb dX1_value_171 ?_
                    refine zl_ldc hx hb 32003 hown (hT _ tb_448) (by decide) dX1_value_172 ?_
                    refine zl_rem hx hb dX1_value_175 (by omega) (by omega) ?_
                    refine zl_top (fun r16 er16 => ?_)
                    have hst : r16 = mvZ (V 0) f v1 v2 v3 (c1 * 9 + (n + 1) + 4).toNat := by
                      rw [er16, tmP (by omega), ht9, hq9, ev6, ← hnv]
                      exact mv_step (by omega) (by omega) hI63.2.2.1
                    refine lv_lstore (lv' := [(14, .long (lZ r16)), (18, .long (lZ v6)), (0, .ref mo), (1, .int (iZ f)), (8, .long (lZ v1)), (10, .long (lZ v2)), (12, .long (lZ v3)), (16, .int (iZ c1)), (17, .int (iZ n))]) hx hb dX1_value_176 hl (by decide) rfl (fun ls hl => ?_)
                    refine zi_inc (lv' := [(17, .int (iZ (n + 1))), (14, .long (lZ r16)), (18, .long (lZ v6)), (0, .ref mo), (1, .int (iZ f)), (8, .long (lZ v1)), (10, .long (lZ v2)), (12, .long (lZ v3)), (16, .int (iZ c1))]) hx hb dX1_value_178 hl (k := 8) rfl (by decide) rfl (fun ls hl => ?_)
                    refine lv_goto (tgt := 63) hx hb dX1_value_181 (by decide) ?_
                    exact ih63 (m63 - 1) (r16, n + 1) (by omega) (by (try dsimp only); exact ⟨by omega, by omega, hst, ok_step (by omega) (by omega) hI63.2.2.2 (Or.inr ⟨by omega, by omega⟩)⟩) ls (lv_sub hl [3, 4, 5, 6, 7, 1, 8, 0] rfl)
                · refine zi_const hx hb (-1) dX1_value_126 ?_
                  exact wm_iret hx hb hr hlk hP rfl rfl rfl hS (congrArg (fun z => some (Value.int (iZ z))) (show (vlZ (V 0) f x1 l1 e1 : Int) = (-1) from vl_neg (z := c1) (n := n) (by omega) (by omega) (by omega) (by omega) (by omega))) dX1_value_127
            · refine lv_lload hx hb dX1_value_104 (lv_at hl 3 rfl) ?_
              refine zl_const hx hb 0 dX1_value_106 (by decide) ?_
              refine zl_ceq (tgt := 126) hx hb dX1_value_107 dX1_value_108 (by decide) (by omega) (by omega) (fun hc107 => ?_) (fun hc107 => ?_)
              · refine zi_const hx hb (-1) dX1_value_126 ?_
                exact wm_iret hx hb hr hlk hP rfl rfl rfl hS (congrArg (fun z => some (Value.int (iZ z))) (show (vlZ (V 0) f x1 l1 e1 : Int) = (-1) from vl_neg (z := c1) (n := n) (by omega) (by omega) (by omega) (by omega) (by omega))) dX1_value_127
              · refine lv_iload hx hb dX1_value_111 (lv_at hl 7 rfl) ?_
                refine rd_S (As := [.int (iZ c1)]) (rest := []) (st1 := [.int (iZ (xpZ c1))]) S (k_X1_exponent l c1 (by omega)) tb_491 tb_492 tb_2 tb_493 hd_X1_exponent ⟨rfl, rfl, by decide, by decide⟩ bl_T (fun _ _ _ => trivial) rfl hl.1 rfl (Nat.le_of_ble_eq_true rfl) dX1_value_113 ⟨Nat.zero_le _, Nat.zero_le _⟩ rfl ?_
                have hxe116 : xpZ c1 = (if c1 < 4 then 0 else if c1 < 6 then c1 - 6 else c1 - 5) := rfl
                refine zi_fge (tgt := 128) hx hb dX1_value_116 (by decide) (by omega) (fun hc116 => ?_) (fun hc116 => ?_)
                · refine lv_lload hx hb dX1_value_128 (lv_at hl 6 rfl) ?_
                  refine lv_lload hx hb dX1_value_130 (lv_at hl 0 rfl) ?_
                  refine lv_lload hx hb dX1_value_132 (lv_at hl 3 rfl) ?_
                  refine lv_iload hx hb dX1_value_134 (lv_at hl 8 rfl) ?_
                  refine rd_S (As := [.long (lZ v1), .int (iZ n)]) (rest := [.long (lZ v6), .long (lZ y)]) (st1 := [.long (lZ (poZ v1 n)), .long (lZ v6), .long (lZ y)]) S (k_X1_power l v1 n (by omega) (by omega)) tb_536 tb_537 tb_2 tb_538 hd_X1_power ⟨rfl, rfl, by decide, by decide⟩ bl_T (fun _ _ _ => trivial) rfl hl.1 rfl (Nat.le_of_ble_eq_true rfl) dX1_value_136 ⟨Nat.zero_le _, Nat.zero_le _⟩ rfl ?_
                  have hpo139 := poZ_rng v1 n
                  have hvr : 0 ≤ v6 ∧ v6 < 32003 := by omega
                  have hmr := mul_rng hvr (poZ_rng v1 n)
                  refine zl_mul hx hb dX1_value_139 ?_
                  refine zl_ldc hx hb 32003 hown (hT _ tb_448) (by decide) dX1_value_140 ?_
                  refine zl_rem hx hb dX1_value_143 (by omega) (by omega) ?_
                  refine zl_top (fun t17 et17 => ?_)
                  have ht9 : t17 = v6 * poZ v1 n % 32003 := by
                    rw [et17]
                    exact tmP (by omega)
                  refine lv_iload hx hb dX1_value_144 (lv_at hl 7 rfl) ?_
                  refine zi_const hx hb 4 dX1_value_146 ?_
                  refine zi_cge (tgt := 160) hx hb dX1_value_147 (by decide) (by omega) (by omega) (fun hc147 => ?_) (fun hc147 => ?_)
                  · refine lv_lload hx hb dX1_value_160 (lv_at hl 5 rfl) ?_
                    refine lv_iload hx hb dX1_value_162 (lv_at hl 7 rfl) ?_
                    refine rd_S (As := [.int (iZ c1)]) (rest := [.long (lZ v3), .long (lZ t17), .long (lZ y)]) (st1 := [.int (iZ (xpZ c1)), .long (lZ v3), .long (lZ t17), .long (lZ y)]) S (k_X1_exponent l c1 (by omega)) tb_491 tb_492 tb_2 tb_493 hd_X1_exponent ⟨rfl, rfl, by decide, by decide⟩ bl_T (fun _ _ _ => trivial) rfl hl.1 rfl (Nat.le_of_ble_eq_true rfl) dX1_value_164 ⟨Nat.zero_le _, Nat.zero_le _⟩ rfl ?_
                    have hxe167 : xpZ c1 = (if c1 < 4 then 0 else if c1 < 6 then c1 - 6 else c1 - 5) := rfl
                    refine rd_S (As := [.long (lZ v3), .int (iZ (xpZ c1))]) (rest := [.long (lZ t17), .long (lZ y)]) (st1 := [.long (lZ (poZ v3 (xpZ c1))), .long (lZ t17), .long (lZ y)]) S (k_X1_power l v3 (xpZ c1) (by omega) (by omega)) tb_536 tb_537 tb_2 tb_538 hd_X1_power ⟨rfl, rfl, by decide, by decide⟩ bl_T (fun _ _ _ => trivial) rfl hl.1 rfl (Nat.le_of_ble_eq_true rfl) dX1_value_167 ⟨Nat.zero_le _, Nat.zero_le _⟩ rfl ?_
                    have hpo170 := poZ_rng v3 (xpZ c1)
                    refine zl_top (fun w18 ew18 => ?_)
                    have hq9 : w18 = kqZ v2 v3 c1 := by
                      rw [ew18]
                      unfold kqZ
                      first
                        | rw [if_pos (by omega)]
                        | rw [if_neg (by omega)]
                    have hq8 : 0 ≤ w18 ∧ w18 < 32003 := by
                      rw [ew18]
                      exact poZ_rng _ _
                    have hmq := mul_rng (a := t17) (by omega) hq8
                    refine zl_mul hx hb dX1_value_170 ?_
                    refine zl_add hx hb dX1_value_171 ?_
                    refine zl_ldc hx hb 32003 hown (hT _ tb_448) (by decide) dX1_value_172 ?_
                    refine zl_rem hx hb dX1_value_175 (by omega) (by omega) ?_
                    refine zl_top (fun r19 er19 => ?_)
                    have hst : r19 = mvZ (V 0) f v1 v2 v3 (c1 * 9 + (n + 1) + 4).toNat := by
                      rw [er19, tmP (by omega), ht9, hq9, ev6, ← hnv]
                      exact mv_step (by omega) (by omega) hI63.2.2.1
                    refine lv_lstore (lv' := [(14, .long (lZ r19)), (18, .long (lZ v6)), (0, .ref mo), (1, .int (iZ f)), (8, .long (lZ v1)), (10, .long (lZ v2)), (12, .long (lZ v3)), (16, .int (iZ c1)), (17, .int (iZ n))]) hx hb dX1_value_176 hl (by decide) rfl (fun ls hl => ?_)
                    refine zi_inc (lv' := [(17, .int (iZ (n + 1))), (14, .long (lZ r19)), (18, .long (lZ v6)), (0, .ref mo), (1, .int (iZ f)), (8, .long (lZ v1)), (10, .long (lZ v2)), (12, .long (lZ v3)), (16, .int (iZ c1))]) hx hb dX1_value_178 hl (k := 8) rfl (by decide) rfl (fun ls hl => ?_)
                    refine lv_goto (tgt := 63) hx hb dX1_value_181 (by decide) ?_
                    exact ih63 (m63 - 1) (r19, n + 1) (by omega) (by (try dsimp only); exact ⟨by omega, by omega, hst, ok_step (by omega) (by omega) hI63.2.2.2 (Or.inr ⟨by omega, by omega⟩)⟩) ls (lv_sub hl [3, 4, 5, 6, 7, 1, 8, 0] rfl)
                  · refine lv_lload hx hb dX1_value_150 (lv_at hl 4 rfl) ?_
                    refine lv_iload hx hb dX1_value_152 (lv_at hl 7 rfl) ?_
                    refine rd_S (As := [.long (lZ v2), .int (iZ c1)]) (rest := [.long (lZ t17), .long (lZ y)]) (st1 := [.long (lZ (poZ v2 c1)), .long (lZ t17), .long (lZ y)]) S (k_X1_power l v2 c1 (by omega) (by omega)) tb_536 tb_537 tb_2 tb_538 hd_X1_power ⟨rfl, rfl, by decide, by decide⟩ bl_T (fun _ _ _ => trivial) rfl hl.1 rfl (Nat.le_of_ble_eq_true rfl) dX1_value_154 ⟨Nat.zero_le _, Nat.zero_le _⟩ rfl ?_
                    have hpo157 := poZ_rng v2 c1
                    refine lv_goto (tgt := 170) hx hb dX1_value_157 (by decide) ?_
                    refine zl_top (fun w20 ew20 => ?_)
                    have hq9 : w20 = kqZ v2 v3 c1 := by
                      rw [ew20]
                      unfold kqZ
                      first
                        | rw [if_pos (by omega)]
                        | rw [if_neg (by omega)]
                    have hq8 : 0 ≤ w20 ∧ w20 < 32003 := by
                      rw [ew20]
                      exact poZ_rng _ _
                    have hmq := mul_rng (a := t17) (by omega) hq8
                    refine zl_mul hx hb dX1_value_170 ?_
                    refine zl_add hx hb dX1_value_171 ?_
                    refine zl_ldc hx hb 32003 hown (hT _ tb_448) (by decide) dX1_value_172 ?_
                    refine zl_rem hx hb dX1_value_175 (by omega) (by omega) ?_
                    refine zl_top (fun r21 er21 => ?_)
                    have hst : r21 = mvZ (V 0) f v1 v2 v3 (c1 * 9 + (n + 1) + 4).toNat := by
                      rw [er21, tmP (by omega), ht9, hq9, ev6, ← hnv]
                      exact mv_step (by omega) (by omega) hI63.2.2.1
                    refine lv_lstore (lv' := [(14, .long (lZ r21)), (18, .long (lZ v6)), (0, .ref mo), (1, .int (iZ f)), (8, .long (lZ v1)), (10, .long (lZ v2)), (12, .long (lZ v3)), (16, .int (iZ c1)), (17, .int (iZ n))]) hx hb dX1_value_176 hl (by decide) rfl (fun ls hl => ?_)
                    refine zi_inc (lv' := [(17, .int (iZ (n + 1))), (14, .long (lZ r21)), (18, .long (lZ v6)), (0, .ref mo), (1, .int (iZ f)), (8, .long (lZ v1)), (10, .long (lZ v2)), (12, .long (lZ v3)), (16, .int (iZ c1))]) hx hb dX1_value_178 hl (k := 8) rfl (by decide) rfl (fun ls hl => ?_)
                    refine lv_goto (tgt := 63) hx hb dX1_value_181 (by decide) ?_
                    exact ih63 (m63 - 1) (r21, n + 1) (by omega) (by (try dsimp only); exact ⟨by omega, by omega, hst, ok_step (by omega) (by omega) hI63.2.2.2 (Or.inr ⟨by omega, by omega⟩)⟩) ls (lv_sub hl [3, 4, 5, 6, 7, 1, 8, 0] rfl)
                · refine lv_lload hx hb dX1_value_119 (lv_at hl 5 rfl) ?_
                  refine zl_const hx hb 0 dX1_value_121 (by decide) ?_
                  refine zl_cne (tgt := 128) hx hb dX1_value_122 dX1_value_123 (by decide) (by omega) (by omega) (fun hc122 => ?_) (fun hc122 => ?_)
                  · refine lv_lload hx hb dX1_value_128 (lv_at hl 6 rfl) ?_
                    refine lv_lload hx hb dX1_value_130 (lv_at hl 0 rfl) ?_
                    refine lv_lload hx hb dX1_value_132 (lv_at hl 3 rfl) ?_
                    refine lv_iload hx hb dX1_value_134 (lv_at hl 8 rfl) ?_
                    refine rd_S (As := [.long (lZ v1), .int (iZ n)]) (rest := [.long (lZ v6), .long (lZ y)]) (st1 := [.long (lZ (poZ v1 n)), .long (lZ v6), .long (lZ y)]) S (k_X1_power l v1 n (by omega) (by omega)) tb_536 tb_537 tb_2 tb_538 hd_X1_power ⟨rfl, rfl, by decide, by decide⟩ bl_T (fun _ _ _ => trivial) rfl hl.1 rfl (Nat.le_of_ble_eq_true rfl) dX1_value_136 ⟨Nat.zero_le _, Nat.zero_le _⟩ rfl ?_
                    have hpo139 := poZ_rng v1 n
                    have hvr : 0 ≤ v6 ∧ v6 < 32003 := by omega
                    have hmr := mul_rng hvr (poZ_rng v1 n)
                    refine zl_mul hx hb dX1_value_139 ?_
                    refine zl_ldc hx hb 32003 hown (hT _ tb_448) (by decide) dX1_value_140 ?_
                    refine zl_rem hx hb dX1_value_143 (by omega) (by omega) ?_
                    refine zl_top (fun t22 et22 => ?_)
                    have ht9 : t22 = v6 * poZ v1 n % 32003 := by
                      rw [et22]
                      exact tmP (by omega)
                    refine lv_iload hx hb dX1_value_144 (lv_at hl 7 rfl) ?_
                    refine zi_const hx hb 4 dX1_value_146 ?_
                    refine zi_cge (tgt := 160) hx hb dX1_value_147 (by decide) (by omega) (by omega) (fun hc147 => ?_) (fun hc147 => ?_)
                    · refine lv_lload hx hb dX1_value_160 (lv_at hl 5 rfl) ?_
                      refine lv_iload hx hb dX1_value_162 (lv_at hl 7 rfl) ?_
                      refine rd_S (As := [.int (iZ c1)]) (rest := [.long (lZ v3), .long (lZ t22), .long (lZ y)]) (st1 := [.int (iZ (xpZ c1)), .long (lZ v3), .long (lZ t22), .long (lZ y)]) S (k_X1_exponent l c1 (by omega)) tb_491 tb_492 tb_2 tb_493 hd_X1_exponent ⟨rfl, rfl, by decide, by decide⟩ bl_T (fun _ _ _ => trivial) rfl hl.1 rfl (Nat.le_of_ble_eq_true rfl) dX1_value_164 ⟨Nat.zero_le _, Nat.zero_le _⟩ rfl ?_
                      have hxe167 : xpZ c1 = (if c1 < 4 then 0 else if c1 < 6 then c1 - 6 else c1 - 5) := rfl
                      refine rd_S (As := [.long (lZ v3), .int (iZ (xpZ c1))]) (rest := [.long (lZ t22), .long (lZ y)]) (st1 := [.long (lZ (poZ v3 (xpZ c1))), .long (lZ t22), .long (lZ y)]) S (k_X1_power l v3 (xpZ c1) (by omega) (by omega)) tb_536 tb_537 tb_2 tb_538 hd_X1_power ⟨rfl, rfl, by decide, by decide⟩ bl_T (fun _ _ _ => trivial) rfl hl.1 rfl (Nat.le_of_ble_eq_true rfl) dX1_value_167 ⟨Nat.zero_le _, Nat.zero_le _⟩ rfl ?_
                      have hpo170 := poZ_rng v3 (xpZ c1)
                      refine zl_top (fun w23 ew23 => ?_)
                      have hq9 : w23 = kqZ v2 v3 c1 := by
                        rw [ew23]
                        unfold kqZ
                        first
                          | rw [if_pos (by omega)]
                          | rw [if_neg (by omega)]
                      have hq8 : 0 ≤ w23 ∧ w23 < 32003 := by
                        rw [ew23]
                        exact poZ_rng _ _
                      have hmq := mul_rng (a := t22) (by omega) hq8
                      refine zl_mul hx hb dX1_value_170 ?_
                      refine zl_add hx hb dX1_value_171 ?_
                      refine zl_ldc hx hb 32003 hown (hT _ tb_448) (by decide) dX1_value_172 ?_
                      refine zl_rem hx hb dX1_value_175 (by omega) (by omega) ?_
                      refine zl_top (fun r24 er24 => ?_)
                      have hst : r24 = mvZ (V 0) f v1 v2 v3 (c1 * 9 + (n + 1) + 4).toNat := by
                        rw [er24, tmP (by omega), ht9, hq9, ev6, ← hnv]
                        exact mv_step (by omega) (by omega) hI63.2.2.1
                      refine lv_lstore (lv' := [(14, .long (lZ r24)), (18, .long (lZ v6)), (0, .ref mo), (1, .int (iZ f)), (8, .long (lZ v1)), (10, .long (lZ v2)), (12, .long (lZ v3)), (16, .int (iZ c1)), (17, .int (iZ n))]) hx hb dX1_value_176 hl (by decide) rfl (fun ls hl => ?_)
                      refine zi_inc (lv' := [(17, .int (iZ (n + 1))), (14, .long (lZ r24)), (18, .long (lZ v6)), (0, .ref mo), (1, .int (iZ f)), (8, .long (lZ v1)), (10, .long (lZ v2)), (12, .long (lZ v3)), (16, .int (iZ c1))]) hx hb dX1_value_178 hl (k := 8) rfl (by decide) rfl (fun ls hl => ?_)
                      refine lv_goto (tgt := 63) hx hb dX1_value_181 (by decide) ?_
                      exact ih63 (m63 - 1) (r24, n + 1) (by omega) (by (try dsimp only); exact ⟨by omega, by omega, hst, ok_step (by omega) (by omega) hI63.2.2.2 (Or.inr ⟨by omega, by omega⟩)⟩) ls (lv_sub hl [3, 4, 5, 6, 7, 1, 8, 0] rfl)
                    · refine lv_lload hx hb dX1_value_150 (lv_at hl 4 rfl) ?_
                      refine lv_iload hx hb dX1_value_152 (lv_at hl 7 rfl) ?_
                      refine rd_S (As := [.long (lZ v2), .int (iZ c1)]) (rest := [.long (lZ t22), .long (lZ y)]) (st1 := [.long (lZ (poZ v2 c1)), .long (lZ t22), .long (lZ y)]) S (k_X1_power l v2 c1 (by omega) (by omega)) tb_536 tb_537 tb_2 tb_538 hd_X1_power ⟨rfl, rfl, by decide, by decide⟩ bl_T (fun _ _ _ => trivial) rfl hl.1 rfl (Nat.le_of_ble_eq_true rfl) dX1_value_154 ⟨Nat.zero_le _, Nat.zero_le _⟩ rfl ?_
                      have hpo157 := poZ_rng v2 c1
                      refine lv_goto (tgt := 170) hx hb dX1_value_157 (by decide) ?_
                      refine zl_top (fun w25 ew25 => ?_)
                      have hq9 : w25 = kqZ v2 v3 c1 := by
                        rw [ew25]
                        unfold kqZ
                        first
                          | rw [if_pos (by omega)]
                          | rw [if_neg (by omega)]
                      have hq8 : 0 ≤ w25 ∧ w25 < 32003 := by
                        rw [ew25]
                        exact poZ_rng _ _
                      have hmq := mul_rng (a := t22) (by omega) hq8
                      refine zl_mul hx hb dX1_value_170 ?_
                      refine zl_add hx hb dX1_value_171 ?_
                      refine zl_ldc hx hb 32003 hown (hT _ tb_448) (by decide) dX1_value_172 ?_
                      refine zl_rem hx hb dX1_value_175 (by omega) (by omega) ?_
                      refine zl_top (fun r26 er26 => ?_)
                      have hst : r26 = mvZ (V 0) f v1 v2 v3 (c1 * 9 + (n + 1) + 4).toNat := by
                        rw [er26, tmP (by omega), ht9, hq9, ev6, ← hnv]
                        exact mv_step (by omega) (by omega) hI63.2.2.1
                      refine lv_lstore (lv' := [(14, .long (lZ r26)), (18, .long (lZ v6)), (0, .ref mo), (1, .int (iZ f)), (8, .long (lZ v1)), (10, .long (lZ v2)), (12, .long (lZ v3)), (16, .int (iZ c1)), (17, .int (iZ n))]) hx hb dX1_value_176 hl (by decide) rfl (fun ls hl => ?_)
                      refine zi_inc (lv' := [(17, .int (iZ (n + 1))), (14, .long (lZ r26)), (18, .long (lZ v6)), (0, .ref mo), (1, .int (iZ f)), (8, .long (lZ v1)), (10, .long (lZ v2)), (12, .long (lZ v3)), (16, .int (iZ c1))]) hx hb dX1_value_178 hl (k := 8) rfl (by decide) rfl (fun ls hl => ?_)
                      refine lv_goto (tgt := 63) hx hb dX1_value_181 (by decide) ?_
                      exact ih63 (m63 - 1) (r26, n + 1) (by omega) (by (try dsimp only); exact ⟨by omega, by omega, hst, ok_step (by omega) (by omega) hI63.2.2.2 (Or.inr ⟨by omega, by omega⟩)⟩) ls (lv_sub hl [3, 4, 5, 6, 7, 1, 8, 0] rfl)
                  · refine zi_const hx hb (-1) dX1_value_126 ?_
                    exact wm_iret hx hb hr hlk hP rfl rfl rfl hS (congrArg (fun z => some (Value.int (iZ z))) (show (vlZ (V 0) f x1 l1 e1 : Int) = (-1) from vl_neg (z := c1) (n := n) (by omega) (by omega) (by omega) (by omega) (by omega))) dX1_value_127
          · refine lv_goto (tgt := 178) hx hb dX1_value_96 (by decide) ?_
            refine zi_inc (lv' := [(17, .int (iZ (n + 1))), (18, .long (lZ v6)), (0, .ref mo), (1, .int (iZ f)), (8, .long (lZ v1)), (10, .long (lZ v2)), (12, .long (lZ v3)), (14, .long (lZ y)), (16, .int (iZ c1))]) hx hb dX1_value_178 hl (k := 8) rfl (by decide) rfl (fun ls hl => ?_)
            refine lv_goto (tgt := 63) hx hb dX1_value_181 (by decide) ?_
            exact ih63 (m63 - 1) (y, n + 1) (by omega) (by (try dsimp only); exact ⟨by omega, by omega, mv_skip (by omega) (by omega) (by omega) hI63.2.2.1, ok_step (by omega) (by omega) hI63.2.2.2 (Or.inl (by omega))⟩) ls (lv_sub hl [2, 3, 4, 5, 6, 7, 8, 0] rfl)
    · exfalso
      omega
