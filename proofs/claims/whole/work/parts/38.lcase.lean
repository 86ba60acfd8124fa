theorem k9_X1_terms (l : Launch) (D : va_G) (mo : Nat) (na : Nat → Nat) (cI cJ : ClassId) (c0 k : Int) (V : Nat → Nat → Int) (f a : Int) (hd : dM mo na) (hN : ∀ j, 0 ≤ V 0 j ∧ V 0 j < 32003) (hk : 0 ≤ k ∧ k ≤ 60) (hf : 0 ≤ f ∧ f < k) (ha : a = -1) : wm_M l yX1_terms cX1_terms 5 (some .int) ({ frames := 2, cells := 0, slots := 0, locals := 46 }) [.int (iZ f), .int (iZ a)] D mo na cI cJ c0 k V (some (.int (iZ (tmZ (V 0) f a)))) 0 k (fun Z => Z = V) := by
  subst ha
  exact k1_X1_terms l D mo na cI cJ c0 k V f hd hN hk hf
set_option maxHeartbeats 4000000 in
set_option maxRecDepth 100000 in
theorem lc_term (l : Launch) (hl0 : l.stackTraces = false) {p : Program} {e : Env} {s : State} {m : MethodId} {below : List Frame} {meth : Method} {c : Code} {b L : Nat} {xs : Nat → Int32} {A : Nat → Prop} {D : va_G} {o q1 q2 : Nat} {cI cJ : ClassId} {tE tL bo mo : Nat} {na : Nat → Nat} {Q : State → Prop} (E9 : lawE p s m c b L xs A D o q1 q2 cI cJ tE tL bo mo na) {H : Heap} {locs : List Loc} {cells slots : Nat} {ls : Array Slot} (V : Nat → Nat → Int) (G : Nat → Int) (k c0 : Int) (w : Nat → Int) (i : Int) (hk : 0 ≤ k ∧ k ≤ 60) (hN : ∀ j, 0 ≤ V 0 j ∧ V 0 j < 32003) (hG : ∀ j, 0 ≤ G j ∧ G j < 32003) (hP : va_P D vwCl (lX o q1 q2 cI cJ (V 0) G k bo w) H) (hMo : va_P D vwCl (mX mo na cI cJ c0 k V) H) (hS : va_S A s.heap H locs) (hi : 0 ≤ i ∧ i + 8 ≤ L) (hcs : cells + 1 ≤ 1043 ∧ slots + 6 ≤ 17677) (hl : lv_has ls 7 [(0, .ref b), (1, .ref o), (2, .ref mo), (3, .ref bo), (4, .int (iZ i))]) (kk : ∀ (V : Nat → Nat → Int) (G : Nat → Int) (k c0 : Int) (w : Nat → Int) (H : Heap) (locs : List Loc) (ls : Array Slot), 0 ≤ k ∧ k ≤ 60 → (∀ j, 0 ≤ V 0 j ∧ V 0 j < 32003) → (∀ j, 0 ≤ G j ∧ G j < 32003) → va_P D vwCl (lX o q1 q2 cI cJ (V 0) G k bo w) H → va_P D vwCl (mX mo na cI cJ c0 k V) H → va_S A s.heap H locs → lv_has ls 7 [(0, .ref b), (1, .ref o), (2, .ref mo), (3, .ref bo), (4, .int (iZ (i + 8)))] → W p l e room_1 s m #[Value.ref b] below meth c H locs (cells + 1) (slots + 6) Q (F0 m 23 ls [])) : W p l e room_1 s m #[Value.ref b] below meth c H locs cells slots Q (F0 m 108 ls []) := by
  obtain ⟨S, hX, hbl, hbA, hAn, hK, hs, ht, hnc, hA, hMA, hdl, hdm, hcr, hL⟩ := id E9
  obtain ⟨hx, hb, hml, hown, hT⟩ := id S
  obtain ⟨a1, ea1⟩ : ∃ a : Int, a = xZ xs (i + 1) := ⟨_, rfl⟩
  have ra1 := xZ_rng xs (i + 1)
  rw [← ea1] at ra1
  obtain ⟨a2, ea2⟩ : ∃ a : Int, a = xZ xs (i + 2) := ⟨_, rfl⟩
  have ra2 := xZ_rng xs (i + 2)
  rw [← ea2] at ra2
  obtain ⟨a3, ea3⟩ : ∃ a : Int, a = xZ xs (i + 3) := ⟨_, rfl⟩
  have ra3 := xZ_rng xs (i + 3)
  rw [← ea3] at ra3
  obtain ⟨a4, ea4⟩ : ∃ a : Int, a = xZ xs (i + 4) := ⟨_, rfl⟩
  have ra4 := xZ_rng xs (i + 4)
  rw [← ea4] at ra4
  obtain ⟨a5, ea5⟩ : ∃ a : Int, a = xZ xs (i + 5) := ⟨_, rfl⟩
  have ra5 := xZ_rng xs (i + 5)
  rw [← ea5] at ra5
  obtain ⟨a6, ea6⟩ : ∃ a : Int, a = xZ xs (i + 6) := ⟨_, rfl⟩
  have ra6 := xZ_rng xs (i + 6)
  rw [← ea6] at ra6
  obtain ⟨a7, ea7⟩ : ∃ a : Int, a = xZ xs (i + 7) := ⟨_, rfl⟩
  have ra7 := xZ_rng xs (i + 7)
  rw [← ea7] at ra7
  have hv3 := orZ_rng (shZ a3) (anZ a4 4294967295)
  by_cases g2 : (0 ≤ a1 ∧ a1 < 8) ∧ (-4 ≤ a2 ∧ a2 ≤ 4)
  · by_cases g4 : k < 60
    · refine lv_aload_n hx hb dL_law_108 rfl (lv_at hl 1 rfl) ?_
      refine lv_aload_n hx hb dL_law_109 rfl (lv_at hl 0 rfl) ?_
      refine lv_iload hx hb dL_law_110 (lv_at hl 4 rfl) ?_
      refine zi_const hx hb 1 dL_law_112 ?_
      refine zi_add hx hb dL_law_113 ?_
      refine lw_ld hx hb hX hbl hbA hS (by omega) ea1 dL_law_114 ?_
      refine lv_aload_n hx hb dL_law_115 rfl (lv_at hl 0 rfl) ?_
      refine lv_iload hx hb dL_law_116 (lv_at hl 4 rfl) ?_
      refine zi_const hx hb 2 dL_law_118 ?_
      refine zi_add hx hb dL_law_119 ?_
      refine lw_ld hx hb hX hbl hbA hS (by omega) ea2 dL_law_120 ?_
      refine lv_aload_n hx hb dL_law_121 rfl (lv_at hl 0 rfl) ?_
      refine lv_iload hx hb dL_law_122 (lv_at hl 4 rfl) ?_
      refine zi_const hx hb 3 dL_law_124 ?_
      refine zi_add hx hb dL_law_125 ?_
      refine lw_ld hx hb hX hbl hbA hS (by omega) ea3 dL_law_126 ?_
      refine zi_i2l hx hb dL_law_127 (by omega) ?_
      refine zi_bi hx hb 32 dL_law_128 (by decide) ?_
      refine zl_shl hx hb dL_law_130 ?_
      refine lv_aload_n hx hb dL_law_131 rfl (lv_at hl 0 rfl) ?_
      refine lv_iload hx hb dL_law_132 (lv_at hl 4 rfl) ?_
      refine zi_const hx hb 4 dL_law_134 ?_
      refine zi_add hx hb dL_law_135 ?_
      refine lw_ld hx hb hX hbl hbA hS (by omega) ea4 dL_law_136 ?_
      refine zi_i2l hx hb dL_law_137 (by omega) ?_
      refine zl_ldc hx hb 4294967295 hown (hT _ tb_547) (by decide) dL_law_138 ?_
      refine zl_and hx hb dL_law_141 ?_
      refine zl_or hx hb dL_law_142 ?_
      refine lv_aload_n hx hb dL_law_143 rfl (lv_at hl 3 rfl) ?_
      refine hl_S (As := [.ref o, .int (iZ a1), .int (iZ a2), .long (lZ (orZ (shZ a3) (anZ a4 4294967295))), .ref bo]) (rest := []) (st1 := [.int (iZ 0)]) S (hl_term_k l D o q1 q2 cI cJ tE tL (V 0) G k bo w hdl a1 a2 (orZ (shZ a3) (anZ a4 4294967295)) (by omega) (by omega) (by omega) (by omega)) tb_33 tb_34 tb_0 tb_35 hd_L_term ⟨rfl, rfl, by decide, by decide⟩ hP hK hs ht hnc hS hA hAn rfl hl.1 rfl (Nat.le_of_ble_eq_true rfl) dL_law_144 ⟨show cells + 0 ≤ 1043 from by omega, show slots + 0 ≤ 17677 from by omega⟩ rfl (fun H locs hP hS hz hkp => ?_)
      have hMo := mX_kept hMo hkp hcr
      refine lv_istore (lv' := [(5, .int (iZ 0)), (0, .ref b), (1, .ref o), (2, .ref mo), (3, .ref bo), (4, .int (iZ i))]) hx hb dL_law_147 hl (by decide) rfl (fun ls hl => ?_)
      refine lv_aload_n hx hb dL_law_149 rfl (lv_at hl 3 rfl) ?_
      refine lv_aload_n hx hb dL_law_150 rfl (lv_at hl 1 rfl) ?_
      refine lv_iload hx hb dL_law_151 (lv_at hl 5 rfl) ?_
      refine zi_const hx hb 1 dL_law_153 ?_
      refine zi_add hx hb dL_law_154 ?_
      refine lw_ld hx hb hX hbl hbA hS (by omega) ea1 dL_law_155 ?_
      refine lv_aload_n hx hb dL_law_156 rfl (lv_at hl 1 rfl) ?_
      refine lv_iload hx hb dL_law_157 (lv_at hl 5 rfl) ?_
      refine zi_const hx hb 2 dL_law_159 ?_
      refine zi_add hx hb dL_law_160 ?_
      refine lw_ld hx hb hX hbl hbA hS (by omega) ea2 dL_law_161 ?_
      refine lv_aload_n hx hb dL_law_162 rfl (lv_at hl 1 rfl) ?_
      refine lv_iload hx hb dL_law_163 (lv_at hl 5 rfl) ?_
      refine zi_const hx hb 3 dL_law_165 ?_
      refine zi_add hx hb dL_law_166 ?_
      refine lw_ld hx hb hX hbl hbA hS (by omega) ea3 dL_law_167 ?_
      refine zi_i2l hx hb dL_law_168 (by omega) ?_
      refine zi_bi hx hb 32 dL_law_169 (by decide) ?_
      refine zl_shl hx hb dL_law_171 ?_
      refine lv_aload_n hx hb dL_law_172 rfl (lv_at hl 1 rfl) ?_
      refine lv_iload hx hb dL_law_173 (lv_at hl 5 rfl) ?_
      refine zi_const hx hb 4 dL_law_175 ?_
      refine zi_add hx hb dL_law_176 ?_
      refine lw_ld hx hb hX hbl hbA hS (by omega) ea4 dL_law_177 ?_
      refine zi_i2l hx hb dL_law_178 (by omega) ?_
      refine zl_ldc hx hb 4294967295 hown (hT _ tb_547) (by decide) dL_law_179 ?_
      refine zl_and hx hb dL_law_182 ?_
      refine zl_or hx hb dL_law_183 ?_
      refine wm_V (As := [.int (iZ a1), .int (iZ a2), .long (lZ (orZ (shZ a3) (anZ a4 4294967295)))]) (rest := []) (st1 := [.int (iZ k)]) (c1 := 0) (k1 := (k + 1)) S (k_X1_term l D mo na cI cJ c0 k V a1 a2 (orZ (shZ a3) (anZ a4 4294967295)) hdm (by omega) (by omega) (by omega) (by omega)) tb_432 tb_433 tb_434 tb_2 tb_435 hd_X1_term ⟨rfl, rfl, by decide, by decide⟩ hMo hK hS hMA hAn rfl hl.1 rfl (Nat.le_of_ble_eq_true rfl) dL_law_184 ⟨show cells ≤ 1043 from by omega, show slots ≤ 17677 from by omega⟩ rfl (fun V1 H locs hR hMo hS hz hkp => ?_)
      have hP := lX_kept hP hkp hcr
      refine lv_istore (lv' := [(6, .int (iZ k)), (5, .int (iZ 0)), (0, .ref b), (1, .ref o), (2, .ref mo), (3, .ref bo), (4, .int (iZ i))]) hx hb dL_law_187 hl (by decide) rfl (fun ls hl => ?_)
      refine lv_aload_n hx hb dL_law_189 rfl (lv_at hl 4 rfl) ?_
      refine rd_V (As := []) (rest := []) (st1 := [.int (iZ 0)]) S (k_X1_thrown l D mo na cI cJ 0 ((k + 1)) V1) tb_428 tb_429 tb_430 tb_2 tb_431 hd_X1_thrown ⟨rfl, rfl, by decide, by decide⟩ rM_bl (rM_mv hMo hK) (va_recv hK hMo (ci := 1) (q0 := 0) rfl rfl) rfl hl.1 rfl (Nat.le_of_ble_eq_true rfl) dL_law_190 ⟨show cells ≤ 1043 from by omega, show slots ≤ 17677 from by omega⟩ rfl ?_
      refine lv_iload hx hb dL_law_193 (lv_at hl 1 rfl) ?_
      refine zi_ceq (tgt := 200) hx hb dL_law_195 (by decide) (by omega) (by omega) (fun hc195 => ?_) (fun hc195 => ?_)
      · refine lv_iload hx hb dL_law_200 (lv_at hl 1 rfl) ?_
        refine zi_fne (tgt := 217) hx hb dL_law_202 (by decide) (by omega) (fun hc202 => ?_) (fun hc202 => ?_)
        · exfalso
          omega
        · refine lv_aload_n hx hb dL_law_205 rfl (lv_at hl 5 rfl) ?_
          refine zi_const hx hb 0 dL_law_206 ?_
          refine lw_ot hx hb hK hP (a := k) rfl dL_law_207 ?_
          refine lv_iload hx hb dL_law_208 (lv_at hl 0 rfl) ?_
          refine zi_i2l hx hb dL_law_210 (by omega) ?_
          refine zl_ceq (tgt := 217) hx hb dL_law_211 dL_law_212 (by decide) (by omega) (by omega) (fun hc211 => ?_) (fun hc211 => ?_)
          · refine lv_goto (tgt := 1144) hx hb dL_law_217 (by decide) ?_
            refine zi_inc (lv' := [(4, .int (iZ (i + 8))), (6, .int (iZ k)), (5, .int (iZ 0)), (0, .ref b), (1, .ref o), (2, .ref mo), (3, .ref bo)]) hx hb dL_law_1144 hl (k := 6) rfl (by decide) rfl (fun ls hl => ?_)
            refine lv_goto (tgt := 23) hx hb dL_law_1147 (by decide) ?_
            have hF9 : fiZ (V 0) (k * 72).toNat 72 (tgZ a1 a2 (orZ (shZ a3) (anZ a4 4294967295))) = V1 0 := row_eq (by omega) hR.1 hR.2
            have hN9 : ∀ j, 0 ≤ V1 0 j ∧ V1 0 j < 32003 := by
              rw [← hF9]
              exact fi_rng hN (fun j => tgZ_rng _ _ _ j)
            refine W.widen (k := cells + 1) (n := slots + 6) (by omega) (by omega) ?_
            exact kk V1 G (k + 1) 0 (uZ w 0 k) H locs ls (by omega) hN9 hG (lX_F hP hF9) hMo hS (lv_sub hl [3, 4, 5, 6, 0] rfl)
          · refine zi_const hx hb 0 dL_law_215 ?_
            exfalso
            omega
      · exfalso
        omega
    · refine lv_aload_n hx hb dL_law_108 rfl (lv_at hl 1 rfl) ?_
      refine lv_aload_n hx hb dL_law_109 rfl (lv_at hl 0 rfl) ?_
      refine lv_iload hx hb dL_law_110 (lv_at hl 4 rfl) ?_
      refine zi_const hx hb 1 dL_law_112 ?_
      refine zi_add hx hb dL_law_113 ?_
      refine lw_ld hx hb hX hbl hbA hS (by omega) ea1 dL_law_114 ?_
      refine lv_aload_n hx hb dL_law_115 rfl (lv_at hl 0 rfl) ?_
      refine lv_iload hx hb dL_law_116 (lv_at hl 4 rfl) ?_
      refine zi_const hx hb 2 dL_law_118 ?_
      refine zi_add hx hb dL_law_119 ?_
      refine lw_ld hx hb hX hbl hbA hS (by omega) ea2 dL_law_120 ?_
      refine lv_aload_n hx hb dL_law_121 rfl (lv_at hl 0 rfl) ?_
      refine lv_iload hx hb dL_law_122 (lv_at hl 4 rfl) ?_
      refine zi_const hx hb 3 dL_law_124 ?_
      refine zi_add hx hb dL_law_125 ?_
      refine lw_ld hx hb hX hbl hbA hS (by omega) ea3 dL_law_126 ?_
      refine zi_i2l hx hb dL_law_127 (by omega) ?_
      refine zi_bi hx hb 32 dL_law_128 (by decide) ?_
      refine zl_shl hx hb dL_law_130 ?_
      refine lv_aload_n hx hb dL_law_131 rfl (lv_at hl 0 rfl) ?_
      refine lv_iload hx hb dL_law_132 (lv_at hl 4 rfl) ?_
      refine zi_const hx hb 4 dL_law_134 ?_
      refine zi_add hx hb dL_law_135 ?_
      refine lw_ld hx hb hX hbl hbA hS (by omega) ea4 dL_law_136 ?_
      refine zi_i2l hx hb dL_law_137 (by omega) ?_
      refine zl_ldc hx hb 4294967295 hown (hT _ tb_547) (by decide) dL_law_138 ?_
      refine zl_and hx hb dL_law_141 ?_
      refine zl_or hx hb dL_law_142 ?_
      refine lv_aload_n hx hb dL_law_143 rfl (lv_at hl 3 rfl) ?_
      refine hl_S (As := [.ref o, .int (iZ a1), .int (iZ a2), .long (lZ (orZ (shZ a3) (anZ a4 4294967295))), .ref bo]) (rest := []) (st1 := [.int (iZ 2)]) S (hl_term_tS l hl0 D o q1 q2 cI cJ tE tL (V 0) G k bo w hdl a1 a2 (orZ (shZ a3) (anZ a4 4294967295)) (by omega) (by omega) (by omega) (by omega)) tb_33 tb_34 tb_0 tb_35 hd_L_term ⟨rfl, rfl, by decide, by decide⟩ hP hK hs ht hnc hS hA hAn rfl hl.1 rfl (Nat.le_of_ble_eq_true rfl) dL_law_144 ⟨show cells + 1 ≤ 1043 from by omega, show slots + 6 ≤ 17677 from by omega⟩ rfl (fun H locs hP hS hz hkp => ?_)
      have hMo := mX_kept hMo hkp hcr
      refine lv_istore (lv' := [(5, .int (iZ 2)), (0, .ref b), (1, .ref o), (2, .ref mo), (3, .ref bo), (4, .int (iZ i))]) hx hb dL_law_147 hl (by decide) rfl (fun ls hl => ?_)
      refine lv_aload_n hx hb dL_law_149 rfl (lv_at hl 3 rfl) ?_
      refine lv_aload_n hx hb dL_law_150 rfl (lv_at hl 1 rfl) ?_
      refine lv_iload hx hb dL_law_151 (lv_at hl 5 rfl) ?_
      refine zi_const hx hb 1 dL_law_153 ?_
      refine zi_add hx hb dL_law_154 ?_
      refine lw_ld hx hb hX hbl hbA hS (by omega) ea1 dL_law_155 ?_
      refine lv_aload_n hx hb dL_law_156 rfl (lv_at hl 1 rfl) ?_
      refine lv_iload hx hb dL_law_157 (lv_at hl 5 rfl) ?_
      refine zi_const hx hb 2 dL_law_159 ?_
      refine zi_add hx hb dL_law_160 ?_
      refine lw_ld hx hb hX hbl hbA hS (by omega) ea2 dL_law_161 ?_
      refine lv_aload_n hx hb dL_law_162 rfl (lv_at hl 1 rfl) ?_
      refine lv_iload hx hb dL_law_163 (lv_at hl 5 rfl) ?_
      refine zi_const hx hb 3 dL_law_165 ?_
      refine zi_add hx hb dL_law_166 ?_
      refine lw_ld hx hb hX hbl hbA hS (by omega) ea3 dL_law_167 ?_
      refine zi_i2l hx hb dL_law_168 (by omega) ?_
      refine zi_bi hx hb 32 dL_law_169 (by decide) ?_
      refine zl_shl hx hb dL_law_171 ?_
      refine lv_aload_n hx hb dL_law_172 rfl (lv_at hl 1 rfl) ?_
      refine lv_iload hx hb dL_law_173 (lv_at hl 5 rfl) ?_
      refine zi_const hx hb 4 dL_law_175 ?_
      refine zi_add hx hb dL_law_176 ?_
      refine lw_ld hx hb hX hbl hbA hS (by omega) ea4 dL_law_177 ?_
      refine zi_i2l hx hb dL_law_178 (by omega) ?_
      refine zl_ldc hx hb 4294967295 hown (hT _ tb_547) (by decide) dL_law_179 ?_
      refine zl_and hx hb dL_law_182 ?_
      refine zl_or hx hb dL_law_183 ?_
      refine wm_V (As := [.int (iZ a1), .int (iZ a2), .long (lZ (orZ (shZ a3) (anZ a4 4294967295)))]) (rest := []) (st1 := [.int (iZ 0)]) (c1 := 2) (k1 := k) S (kS_X1_term l D mo na cI cJ c0 k V a1 a2 (orZ (shZ a3) (anZ a4 4294967295)) hdm (by omega) (by omega) (by omega)) tb_432 tb_433 tb_434 tb_2 tb_435 hd_X1_term ⟨rfl, rfl, by decide, by decide⟩ hMo hK hS hMA hAn rfl hl.1 rfl (Nat.le_of_ble_eq_true rfl) dL_law_184 ⟨show cells + 1 ≤ 1043 from by omega, show slots + 6 ≤ 17677 from by omega⟩ rfl (fun V1 H locs hR hMo hS hz hkp => ?_)
      have hP := lX_kept hP hkp hcr
      refine lv_istore (lv' := [(6, .int (iZ 0)), (5, .int (iZ 2)), (0, .ref b), (1, .ref o), (2, .ref mo), (3, .ref bo), (4, .int (iZ i))]) hx hb dL_law_187 hl (by decide) rfl (fun ls hl => ?_)
      refine lv_aload_n hx hb dL_law_189 rfl (lv_at hl 4 rfl) ?_
      refine rd_V (As := []) (rest := []) (st1 := [.int (iZ 2)]) S (k_X1_thrown l D mo na cI cJ 2 k V1) tb_428 tb_429 tb_430 tb_2 tb_431 hd_X1_thrown ⟨rfl, rfl, by decide, by decide⟩ rM_bl (rM_mv hMo hK) (va_recv hK hMo (ci := 1) (q0 := 0) rfl rfl) rfl hl.1 rfl (Nat.le_of_ble_eq_true rfl) dL_law_190 ⟨show cells + 1 ≤ 1043 from by omega, show slots + 6 ≤ 17677 from by omega⟩ rfl ?_
      refine lv_iload hx hb dL_law_193 (lv_at hl 1 rfl) ?_
      refine zi_ceq (tgt := 200) hx hb dL_law_195 (by decide) (by omega) (by omega) (fun hc195 => ?_) (fun hc195 => ?_)
      · refine lv_iload hx hb dL_law_200 (lv_at hl 1 rfl) ?_
        refine zi_fne (tgt := 217) hx hb dL_law_202 (by decide) (by omega) (fun hc202 => ?_) (fun hc202 => ?_)
        · refine lv_goto (tgt := 1144) hx hb dL_law_217 (by decide) ?_
          refine zi_inc (lv' := [(4, .int (iZ (i + 8))), (6, .int (iZ 0)), (5, .int (iZ 2)), (0, .ref b), (1, .ref o), (2, .ref mo), (3, .ref bo)]) hx hb dL_law_1144 hl (k := 6) rfl (by decide) rfl (fun ls hl => ?_)
          refine lv_goto (tgt := 23) hx hb dL_law_1147 (by decide) ?_
          have hF9 : V 0 = V1 0 := (congrFun hR 0).symm
          have hN9 : ∀ j, 0 ≤ V1 0 j ∧ V1 0 j < 32003 := by
            rw [← hF9]
            exact hN
          exact kk V1 G k 2 w H locs ls (by omega) hN9 hG (lX_F hP hF9) hMo hS (lv_sub hl [3, 4, 5, 6, 0] rfl)
        · exfalso
          omega
      · exfalso
        omega
  · refine lv_aload_n hx hb dL_law_108 rfl (lv_at hl 1 rfl) ?_
    refine lv_aload_n hx hb dL_law_109 rfl (lv_at hl 0 rfl) ?_
    refine lv_iload hx hb dL_law_110 (lv_at hl 4 rfl) ?_
    refine zi_const hx hb 1 dL_law_112 ?_
    refine zi_add hx hb dL_law_113 ?_
    refine lw_ld hx hb hX hbl hbA hS (by omega) ea1 dL_law_114 ?_
    refine lv_aload_n hx hb dL_law_115 rfl (lv_at hl 0 rfl) ?_
    refine lv_iload hx hb dL_law_116 (lv_at hl 4 rfl) ?_
    refine zi_const hx hb 2 dL_law_118 ?_
    refine zi_add hx hb dL_law_119 ?_
    refine lw_ld hx hb hX hbl hbA hS (by omega) ea2 dL_law_120 ?_
    refine lv_aload_n hx hb dL_law_121 rfl (lv_at hl 0 rfl) ?_
    refine lv_iload hx hb dL_law_122 (lv_at hl 4 rfl) ?_
    refine zi_const hx hb 3 dL_law_124 ?_
    refine zi_add hx hb dL_law_125 ?_
    refine lw_ld hx hb hX hbl hbA hS (by omega) ea3 dL_law_126 ?_
    refine zi_i2l hx hb dL_law_127 (by omega) ?_
    refine zi_bi hx hb 32 dL_law_128 (by decide) ?_
    refine zl_shl hx hb dL_law_130 ?_
    refine lv_aload_n hx hb dL_law_131 rfl (lv_at hl 0 rfl) ?_
    refine lv_iload hx hb dL_law_132 (lv_at hl 4 rfl) ?_
    refine zi_const hx hb 4 dL_law_134 ?_
    refine zi_add hx hb dL_law_135 ?_
    refine lw_ld hx hb hX hbl hbA hS (by omega) ea4 dL_law_136 ?_
    refine zi_i2l hx hb dL_law_137 (by omega) ?_
    refine zl_ldc hx hb 4294967295 hown (hT _ tb_547) (by decide) dL_law_138 ?_
    refine zl_and hx hb dL_law_141 ?_
    refine zl_or hx hb dL_law_142 ?_
    refine lv_aload_n hx hb dL_law_143 rfl (lv_at hl 3 rfl) ?_
    refine hl_S (As := [.ref o, .int (iZ a1), .int (iZ a2), .long (lZ (orZ (shZ a3) (anZ a4 4294967295))), .ref bo]) (rest := []) (st1 := [.int (iZ 1)]) S (hl_term_tA l hl0 D o q1 q2 cI cJ tE tL (V 0) G k bo w hdl a1 a2 (orZ (shZ a3) (anZ a4 4294967295)) (by omega) (by omega) (by omega) (by omega)) tb_33 tb_34 tb_0 tb_35 hd_L_term ⟨rfl, rfl, by decide, by decide⟩ hP hK hs ht hnc hS hA hAn rfl hl.1 rfl (Nat.le_of_ble_eq_true rfl) dL_law_144 ⟨show cells + 1 ≤ 1043 from by omega, show slots + 6 ≤ 17677 from by omega⟩ rfl (fun H locs hP hS hz hkp => ?_)
    have hMo := mX_kept hMo hkp hcr
    refine lv_istore (lv' := [(5, .int (iZ 1)), (0, .ref b), (1, .ref o), (2, .ref mo), (3, .ref bo), (4, .int (iZ i))]) hx hb dL_law_147 hl (by decide) rfl (fun ls hl => ?_)
    refine lv_aload_n hx hb dL_law_149 rfl (lv_at hl 3 rfl) ?_
    refine lv_aload_n hx hb dL_law_150 rfl (lv_at hl 1 rfl) ?_
    refine lv_iload hx hb dL_law_151 (lv_at hl 5 rfl) ?_
    refine zi_const hx hb 1 dL_law_153 ?_
    refine zi_add hx hb dL_law_154 ?_
    refine lw_ld hx hb hX hbl hbA hS (by omega) ea1 dL_law_155 ?_
    refine lv_aload_n hx hb dL_law_156 rfl (lv_at hl 1 rfl) ?_
    refine lv_iload hx hb dL_law_157 (lv_at hl 5 rfl) ?_
    refine zi_const hx hb 2 dL_law_159 ?_
    refine zi_add hx hb dL_law_160 ?_
    refine lw_ld hx hb hX hbl hbA hS (by omega) ea2 dL_law_161 ?_
    refine lv_aload_n hx hb dL_law_162 rfl (lv_at hl 1 rfl) ?_
    refine lv_iload hx hb dL_law_163 (lv_at hl 5 rfl) ?_
    refine zi_const hx hb 3 dL_law_165 ?_
    refine zi_add hx hb dL_law_166 ?_
    refine lw_ld hx hb hX hbl hbA hS (by omega) ea3 dL_law_167 ?_
    refine zi_i2l hx hb dL_law_168 (by omega) ?_
    refine zi_bi hx hb 32 dL_law_169 (by decide) ?_
    refine zl_shl hx hb dL_law_171 ?_
    refine lv_aload_n hx hb dL_law_172 rfl (lv_at hl 1 rfl) ?_
    refine lv_iload hx hb dL_law_173 (lv_at hl 5 rfl) ?_
    refine zi_const hx hb 4 dL_law_175 ?_
    refine zi_add hx hb dL_law_176 ?_
    refine lw_ld hx hb hX hbl hbA hS (by omega) ea4 dL_law_177 ?_
    refine zi_i2l hx hb dL_law_178 (by omega) ?_
    refine zl_ldc hx hb 4294967295 hown (hT _ tb_547) (by decide) dL_law_179 ?_
    refine zl_and hx hb dL_law_182 ?_
    refine zl_or hx hb dL_law_183 ?_
    refine wm_V (As := [.int (iZ a1), .int (iZ a2), .long (lZ (orZ (shZ a3) (anZ a4 4294967295)))]) (rest := []) (st1 := [.int (iZ 0)]) (c1 := 1) (k1 := k) S (kA_X1_term l D mo na cI cJ c0 k V a1 a2 (orZ (shZ a3) (anZ a4 4294967295)) hdm (by omega) (by omega) (by omega) (by omega)) tb_432 tb_433 tb_434 tb_2 tb_435 hd_X1_term ⟨rfl, rfl, by decide, by decide⟩ hMo hK hS hMA hAn rfl hl.1 rfl (Nat.le_of_ble_eq_true rfl) dL_law_184 ⟨show cells + 1 ≤ 1043 from by omega, show slots + 6 ≤ 17677 from by omega⟩ rfl (fun V1 H locs hR hMo hS hz hkp => ?_)
    have hP := lX_kept hP hkp hcr
    refine lv_istore (lv' := [(6, .int (iZ 0)), (5, .int (iZ 1)), (0, .ref b), (1, .ref o), (2, .ref mo), (3, .ref bo), (4, .int (iZ i))]) hx hb dL_law_187 hl (by decide) rfl (fun ls hl => ?_)
    refine lv_aload_n hx hb dL_law_189 rfl (lv_at hl 4 rfl) ?_
    refine rd_V (As := []) (rest := []) (st1 := [.int (iZ 1)]) S (k_X1_thrown l D mo na cI cJ 1 k V1) tb_428 tb_429 tb_430 tb_2 tb_431 hd_X1_thrown ⟨rfl, rfl, by decide, by decide⟩ rM_bl (rM_mv hMo hK) (va_recv hK hMo (ci := 1) (q0 := 0) rfl rfl) rfl hl.1 rfl (Nat.le_of_ble_eq_true rfl) dL_law_190 ⟨show cells + 1 ≤ 1043 from by omega, show slots + 6 ≤ 17677 from by omega⟩ rfl ?_
    refine lv_iload hx hb dL_law_193 (lv_at hl 1 rfl) ?_
    refine zi_ceq (tgt := 200) hx hb dL_law_195 (by decide) (by omega) (by omega) (fun hc195 => ?_) (fun hc195 => ?_)
    · refine lv_iload hx hb dL_law_200 (lv_at hl 1 rfl) ?_
      refine zi_fne (tgt := 217) hx hb dL_law_202 (by decide) (by omega) (fun hc202 => ?_) (fun hc202 => ?_)
      · refine lv_goto (tgt := 1144) hx hb dL_law_217 (by decide) ?_
        refine zi_inc (lv' := [(4, .int (iZ (i + 8))), (6, .int (iZ 0)), (5, .int (iZ 1)), (0, .ref b), (1, .ref o), (2, .ref mo), (3, .ref bo)]) hx hb dL_law_1144 hl (k := 6) rfl (by decide) rfl (fun ls hl => ?_)
        refine lv_goto (tgt := 23) hx hb dL_law_1147 (by decide) ?_
        have hF9 : V 0 = V1 0 := (congrFun hR 0).symm
        have hN9 : ∀ j, 0 ≤ V1 0 j ∧ V1 0 j < 32003 := by
          rw [← hF9]
          exact hN
        exact kk V1 G k 1 w H locs ls (by omega) hN9 hG (lX_F hP hF9) hMo hS (lv_sub hl [3, 4, 5, 6, 0] rfl)
      · exfalso
        omega
    · exfalso
      omega
set_option maxHeartbeats 4000000 in
set_option maxRecDepth 100000 in
theorem lc_add (l : Launch) (hl0 : l.stackTraces = false) {p : Program} {e : Env} {s : State} {m : MethodId} {below : List Frame} {meth : Method} {c : Code} {b L : Nat} {xs : Nat → Int32} {A : Nat → Prop} {D : va_G} {o q1 q2 : Nat} {cI cJ : ClassId} {tE tL bo mo : Nat} {na : Nat → Nat} {Q : State → Prop} (E9 : lawE p s m c b L xs A D o q1 q2 cI cJ tE tL bo mo na) {H : Heap} {locs : List Loc} {cells slots : Nat} {ls : Array Slot} (V : Nat → Nat → Int) (G : Nat → Int) (k c0 : Int) (w : Nat → Int) (i : Int) (hk : 0 ≤ k ∧ k ≤ 60) (hN : ∀ j, 0 ≤ V 0 j ∧ V 0 j < 32003) (hG : ∀ j, 0 ≤ G j ∧ G j < 32003) (hP : va_P D vwCl (lX o q1 q2 cI cJ (V 0) G k bo w) H) (hMo : va_P D vwCl (mX mo na cI cJ c0 k V) H) (hS : va_S A s.heap H locs) (hi : 0 ≤ i ∧ i + 8 ≤ L) (hcs : cells + 1 ≤ 1043 ∧ slots + 6 ≤ 17677) (hl : lv_has ls 7 [(0, .ref b), (1, .ref o), (2, .ref mo), (3, .ref bo), (4, .int (iZ i))]) (kk : ∀ (V : Nat → Nat → Int) (G : Nat → Int) (k c0 : Int) (w : Nat → Int) (H : Heap) (locs : List Loc) (ls : Array Slot), 0 ≤ k ∧ k ≤ 60 → (∀ j, 0 ≤ V 0 j ∧ V 0 j < 32003) → (∀ j, 0 ≤ G j ∧ G j < 32003) → va_P D vwCl (lX o q1 q2 cI cJ (V 0) G k bo w) H → va_P D vwCl (mX mo na cI cJ c0 k V) H → va_S A s.heap H locs → lv_has ls 7 [(0, .ref b), (1, .ref o), (2, .ref mo), (3, .ref bo), (4, .int (iZ (i + 8)))] → W p l e room_1 s m #[Value.ref b] below meth c H locs (cells + 1) (slots + 6) Q (F0 m 23 ls [])) : W p l e room_1 s m #[Value.ref b] below meth c H locs cells slots Q (F0 m 220 ls []) := by
  obtain ⟨S, hX, hbl, hbA, hAn, hK, hs, ht, hnc, hA, hMA, hdl, hdm, hcr, hL⟩ := id E9
  obtain ⟨hx, hb, hml, hown, hT⟩ := id S
  obtain ⟨a1, ea1⟩ : ∃ a : Int, a = xZ xs (i + 1) := ⟨_, rfl⟩
  have ra1 := xZ_rng xs (i + 1)
  rw [← ea1] at ra1
  obtain ⟨a2, ea2⟩ : ∃ a : Int, a = xZ xs (i + 2) := ⟨_, rfl⟩
  have ra2 := xZ_rng xs (i + 2)
  rw [← ea2] at ra2
  obtain ⟨a3, ea3⟩ : ∃ a : Int, a = xZ xs (i + 3) := ⟨_, rfl⟩
  have ra3 := xZ_rng xs (i + 3)
  rw [← ea3] at ra3
  obtain ⟨a4, ea4⟩ : ∃ a : Int, a = xZ xs (i + 4) := ⟨_, rfl⟩
  have ra4 := xZ_rng xs (i + 4)
  rw [← ea4] at ra4
  obtain ⟨a5, ea5⟩ : ∃ a : Int, a = xZ xs (i + 5) := ⟨_, rfl⟩
  have ra5 := xZ_rng xs (i + 5)
  rw [← ea5] at ra5
  obtain ⟨a6, ea6⟩ : ∃ a : Int, a = xZ xs (i + 6) := ⟨_, rfl⟩
  have ra6 := xZ_rng xs (i + 6)
  rw [← ea6] at ra6
  obtain ⟨a7, ea7⟩ : ∃ a : Int, a = xZ xs (i + 7) := ⟨_, rfl⟩
  have ra7 := xZ_rng xs (i + 7)
  rw [← ea7] at ra7
  by_cases g2 : (0 ≤ a1 ∧ a1 < k) ∧ (0 ≤ a2 ∧ a2 < k)
  · by_cases g4 : k < 60
    · refine lv_aload_n hx hb dL_law_220 rfl (lv_at hl 1 rfl) ?_
      refine lv_aload_n hx hb dL_law_221 rfl (lv_at hl 0 rfl) ?_
      refine lv_iload hx hb dL_law_222 (lv_at hl 4 rfl) ?_
      refine zi_const hx hb 1 dL_law_224 ?_
      refine zi_add hx hb dL_law_225 ?_
      refine lw_ld hx hb hX hbl hbA hS (by omega) ea1 dL_law_226 ?_
      refine lv_aload_n hx hb dL_law_227 rfl (lv_at hl 0 rfl) ?_
      refine lv_iload hx hb dL_law_228 (lv_at hl 4 rfl) ?_
      refine zi_const hx hb 2 dL_law_230 ?_
      refine zi_add hx hb dL_law_231 ?_
      refine lw_ld hx hb hX hbl hbA hS (by omega) ea2 dL_law_232 ?_
      refine lv_aload_n hx hb dL_law_233 rfl (lv_at hl 3 rfl) ?_
      refine hl_S (As := [.ref o, .int (iZ a1), .int (iZ a2), .ref bo]) (rest := []) (st1 := [.int (iZ 0)]) S (hl_add_k l D o q1 q2 cI cJ tE tL (V 0) G k bo w hdl a1 a2 hN (by omega) (by omega) (by omega)) tb_165 tb_166 tb_0 tb_167 hd_L_add ⟨rfl, rfl, by decide, by decide⟩ hP hK hs ht hnc hS hA hAn rfl hl.1 rfl (Nat.le_of_ble_eq_true rfl) dL_law_234 ⟨show cells + 0 ≤ 1043 from by omega, show slots + 0 ≤ 17677 from by omega⟩ rfl (fun H locs hP hS hz hkp => ?_)
      have hMo := mX_kept hMo hkp hcr
      refine lv_istore (lv' := [(5, .int (iZ 0)), (0, .ref b), (1, .ref o), (2, .ref mo), (3, .ref bo), (4, .int (iZ i))]) hx hb dL_law_237 hl (by decide) rfl (fun ls hl => ?_)
      refine lv_aload_n hx hb dL_law_239 rfl (lv_at hl 3 rfl) ?_
      refine lv_aload_n hx hb dL_law_240 rfl (lv_at hl 1 rfl) ?_
      refine lv_iload hx hb dL_law_241 (lv_at hl 5 rfl) ?_
      refine zi_const hx hb 1 dL_law_243 ?_
      refine zi_add hx hb dL_law_244 ?_
      refine lw_ld hx hb hX hbl hbA hS (by omega) ea1 dL_law_245 ?_
      refine lv_aload_n hx hb dL_law_246 rfl (lv_at hl 1 rfl) ?_
      refine lv_iload hx hb dL_law_247 (lv_at hl 5 rfl) ?_
      refine zi_const hx hb 2 dL_law_249 ?_
      refine zi_add hx hb dL_law_250 ?_
      refine lw_ld hx hb hX hbl hbA hS (by omega) ea2 dL_law_251 ?_
      refine wm_V (As := [.int (iZ a1), .int (iZ a2)]) (rest := []) (st1 := [.int (iZ k)]) (c1 := 0) (k1 := (k + 1)) S (k_X1_add l D mo na cI cJ c0 k V a1 a2 hdm hN (by omega) (by omega) (by omega)) tb_453 tb_454 tb_455 tb_2 tb_456 hd_X1_add ⟨rfl, rfl, by decide, by decide⟩ hMo hK hS hMA hAn rfl hl.1 rfl (Nat.le_of_ble_eq_true rfl) dL_law_252 ⟨show cells ≤ 1043 from by omega, show slots ≤ 17677 from by omega⟩ rfl (fun V1 H locs hR hMo hS hz hkp => ?_)
      have hP := lX_kept hP hkp hcr
      refine lv_istore (lv' := [(6, .int (iZ k)), (5, .int (iZ 0)), (0, .ref b), (1, .ref o), (2, .ref mo), (3, .ref bo), (4, .int (iZ i))]) hx hb dL_law_255 hl (by decide) rfl (fun ls hl => ?_)
      refine lv_aload_n hx hb dL_law_257 rfl (lv_at hl 4 rfl) ?_
      refine rd_V (As := []) (rest := []) (st1 := [.int (iZ 0)]) S (k_X1_thrown l D mo na cI cJ 0 ((k + 1)) V1) tb_428 tb_429 tb_430 tb_2 tb_431 hd_X1_thrown ⟨rfl, rfl, by decide, by decide⟩ rM_bl (rM_mv hMo hK) (va_recv hK hMo (ci := 1) (q0 := 0) rfl rfl) rfl hl.1 rfl (Nat.le_of_ble_eq_true rfl) dL_law_258 ⟨show cells ≤ 1043 from by omega, show slots ≤ 17677 from by omega⟩ rfl ?_
      refine lv_iload hx hb dL_law_261 (lv_at hl 1 rfl) ?_
      refine zi_ceq (tgt := 268) hx hb dL_law_263 (by decide) (by omega) (by omega) (fun hc263 => ?_) (fun hc263 => ?_)
      · refine lv_iload hx hb dL_law_268 (lv_at hl 1 rfl) ?_
        refine zi_fne (tgt := 285) hx hb dL_law_270 (by decide) (by omega) (fun hc270 => ?_) (fun hc270 => ?_)
        · exfalso
          omega
        · refine lv_aload_n hx hb dL_law_273 rfl (lv_at hl 5 rfl) ?_
          refine zi_const hx hb 0 dL_law_274 ?_
          refine lw_ot hx hb hK hP (a := k) rfl dL_law_275 ?_
          refine lv_iload hx hb dL_law_276 (lv_at hl 0 rfl) ?_
          refine zi_i2l hx hb dL_law_278 (by omega) ?_
          refine zl_ceq (tgt := 285) hx hb dL_law_279 dL_law_280 (by decide) (by omega) (by omega) (fun hc279 => ?_) (fun hc279 => ?_)
          · refine lv_goto (tgt := 1144) hx hb dL_law_285 (by decide) ?_
            refine zi_inc (lv' := [(4, .int (iZ (i + 8))), (6, .int (iZ k)), (5, .int (iZ 0)), (0, .ref b), (1, .ref o), (2, .ref mo), (3, .ref bo)]) hx hb dL_law_1144 hl (k := 6) rfl (by decide) rfl (fun ls hl => ?_)
            refine lv_goto (tgt := 23) hx hb dL_law_1147 (by decide) ?_
            have hF9 : fiZ (V 0) (k * 72).toNat 72 (fun j => ((V 0) ((a1 * 72).toNat + j) + 1 * (V 0) ((a2 * 72).toNat + j)) % 32003) = V1 0 := row_eq (by omega) hR.1 hR.2
            have hN9 : ∀ j, 0 ≤ V1 0 j ∧ V1 0 j < 32003 := by
              rw [← hF9]
              exact fi_rng hN (fun j => em_rng _)
            refine W.widen (k := cells + 1) (n := slots + 6) (by omega) (by omega) ?_
            exact kk V1 G (k + 1) 0 (uZ w 0 k) H locs ls (by omega) hN9 hG (lX_F hP hF9) hMo hS (lv_sub hl [3, 4, 5, 6, 0] rfl)
          · refine zi_const hx hb 0 dL_law_283 ?_
            exfalso
            omega
      · exfalso
        omega
    · refine lv_aload_n hx hb dL_law_220 rfl (lv_at hl 1 rfl) ?_
      refine lv_aload_n hx hb dL_law_221 rfl (lv_at hl 0 rfl) ?_
      refine lv_iload hx hb dL_law_222 (lv_at hl 4 rfl) ?_
      refine zi_const hx hb 1 dL_law_224 ?_
      refine zi_add hx hb dL_law_225 ?_
      refine lw_ld hx hb hX hbl hbA hS (by omega) ea1 dL_law_226 ?_
      refine lv_aload_n hx hb dL_law_227 rfl (lv_at hl 0 rfl) ?_
      refine lv_iload hx hb dL_law_228 (lv_at hl 4 rfl) ?_
      refine zi_const hx hb 2 dL_law_230 ?_
      refine zi_add hx hb dL_law_231 ?_
      refine lw_ld hx hb hX hbl hbA hS (by omega) ea2 dL_law_232 ?_
      refine lv_aload_n hx hb dL_law_233 rfl (lv_at hl 3 rfl) ?_
      refine hl_S (As := [.ref o, .int (iZ a1), .int (iZ a2), .ref bo]) (rest := []) (st1 := [.int (iZ 2)]) S (hl_add_tS l hl0 D o q1 q2 cI cJ tE tL (V 0) G k bo w hdl a1 a2 (by omega) (by omega) (by omega) (by omega)) tb_165 tb_166 tb_0 tb_167 hd_L_add ⟨rfl, rfl, by decide, by decide⟩ hP hK hs ht hnc hS hA hAn rfl hl.1 rfl (Nat.le_of_ble_eq_true rfl) dL_law_234 ⟨show cells + 1 ≤ 1043 from by omega, show slots + 6 ≤ 17677 from by omega⟩ rfl (fun H locs hP hS hz hkp => ?_)
      have hMo := mX_kept hMo hkp hcr
      refine lv_istore (lv' := [(5, .int (iZ 2)), (0, .ref b), (1, .ref o), (2, .ref mo), (3, .ref bo), (4, .int (iZ i))]) hx hb dL_law_237 hl (by decide) rfl (fun ls hl => ?_)
      refine lv_aload_n hx hb dL_law_239 rfl (lv_at hl 3 rfl) ?_
      refine lv_aload_n hx hb dL_law_240 rfl (lv_at hl 1 rfl) ?_
      refine lv_iload hx hb dL_law_241 (lv_at hl 5 rfl) ?_
      refine zi_const hx hb 1 dL_law_243 ?_
      refine zi_add hx hb dL_law_244 ?_
      refine lw_ld hx hb hX hbl hbA hS (by omega) ea1 dL_law_245 ?_
      refine lv_aload_n hx hb dL_law_246 rfl (lv_at hl 1 rfl) ?_
      refine lv_iload hx hb dL_law_247 (lv_at hl 5 rfl) ?_
      refine zi_const hx hb 2 dL_law_249 ?_
      refine zi_add hx hb dL_law_250 ?_
      refine lw_ld hx hb hX hbl hbA hS (by omega) ea2 dL_law_251 ?_
      refine wm_V (As := [.int (iZ a1), .int (iZ a2)]) (rest := []) (st1 := [.int (iZ 0)]) (c1 := 2) (k1 := k) S (kS_X1_add l D mo na cI cJ c0 k V a1 a2 hdm (by omega) (by omega) (by omega)) tb_453 tb_454 tb_455 tb_2 tb_456 hd_X1_add ⟨rfl, rfl, by decide, by decide⟩ hMo hK hS hMA hAn rfl hl.1 rfl (Nat.le_of_ble_eq_true rfl) dL_law_252 ⟨show cells + 1 ≤ 1043 from by omega, show slots + 6 ≤ 17677 from by omega⟩ rfl (fun V1 H locs hR hMo hS hz hkp => ?_)
      have hP := lX_kept hP hkp hcr
      refine lv_istore (lv' := [(6, .int (iZ 0)), (5, .int (iZ 2)), (0, .ref b), (1, .ref o), (2, .ref mo), (3, .ref bo), (4, .int (iZ i))]) hx hb dL_law_255 hl (by decide) rfl (fun ls hl => ?_)
      refine lv_aload_n hx hb dL_law_257 rfl (lv_at hl 4 rfl) ?_
      refine rd_V (As := []) (rest := []) (st1 := [.int (iZ 2)]) S (k_X1_thrown l D mo na cI cJ 2 k V1) tb_428 tb_429 tb_430 tb_2 tb_431 hd_X1_thrown ⟨rfl, rfl, by decide, by decide⟩ rM_bl (rM_mv hMo hK) (va_recv hK hMo (ci := 1) (q0 := 0) rfl rfl) rfl hl.1 rfl (Nat.le_of_ble_eq_true rfl) dL_law_258 ⟨show cells + 1 ≤ 1043 from by omega, show slots + 6 ≤ 17677 from by omega⟩ rfl ?_
      refine lv_iload hx hb dL_law_261 (lv_at hl 1 rfl) ?_
      refine zi_ceq (tgt := 268) hx hb dL_law_263 (by decide) (by omega) (by omega) (fun hc263 => ?_) (fun hc263 => ?_)
      · refine lv_iload hx hb dL_law_268 (lv_at hl 1 rfl) ?_
        refine zi_fne (tgt := 285) hx hb dL_law_270 (by decide) (by omega) (fun hc270 => ?_) (fun hc270 => ?_)
        · refine lv_goto (tgt := 1144) hx hb dL_law_285 (by decide) ?_
          refine zi_inc (lv' := [(4, .int (iZ (i + 8))), (6, .int (iZ 0)), (5, .int (iZ 2)), (0, .ref b), (1, .ref o), (2, .ref mo), (3, .ref bo)]) hx hb dL_law_1144 hl (k := 6) rfl (by decide) rfl (fun ls hl => ?_)
          refine lv_goto (tgt := 23) hx hb dL_law_1147 (by decide) ?_
          have hF9 : V 0 = V1 0 := (congrFun hR 0).symm
          have hN9 : ∀ j, 0 ≤ V1 0 j ∧ V1 0 j < 32003 := by
            rw [← hF9]
            exact hN
          exact kk V1 G k 2 w H locs ls (by omega) hN9 hG (lX_F hP hF9) hMo hS (lv_sub hl [3, 4, 5, 6, 0] rfl)
        · exfalso
          omega
      · exfalso
        omega
  · refine lv_aload_n hx hb dL_law_220 rfl (lv_at hl 1 rfl) ?_
    refine lv_aload_n hx hb dL_law_221 rfl (lv_at hl 0 rfl) ?_
    refine lv_iload hx hb dL_law_222 (lv_at hl 4 rfl) ?_
    refine zi_const hx hb 1 dL_law_224 ?_
    refine zi_add hx hb dL_law_225 ?_
    refine lw_ld hx hb hX hbl hbA hS (by omega) ea1 dL_law_226 ?_
    refine lv_aload_n hx hb dL_law_227 rfl (lv_at hl 0 rfl) ?_
    refine lv_iload hx hb dL_law_228 (lv_at hl 4 rfl) ?_
    refine zi_const hx hb 2 dL_law_230 ?_
    refine zi_add hx hb dL_law_231 ?_
    refine lw_ld hx hb hX hbl hbA hS (by omega) ea2 dL_law_232 ?_
    refine lv_aload_n hx hb dL_law_233 rfl (lv_at hl 3 rfl) ?_
    refine hl_S (As := [.ref o, .int (iZ a1), .int (iZ a2), .ref bo]) (rest := []) (st1 := [.int (iZ 1)]) S (hl_add_tO l hl0 D o q1 q2 cI cJ tE tL (V 0) G k bo w hdl a1 a2 (by omega) (by omega) (by omega) (by omega)) tb_165 tb_166 tb_0 tb_167 hd_L_add ⟨rfl, rfl, by decide, by decide⟩ hP hK hs ht hnc hS hA hAn rfl hl.1 rfl (Nat.le_of_ble_eq_true rfl) dL_law_234 ⟨show cells + 1 ≤ 1043 from by omega, show slots + 6 ≤ 17677 from by omega⟩ rfl (fun H locs hP hS hz hkp => ?_)
    have hMo := mX_kept hMo hkp hcr
    refine lv_istore (lv' := [(5, .int (iZ 1)), (0, .ref b), (1, .ref o), (2, .ref mo), (3, .ref bo), (4, .int (iZ i))]) hx hb dL_law_237 hl (by decide) rfl (fun ls hl => ?_)
    refine lv_aload_n hx hb dL_law_239 rfl (lv_at hl 3 rfl) ?_
    refine lv_aload_n hx hb dL_law_240 rfl (lv_at hl 1 rfl) ?_
    refine lv_iload hx hb dL_law_241 (lv_at hl 5 rfl) ?_
    refine zi_const hx hb 1 dL_law_243 ?_
    refine zi_add hx hb dL_law_244 ?_
    refine lw_ld hx hb hX hbl hbA hS (by omega) ea1 dL_law_245 ?_
    refine lv_aload_n hx hb dL_law_246 rfl (lv_at hl 1 rfl) ?_
    refine lv_iload hx hb dL_law_247 (lv_at hl 5 rfl) ?_
    refine zi_const hx hb 2 dL_law_249 ?_
    refine zi_add hx hb dL_law_250 ?_
    refine lw_ld hx hb hX hbl hbA hS (by omega) ea2 dL_law_251 ?_
    refine wm_V (As := [.int (iZ a1), .int (iZ a2)]) (rest := []) (st1 := [.int (iZ 0)]) (c1 := 1) (k1 := k) S (kO_X1_add l D mo na cI cJ c0 k V a1 a2 hdm (by omega) (by omega) (by omega) (by omega)) tb_453 tb_454 tb_455 tb_2 tb_456 hd_X1_add ⟨rfl, rfl, by decide, by decide⟩ hMo hK hS hMA hAn rfl hl.1 rfl (Nat.le_of_ble_eq_true rfl) dL_law_252 ⟨show cells + 1 ≤ 1043 from by omega, show slots + 6 ≤ 17677 from by omega⟩ rfl (fun V1 H locs hR hMo hS hz hkp => ?_)
    have hP := lX_kept hP hkp hcr
    refine lv_istore (lv' := [(6, .int (iZ 0)), (5, .int (iZ 1)), (0, .ref b), (1, .ref o), (2, .ref mo), (3, .ref bo), (4, .int (iZ i))]) hx hb dL_law_255 hl (by decide) rfl (fun ls hl => ?_)
    refine lv_aload_n hx hb dL_law_257 rfl (lv_at hl 4 rfl) ?_
    refine rd_V (As := []) (rest := []) (st1 := [.int (iZ 1)]) S (k_X1_thrown l D mo na cI cJ 1 k V1) tb_428 tb_429 tb_430 tb_2 tb_431 hd_X1_thrown ⟨rfl, rfl, by decide, by decide⟩ rM_bl (rM_mv hMo hK) (va_recv hK hMo (ci := 1) (q0 := 0) rfl rfl) rfl hl.1 rfl (Nat.le_of_ble_eq_true rfl) dL_law_258 ⟨show cells + 1 ≤ 1043 from by omega, show slots + 6 ≤ 17677 from by omega⟩ rfl ?_
    refine lv_iload hx hb dL_law_261 (lv_at hl 1 rfl) ?_
    refine zi_ceq (tgt := 268) hx hb dL_law_263 (by decide) (by omega) (by omega) (fun hc263 => ?_) (fun hc263 => ?_)
    · refine lv_iload hx hb dL_law_268 (lv_at hl 1 rfl) ?_
      refine zi_fne (tgt := 285) hx hb dL_law_270 (by decide) (by omega) (fun hc270 => ?_) (fun hc270 => ?_)
      · refine lv_goto (tgt := 1144) hx hb dL_law_285 (by decide) ?_
        refine zi_inc (lv' := [(4, .int (iZ (i + 8))), (6, .int (iZ 0)), (5, .int (iZ 1)), (0, .ref b), (1, .ref o), (2, .ref mo), (3, .ref bo)]) hx hb dL_law_1144 hl (k := 6) rfl (by decide) rfl (fun ls hl => ?_)
        refine lv_goto (tgt := 23) hx hb dL_law_1147 (by decide) ?_
        have hF9 : V 0 = V1 0 := (congrFun hR 0).symm
        have hN9 : ∀ j, 0 ≤ V1 0 j ∧ V1 0 j < 32003 := by
          rw [← hF9]
          exact hN
        exact kk V1 G k 1 w H locs ls (by omega) hN9 hG (lX_F hP hF9) hMo hS (lv_sub hl [3, 4, 5, 6, 0] rfl)
      · exfalso
        omega
    · exfalso
      omega
set_option maxHeartbeats 4000000 in
set_option maxRecDepth 100000 in
theorem lc_less (l : Launch) (hl0 : l.stackTraces = false) {p : Program} {e : Env} {s : State} {m : MethodId} {below : List Frame} {meth : Method} {c : Code} {b L : Nat} {xs : Nat → Int32} {A : Nat → Prop} {D : va_G} {o q1 q2 : Nat} {cI cJ : ClassId} {tE tL bo mo : Nat} {na : Nat → Nat} {Q : State → Prop} (E9 : lawE p s m c b L xs A D o q1 q2 cI cJ tE tL bo mo na) {H : Heap} {locs : List Loc} {cells slots : Nat} {ls : Array Slot} (V : Nat → Nat → Int) (G : Nat → Int) (k c0 : Int) (w : Nat → Int) (i : Int) (hk : 0 ≤ k ∧ k ≤ 60) (hN : ∀ j, 0 ≤ V 0 j ∧ V 0 j < 32003) (hG : ∀ j, 0 ≤ G j ∧ G j < 32003) (hP : va_P D vwCl (lX o q1 q2 cI cJ (V 0) G k bo w) H) (hMo : va_P D vwCl (mX mo na cI cJ c0 k V) H) (hS : va_S A s.heap H locs) (hi : 0 ≤ i ∧ i + 8 ≤ L) (hcs : cells + 1 ≤ 1043 ∧ slots + 6 ≤ 17677) (hl : lv_has ls 7 [(0, .ref b), (1, .ref o), (2, .ref mo), (3, .ref bo), (4, .int (iZ i))]) (kk : ∀ (V : Nat → Nat → Int) (G : Nat → Int) (k c0 : Int) (w : Nat → Int) (H : Heap) (locs : List Loc) (ls : Array Slot), 0 ≤ k ∧ k ≤ 60 → (∀ j, 0 ≤ V 0 j ∧ V 0 j < 32003) → (∀ j, 0 ≤ G j ∧ G j < 32003) → va_P D vwCl (lX o q1 q2 cI cJ (V 0) G k bo w) H → va_P D vwCl (mX mo na cI cJ c0 k V) H → va_S A s.heap H locs → lv_has ls 7 [(0, .ref b), (1, .ref o), (2, .ref mo), (3, .ref bo), (4, .int (iZ (i + 8)))] → W p l e room_1 s m #[Value.ref b] below meth c H locs (cells + 1) (slots + 6) Q (F0 m 23 ls [])) : W p l e room_1 s m #[Value.ref b] below meth c H locs cells slots Q (F0 m 288 ls []) := by
  obtain ⟨S, hX, hbl, hbA, hAn, hK, hs, ht, hnc, hA, hMA, hdl, hdm, hcr, hL⟩ := id E9
  obtain ⟨hx, hb, hml, hown, hT⟩ := id S
  obtain ⟨a1, ea1⟩ : ∃ a : Int, a = xZ xs (i + 1) := ⟨_, rfl⟩
  have ra1 := xZ_rng xs (i + 1)
  rw [← ea1] at ra1
  obtain ⟨a2, ea2⟩ : ∃ a : Int, a = xZ xs (i + 2) := ⟨_, rfl⟩
  have ra2 := xZ_rng xs (i + 2)
  rw [← ea2] at ra2
  obtain ⟨a3, ea3⟩ : ∃ a : Int, a = xZ xs (i + 3) := ⟨_, rfl⟩
  have ra3 := xZ_rng xs (i + 3)
  rw [← ea3] at ra3
  obtain ⟨a4, ea4⟩ : ∃ a : Int, a = xZ xs (i + 4) := ⟨_, rfl⟩
  have ra4 := xZ_rng xs (i + 4)
  rw [← ea4] at ra4
  obtain ⟨a5, ea5⟩ : ∃ a : Int, a = xZ xs (i + 5) := ⟨_, rfl⟩
  have ra5 := xZ_rng xs (i + 5)
  rw [← ea5] at ra5
  obtain ⟨a6, ea6⟩ : ∃ a : Int, a = xZ xs (i + 6) := ⟨_, rfl⟩
  have ra6 := xZ_rng xs (i + 6)
  rw [← ea6] at ra6
  obtain ⟨a7, ea7⟩ : ∃ a : Int, a = xZ xs (i + 7) := ⟨_, rfl⟩
  have ra7 := xZ_rng xs (i + 7)
  rw [← ea7] at ra7
  have hv3 := orZ_rng (shZ a3) (anZ a4 4294967295)
  by_cases g2 : (0 ≤ a1 ∧ a1 < k) ∧ (0 ≤ a2 ∧ a2 < k)
  · by_cases g4 : k < 60
    · refine lv_aload_n hx hb dL_law_288 rfl (lv_at hl 1 rfl) ?_
      refine lv_aload_n hx hb dL_law_289 rfl (lv_at hl 0 rfl) ?_
      refine lv_iload hx hb dL_law_290 (lv_at hl 4 rfl) ?_
      refine zi_const hx hb 1 dL_law_292 ?_
      refine zi_add hx hb dL_law_293 ?_
      refine lw_ld hx hb hX hbl hbA hS (by omega) ea1 dL_law_294 ?_
      refine lv_aload_n hx hb dL_law_295 rfl (lv_at hl 0 rfl) ?_
      refine lv_iload hx hb dL_law_296 (lv_at hl 4 rfl) ?_
      refine zi_const hx hb 2 dL_law_298 ?_
      refine zi_add hx hb dL_law_299 ?_
      refine lw_ld hx hb hX hbl hbA hS (by omega) ea2 dL_law_300 ?_
      refine lv_aload_n hx hb dL_law_301 rfl (lv_at hl 0 rfl) ?_
      refine lv_iload hx hb dL_law_302 (lv_at hl 4 rfl) ?_
      refine zi_const hx hb 3 dL_law_304 ?_
      refine zi_add hx hb dL_law_305 ?_
      refine lw_ld hx hb hX hbl hbA hS (by omega) ea3 dL_law_306 ?_
      refine zi_i2l hx hb dL_law_307 (by omega) ?_
      refine zi_bi hx hb 32 dL_law_308 (by decide) ?_
      refine zl_shl hx hb dL_law_310 ?_
      refine lv_aload_n hx hb dL_law_311 rfl (lv_at hl 0 rfl) ?_
      refine lv_iload hx hb dL_law_312 (lv_at hl 4 rfl) ?_
      refine zi_const hx hb 4 dL_law_314 ?_
      refine zi_add hx hb dL_law_315 ?_
      refine lw_ld hx hb hX hbl hbA hS (by omega) ea4 dL_law_316 ?_
      refine zi_i2l hx hb dL_law_317 (by omega) ?_
      refine zl_ldc hx hb 4294967295 hown (hT _ tb_547) (by decide) dL_law_318 ?_
      refine zl_and hx hb dL_law_321 ?_
      refine zl_or hx hb dL_law_322 ?_
      refine lv_aload_n hx hb dL_law_323 rfl (lv_at hl 3 rfl) ?_
      refine hl_S (As := [.ref o, .int (iZ a1), .int (iZ a2), .long (lZ (orZ (shZ a3) (anZ a4 4294967295))), .ref bo]) (rest := []) (st1 := [.int (iZ 0)]) S (hl_less_k l D o q1 q2 cI cJ tE tL (V 0) G k bo w hdl a1 a2 (orZ (shZ a3) (anZ a4 4294967295)) hN (by omega) (by omega) (by omega) (by omega)) tb_201 tb_202 tb_0 tb_203 hd_L_less ⟨rfl, rfl, by decide, by decide⟩ hP hK hs ht hnc hS hA hAn rfl hl.1 rfl (Nat.le_of_ble_eq_true rfl) dL_law_324 ⟨show cells + 0 ≤ 1043 from by omega, show slots + 0 ≤ 17677 from by omega⟩ rfl (fun H locs hP hS hz hkp => ?_)
      have hMo := mX_kept hMo hkp hcr
      refine lv_istore (lv' := [(5, .int (iZ 0)), (0, .ref b), (1, .ref o), (2, .ref mo), (3, .ref bo), (4, .int (iZ i))]) hx hb dL_law_327 hl (by decide) rfl (fun ls hl => ?_)
      refine lv_aload_n hx hb dL_law_329 rfl (lv_at hl 3 rfl) ?_
      refine lv_aload_n hx hb dL_law_330 rfl (lv_at hl 1 rfl) ?_
      refine lv_iload hx hb dL_law_331 (lv_at hl 5 rfl) ?_
      refine zi_const hx hb 1 dL_law_333 ?_
      refine zi_add hx hb dL_law_334 ?_
      refine lw_ld hx hb hX hbl hbA hS (by omega) ea1 dL_law_335 ?_
      refine lv_aload_n hx hb dL_law_336 rfl (lv_at hl 1 rfl) ?_
      refine lv_iload hx hb dL_law_337 (lv_at hl 5 rfl) ?_
      refine zi_const hx hb 2 dL_law_339 ?_
      refine zi_add hx hb dL_law_340 ?_
      refine lw_ld hx hb hX hbl hbA hS (by omega) ea2 dL_law_341 ?_
      refine lv_aload_n hx hb dL_law_342 rfl (lv_at hl 1 rfl) ?_
      refine lv_iload hx hb dL_law_343 (lv_at hl 5 rfl) ?_
      refine zi_const hx hb 3 dL_law_345 ?_
      refine zi_add hx hb dL_law_346 ?_
      refine lw_ld hx hb hX hbl hbA hS (by omega) ea3 dL_law_347 ?_
      refine zi_i2l hx hb dL_law_348 (by omega) ?_
      refine zi_bi hx hb 32 dL_law_349 (by decide) ?_
      refine zl_shl hx hb dL_law_351 ?_
      refine lv_aload_n hx hb dL_law_352 rfl (lv_at hl 1 rfl) ?_
      refine lv_iload hx hb dL_law_353 (lv_at hl 5 rfl) ?_
      refine zi_const hx hb 4 dL_law_355 ?_
      refine zi_add hx hb dL_law_356 ?_
      refine lw_ld hx hb hX hbl hbA hS (by omega) ea4 dL_law_357 ?_
      refine zi_i2l hx hb dL_law_358 (by omega) ?_
      refine zl_ldc hx hb 4294967295 hown (hT _ tb_547) (by decide) dL_law_359 ?_
      refine zl_and hx hb dL_law_362 ?_
      refine zl_or hx hb dL_law_363 ?_
      refine wm_V (As := [.int (iZ a1), .int (iZ a2), .long (lZ (orZ (shZ a3) (anZ a4 4294967295)))]) (rest := []) (st1 := [.int (iZ k)]) (c1 := 0) (k1 := (k + 1)) S (k_X1_less l D mo na cI cJ c0 k V a1 a2 (orZ (shZ a3) (anZ a4 4294967295)) hdm hN (by omega) (by omega) (by omega) (by omega)) tb_474 tb_459 tb_460 tb_2 tb_461 hd_X1_less ⟨rfl, rfl, by decide, by decide⟩ hMo hK hS hMA hAn rfl hl.1 rfl (Nat.le_of_ble_eq_true rfl) dL_law_364 ⟨show cells ≤ 1043 from by omega, show slots ≤ 17677 from by omega⟩ rfl (fun V1 H locs hR hMo hS hz hkp => ?_)
      have hP := lX_kept hP hkp hcr
      refine lv_istore (lv' := [(6, .int (iZ k)), (5, .int (iZ 0)), (0, .ref b), (1, .ref o), (2, .ref mo), (3, .ref bo), (4, .int (iZ i))]) hx hb dL_law_367 hl (by decide) rfl (fun ls hl => ?_)
      refine lv_aload_n hx hb dL_law_369 rfl (lv_at hl 4 rfl) ?_
      refine rd_V (As := []) (rest := []) (st1 := [.int (iZ 0)]) S (k_X1_thrown l D mo na cI cJ 0 ((k + 1)) V1) tb_428 tb_429 tb_430 tb_2 tb_431 hd_X1_thrown ⟨rfl, rfl, by decide, by decide⟩ rM_bl (rM_mv hMo hK) (va_recv hK hMo (ci := 1) (q0 := 0) rfl rfl) rfl hl.1 rfl (Nat.le_of_ble_eq_true rfl) dL_law_370 ⟨show cells ≤ 1043 from by omega, show slots ≤ 17677 from by omega⟩ rfl ?_
      refine lv_iload hx hb dL_law_373 (lv_at hl 1 rfl) ?_
      refine zi_ceq (tgt := 380) hx hb dL_law_375 (by decide) (by omega) (by omega) (fun hc375 => ?_) (fun hc375 => ?_)
      · refine lv_iload hx hb dL_law_380 (lv_at hl 1 rfl) ?_
        refine zi_fne (tgt := 397) hx hb dL_law_382 (by decide) (by omega) (fun hc382 => ?_) (fun hc382 => ?_)
        · exfalso
          omega
        · refine lv_aload_n hx hb dL_law_385 rfl (lv_at hl 5 rfl) ?_
          refine zi_const hx hb 0 dL_law_386 ?_
          refine lw_ot hx hb hK hP (a := k) rfl dL_law_387 ?_
          refine lv_iload hx hb dL_law_388 (lv_at hl 0 rfl) ?_
          refine zi_i2l hx hb dL_law_390 (by omega) ?_
          refine zl_ceq (tgt := 397) hx hb dL_law_391 dL_law_392 (by decide) (by omega) (by omega) (fun hc391 => ?_) (fun hc391 => ?_)
          · refine lv_goto (tgt := 1144) hx hb dL_law_397 (by decide) ?_
            refine zi_inc (lv' := [(4, .int (iZ (i + 8))), (6, .int (iZ k)), (5, .int (iZ 0)), (0, .ref b), (1, .ref o), (2, .ref mo), (3, .ref bo)]) hx hb dL_law_1144 hl (k := 6) rfl (by decide) rfl (fun ls hl => ?_)
            refine lv_goto (tgt := 23) hx hb dL_law_1147 (by decide) ?_
            have hF9 : fiZ (V 0) (k * 72).toNat 72 (fun j => ((V 0) ((a1 * 72).toNat + j) + (-((orZ (shZ a3) (anZ a4 4294967295)) % 32003) % 32003) * (V 0) ((a2 * 72).toNat + j)) % 32003) = V1 0 := row_eq (by omega) hR.1 hR.2
            have hN9 : ∀ j, 0 ≤ V1 0 j ∧ V1 0 j < 32003 := by
              rw [← hF9]
              exact fi_rng hN (fun j => em_rng _)
            refine W.widen (k := cells + 1) (n := slots + 6) (by omega) (by omega) ?_
            exact kk V1 G (k + 1) 0 (uZ w 0 k) H locs ls (by omega) hN9 hG (lX_F hP hF9) hMo hS (lv_sub hl [3, 4, 5, 6, 0] rfl)
          · refine zi_const hx hb 0 dL_law_395 ?_
            exfalso
            omega
      · exfalso
        omega
    · refine lv_aload_n hx hb dL_law_288 rfl (lv_at hl 1 rfl) ?_
      refine lv_aload_n hx hb dL_law_289 rfl (lv_at hl 0 rfl) ?_
      refine lv_iload hx hb dL_law_290 (lv_at hl 4 rfl) ?_
      refine zi_const hx hb 1 dL_law_292 ?_
      refine zi_add hx hb dL_law_293 ?_
      refine lw_ld hx hb hX hbl hbA hS (by omega) ea1 dL_law_294 ?_
      refine lv_aload_n hx hb dL_law_295 rfl (lv_at hl 0 rfl) ?_
      refine lv_iload hx hb dL_law_296 (lv_at hl 4 rfl) ?_
      refine zi_const hx hb 2 dL_law_298 ?_
      refine zi_add hx hb dL_law_299 ?_
      refine lw_ld hx hb hX hbl hbA hS (by omega) ea2 dL_law_300 ?_
      refine lv_aload_n hx hb dL_law_301 rfl (lv_at hl 0 rfl) ?_
      refine lv_iload hx hb dL_law_302 (lv_at hl 4 rfl) ?_
      refine zi_const hx hb 3 dL_law_304 ?_
      refine zi_add hx hb dL_law_305 ?_
      refine lw_ld hx hb hX hbl hbA hS (by omega) ea3 dL_law_306 ?_
      refine zi_i2l hx hb dL_law_307 (by omega) ?_
      refine zi_bi hx hb 32 dL_law_308 (by decide) ?_
      refine zl_shl hx hb dL_law_310 ?_
      refine lv_aload_n hx hb dL_law_311 rfl (lv_at hl 0 rfl) ?_
      refine lv_iload hx hb dL_law_312 (lv_at hl 4 rfl) ?_
      refine zi_const hx hb 4 dL_law_314 ?_
      refine zi_add hx hb dL_law_315 ?_
      refine lw_ld hx hb hX hbl hbA hS (by omega) ea4 dL_law_316 ?_
      refine zi_i2l hx hb dL_law_317 (by omega) ?_
      refine zl_ldc hx hb 4294967295 hown (hT _ tb_547) (by decide) dL_law_318 ?_
      refine zl_and hx hb dL_law_321 ?_
      refine zl_or hx hb dL_law_322 ?_
      refine lv_aload_n hx hb dL_law_323 rfl (lv_at hl 3 rfl) ?_
      refine hl_S (As := [.ref o, .int (iZ a1), .int (iZ a2), .long (lZ (orZ (shZ a3) (anZ a4 4294967295))), .ref bo]) (rest := []) (st1 := [.int (iZ 2)]) S (hl_less_tS l hl0 D o q1 q2 cI cJ tE tL (V 0) G k bo w hdl a1 a2 (orZ (shZ a3) (anZ a4 4294967295)) (by omega) (by omega) (by omega) (by omega)) tb_201 tb_202 tb_0 tb_203 hd_L_less ⟨rfl, rfl, by decide, by decide⟩ hP hK hs ht hnc hS hA hAn rfl hl.1 rfl (Nat.le_of_ble_eq_true rfl) dL_law_324 ⟨show cells + 1 ≤ 1043 from by omega, show slots + 6 ≤ 17677 from by omega⟩ rfl (fun H locs hP hS hz hkp => ?_)
      have hMo := mX_kept hMo hkp hcr
      refine lv_istore (lv' := [(5, .int (iZ 2)), (0, .ref b), (1, .ref o), (2, .ref mo), (3, .ref bo), (4, .int (iZ i))]) hx hb dL_law_327 hl (by decide) rfl (fun ls hl => ?_)
      refine lv_aload_n hx hb dL_law_329 rfl (lv_at hl 3 rfl) ?_
      refine lv_aload_n hx hb dL_law_330 rfl (lv_at hl 1 rfl) ?_
      refine lv_iload hx hb dL_law_331 (lv_at hl 5 rfl) ?_
      refine zi_const hx hb 1 dL_law_333 ?_
      refine zi_add hx hb dL_law_334 ?_
      refine lw_ld hx hb hX hbl hbA hS (by omega) ea1 dL_law_335 ?_
      refine lv_aload_n hx hb dL_law_336 rfl (lv_at hl 1 rfl) ?_
      refine lv_iload hx hb dL_law_337 (lv_at hl 5 rfl) ?_
      refine zi_const hx hb 2 dL_law_339 ?_
      refine zi_add hx hb dL_law_340 ?_
      refine lw_ld hx hb hX hbl hbA hS (by omega) ea2 dL_law_341 ?_
      refine lv_aload_n hx hb dL_law_342 rfl (lv_at hl 1 rfl) ?_
      refine lv_iload hx hb dL_law_343 (lv_at hl 5 rfl) ?_
      refine zi_const hx hb 3 dL_law_345 ?_
      refine zi_add hx hb dL_law_346 ?_
      refine lw_ld hx hb hX hbl hbA hS (by omega) ea3 dL_law_347 ?_
      refine zi_i2l hx hb dL_law_348 (by omega) ?_
      refine zi_bi hx hb 32 dL_law_349 (by decide) ?_
      refine zl_shl hx hb dL_law_351 ?_
      refine lv_aload_n hx hb dL_law_352 rfl (lv_at hl 1 rfl) ?_
      refine lv_iload hx hb dL_law_353 (lv_at hl 5 rfl) ?_
      refine zi_const hx hb 4 dL_law_355 ?_
      refine zi_add hx hb dL_law_356 ?_
      refine lw_ld hx hb hX hbl hbA hS (by omega) ea4 dL_law_357 ?_
      refine zi_i2l hx hb dL_law_358 (by omega) ?_
      refine zl_ldc hx hb 4294967295 hown (hT _ tb_547) (by decide) dL_law_359 ?_
      refine zl_and hx hb dL_law_362 ?_
      refine zl_or hx hb dL_law_363 ?_
      refine wm_V (As := [.int (iZ a1), .int (iZ a2), .long (lZ (orZ (shZ a3) (anZ a4 4294967295)))]) (rest := []) (st1 := [.int (iZ 0)]) (c1 := 2) (k1 := k) S (kS_X1_less l D mo na cI cJ c0 k V a1 a2 (orZ (shZ a3) (anZ a4 4294967295)) hdm (by omega) (by omega) (by omega) (by omega)) tb_474 tb_459 tb_460 tb_2 tb_461 hd_X1_less ⟨rfl, rfl, by decide, by decide⟩ hMo hK hS hMA hAn rfl hl.1 rfl (Nat.le_of_ble_eq_true rfl) dL_law_364 ⟨show cells + 1 ≤ 1043 from by omega, show slots + 6 ≤ 17677 from by omega⟩ rfl (fun V1 H locs hR hMo hS hz hkp => ?_)
      have hP := lX_kept hP hkp hcr
      refine lv_istore (lv' := [(6, .int (iZ 0)), (5, .int (iZ 2)), (0, .ref b), (1, .ref o), (2, .ref mo), (3, .ref bo), (4, .int (iZ i))]) hx hb dL_law_367 hl (by decide) rfl (fun ls hl => ?_)
      refine lv_aload_n hx hb dL_law_369 rfl (lv_at hl 4 rfl) ?_
      refine rd_V (As := []) (rest := []) (st1 := [.int (iZ 2)]) S (k_X1_thrown l D mo na cI cJ 2 k V1) tb_428 tb_429 tb_430 tb_2 tb_431 hd_X1_thrown ⟨rfl, rfl, by decide, by decide⟩ rM_bl (rM_mv hMo hK) (va_recv hK hMo (ci := 1) (q0 := 0) rfl rfl) rfl hl.1 rfl (Nat.le_of_ble_eq_true rfl) dL_law_370 ⟨show cells + 1 ≤ 1043 from by omega, show slots + 6 ≤ 17677 from by omega⟩ rfl ?_
      refine lv_iload hx hb dL_law_373 (lv_at hl 1 rfl) ?_
      refine zi_ceq (tgt := 380) hx hb dL_law_375 (by decide) (by omega) (by omega) (fun hc375 => ?_) (fun hc375 => ?_)
      · refine lv_iload hx hb dL_law_380 (lv_at hl 1 rfl) ?_
        refine zi_fne (tgt := 397) hx hb dL_law_382 (by decide) (by omega) (fun hc382 => ?_) (fun hc382 => ?_)
        · refine lv_goto (tgt := 1144) hx hb dL_law_397 (by decide) ?_
          refine zi_inc (lv' := [(4, .int (iZ (i + 8))), (6, .int (iZ 0)), (5, .int (iZ 2)), (0, .ref b), (1, .ref o), (2, .ref mo), (3, .ref bo)]) hx hb dL_law_1144 hl (k := 6) rfl (by decide) rfl (fun ls hl => ?_)
          refine lv_goto (tgt := 23) hx hb dL_law_1147 (by decide) ?_
          have hF9 : V 0 = V1 0 := (congrFun hR 0).symm
          have hN9 : ∀ j, 0 ≤ V1 0 j ∧ V1 0 j < 32003 := by
            rw [← hF9]
            exact hN
          exact kk V1 G k 2 w H locs ls (by omega) hN9 hG (lX_F hP hF9) hMo hS (lv_sub hl [3, 4, 5, 6, 0] rfl)
        · exfalso
          omega
      · exfalso
        omega
  · refine lv_aload_n hx hb dL_law_288 rfl (lv_at hl 1 rfl) ?_
    refine lv_aload_n hx hb dL_law_289 rfl (lv_at hl 0 rfl) ?_
    refine lv_iload hx hb dL_law_290 (lv_at hl 4 rfl) ?_
    refine zi_const hx hb 1 dL_law_292 ?_
    refine zi_add hx hb dL_law_293 ?_
    refine lw_ld hx hb hX hbl hbA hS (by omega) ea1 dL_law_294 ?_
    refine lv_aload_n hx hb dL_law_295 rfl (lv_at hl 0 rfl) ?_
    refine lv_iload hx hb dL_law_296 (lv_at hl 4 rfl) ?_
    refine zi_const hx hb 2 dL_law_298 ?_
    refine zi_add hx hb dL_law_299 ?_
    refine lw_ld hx hb hX hbl hbA hS (by omega) ea2 dL_law_300 ?_
    refine lv_aload_n hx hb dL_law_301 rfl (lv_at hl 0 rfl) ?_
    refine lv_iload hx hb dL_law_302 (lv_at hl 4 rfl) ?_
    refine zi_const hx hb 3 dL_law_304 ?_
    refine zi_add hx hb dL_law_305 ?_
    refine lw_ld hx hb hX hbl hbA hS (by omega) ea3 dL_law_306 ?_
    refine zi_i2l hx hb dL_law_307 (by omega) ?_
    refine zi_bi hx hb 32 dL_law_308 (by decide) ?_
    refine zl_shl hx hb dL_law_310 ?_
    refine lv_aload_n hx hb dL_law_311 rfl (lv_at hl 0 rfl) ?_
    refine lv_iload hx hb dL_law_312 (lv_at hl 4 rfl) ?_
    refine zi_const hx hb 4 dL_law_314 ?_
    refine zi_add hx hb dL_law_315 ?_
    refine lw_ld hx hb hX hbl hbA hS (by omega) ea4 dL_law_316 ?_
    refine zi_i2l hx hb dL_law_317 (by omega) ?_
    refine zl_ldc hx hb 4294967295 hown (hT _ tb_547) (by decide) dL_law_318 ?_
    refine zl_and hx hb dL_law_321 ?_
    refine zl_or hx hb dL_law_322 ?_
    refine lv_aload_n hx hb dL_law_323 rfl (lv_at hl 3 rfl) ?_
    refine hl_S (As := [.ref o, .int (iZ a1), .int (iZ a2), .long (lZ (orZ (shZ a3) (anZ a4 4294967295))), .ref bo]) (rest := []) (st1 := [.int (iZ 1)]) S (hl_less_tO l hl0 D o q1 q2 cI cJ tE tL (V 0) G k bo w hdl a1 a2 (orZ (shZ a3) (anZ a4 4294967295)) (by omega) (by omega) (by omega) (by omega)) tb_201 tb_202 tb_0 tb_203 hd_L_less ⟨rfl, rfl, by decide, by decide⟩ hP hK hs ht hnc hS hA hAn rfl hl.1 rfl (Nat.le_of_ble_eq_true rfl) dL_law_324 ⟨show cells + 1 ≤ 1043 from by omega, show slots + 6 ≤ 17677 from by omega⟩ rfl (fun H locs hP hS hz hkp => ?_)
    have hMo := mX_kept hMo hkp hcr
    refine lv_istore (lv' := [(5, .int (iZ 1)), (0, .ref b), (1, .ref o), (2, .ref mo), (3, .ref bo), (4, .int (iZ i))]) hx hb dL_law_327 hl (by decide) rfl (fun ls hl => ?_)
    refine lv_aload_n hx hb dL_law_329 rfl (lv_at hl 3 rfl) ?_
    refine lv_aload_n hx hb dL_law_330 rfl (lv_at hl 1 rfl) ?_
    refine lv_iload hx hb dL_law_331 (lv_at hl 5 rfl) ?_
    refine zi_const hx hb 1 dL_law_333 ?_
    refine zi_add hx hb dL_law_334 ?_
    refine lw_ld hx hb hX hbl hbA hS (by omega) ea1 dL_law_335 ?_
    refine lv_aload_n hx hb dL_law_336 rfl (lv_at hl 1 rfl) ?_
    refine lv_iload hx hb dL_law_337 (lv_at hl 5 rfl) ?_
    refine zi_const hx hb 2 dL_law_339 ?_
    refine zi_add hx hb dL_law_340 ?_
    refine lw_ld hx hb hX hbl hbA hS (by omega) ea2 dL_law_341 ?_
    refine lv_aload_n hx hb dL_law_342 rfl (lv_at hl 1 rfl) ?_
    refine lv_iload hx hb dL_law_343 (lv_at hl 5 rfl) ?_
    refine zi_const hx hb 3 dL_law_345 ?_
    refine zi_add hx hb dL_law_346 ?_
    refine lw_ld hx hb hX hbl hbA hS (by omega) ea3 dL_law_347 ?_
    refine zi_i2l hx hb dL_law_348 (by omega) ?_
    refine zi_bi hx hb 32 dL_law_349 (by decide) ?_
    refine zl_shl hx hb dL_law_351 ?_
    refine lv_aload_n hx hb dL_law_352 rfl (lv_at hl 1 rfl) ?_
    refine lv_iload hx hb dL_law_353 (lv_at hl 5 rfl) ?_
    refine zi_const hx hb 4 dL_law_355 ?_
    refine zi_add hx hb dL_law_356 ?_
    refine lw_ld hx hb hX hbl hbA hS (by omega) ea4 dL_law_357 ?_
    refine zi_i2l hx hb dL_law_358 (by omega) ?_
    refine zl_ldc hx hb 4294967295 hown (hT _ tb_547) (by decide) dL_law_359 ?_
    refine zl_and hx hb dL_law_362 ?_
    refine zl_or hx hb dL_law_363 ?_
    refine wm_V (As := [.int (iZ a1), .int (iZ a2), .long (lZ (orZ (shZ a3) (anZ a4 4294967295)))]) (rest := []) (st1 := [.int (iZ 0)]) (c1 := 1) (k1 := k) S (kO_X1_less l D mo na cI cJ c0 k V a1 a2 (orZ (shZ a3) (anZ a4 4294967295)) hdm (by omega) (by omega) (by omega) (by omega) (by omega)) tb_474 tb_459 tb_460 tb_2 tb_461 hd_X1_less ⟨rfl, rfl, by decide, by decide⟩ hMo hK hS hMA hAn rfl hl.1 rfl (Nat.le_of_ble_eq_true rfl) dL_law_364 ⟨show cells + 1 ≤ 1043 from by omega, show slots + 6 ≤ 17677 from by omega⟩ rfl (fun V1 H locs hR hMo hS hz hkp => ?_)
    have hP := lX_kept hP hkp hcr
    refine lv_istore (lv' := [(6, .int (iZ 0)), (5, .int (iZ 1)), (0, .ref b), (1, .ref o), (2, .ref mo), (3, .ref bo), (4, .int (iZ i))]) hx hb dL_law_367 hl (by decide) rfl (fun ls hl => ?_)
    refine lv_aload_n hx hb dL_law_369 rfl (lv_at hl 4 rfl) ?_
    refine rd_V (As := []) (rest := []) (st1 := [.int (iZ 1)]) S (k_X1_thrown l D mo na cI cJ 1 k V1) tb_428 tb_429 tb_430 tb_2 tb_431 hd_X1_thrown ⟨rfl, rfl, by decide, by decide⟩ rM_bl (rM_mv hMo hK) (va_recv hK hMo (ci := 1) (q0 := 0) rfl rfl) rfl hl.1 rfl (Nat.le_of_ble_eq_true rfl) dL_law_370 ⟨show cells + 1 ≤ 1043 from by omega, show slots + 6 ≤ 17677 from by omega⟩ rfl ?_
    refine lv_iload hx hb dL_law_373 (lv_at hl 1 rfl) ?_
    refine zi_ceq (tgt := 380) hx hb dL_law_375 (by decide) (by omega) (by omega) (fun hc375 => ?_) (fun hc375 => ?_)
    · refine lv_iload hx hb dL_law_380 (lv_at hl 1 rfl) ?_
      refine zi_fne (tgt := 397) hx hb dL_law_382 (by decide) (by omega) (fun hc382 => ?_) (fun hc382 => ?_)
      · refine lv_goto (tgt := 1144) hx hb dL_law_397 (by decide) ?_
        refine zi_inc (lv' := [(4, .int (iZ (i + 8))), (6, .int (iZ 0)), (5, .int (iZ 1)), (0, .ref b), (1, .ref o), (2, .ref mo), (3, .ref bo)]) hx hb dL_law_1144 hl (k := 6) rfl (by decide) rfl (fun ls hl => ?_)
        refine lv_goto (tgt := 23) hx hb dL_law_1147 (by decide) ?_
        have hF9 : V 0 = V1 0 := (congrFun hR 0).symm
        have hN9 : ∀ j, 0 ≤ V1 0 j ∧ V1 0 j < 32003 := by
          rw [← hF9]
          exact hN
        exact kk V1 G k 1 w H locs ls (by omega) hN9 hG (lX_F hP hF9) hMo hS (lv_sub hl [3, 4, 5, 6, 0] rfl)
      · exfalso
        omega
    · exfalso
      omega
set_option maxHeartbeats 4000000 in
set_option maxRecDepth 100000 in
theorem lc_times (l : Launch) (hl0 : l.stackTraces = false) {p : Program} {e : Env} {s : State} {m : MethodId} {below : List Frame} {meth : Method} {c : Code} {b L : Nat} {xs : Nat → Int32} {A : Nat → Prop} {D : va_G} {o q1 q2 : Nat} {cI cJ : ClassId} {tE tL bo mo : Nat} {na : Nat → Nat} {Q : State → Prop} (E9 : lawE p s m c b L xs A D o q1 q2 cI cJ tE tL bo mo na) {H : Heap} {locs : List Loc} {cells slots : Nat} {ls : Array Slot} (V : Nat → Nat → Int) (G : Nat → Int) (k c0 : Int) (w : Nat → Int) (i : Int) (hk : 0 ≤ k ∧ k ≤ 60) (hN : ∀ j, 0 ≤ V 0 j ∧ V 0 j < 32003) (hG : ∀ j, 0 ≤ G j ∧ G j < 32003) (hP : va_P D vwCl (lX o q1 q2 cI cJ (V 0) G k bo w) H) (hMo : va_P D vwCl (mX mo na cI cJ c0 k V) H) (hS : va_S A s.heap H locs) (hi : 0 ≤ i ∧ i + 8 ≤ L) (hcs : cells + 1 ≤ 1043 ∧ slots + 6 ≤ 17677) (hl : lv_has ls 7 [(0, .ref b), (1, .ref o), (2, .ref mo), (3, .ref bo), (4, .int (iZ i))]) (kk : ∀ (V : Nat → Nat → Int) (G : Nat → Int) (k c0 : Int) (w : Nat → Int) (H : Heap) (locs : List Loc) (ls : Array Slot), 0 ≤ k ∧ k ≤ 60 → (∀ j, 0 ≤ V 0 j ∧ V 0 j < 32003) → (∀ j, 0 ≤ G j ∧ G j < 32003) → va_P D vwCl (lX o q1 q2 cI cJ (V 0) G k bo w) H → va_P D vwCl (mX mo na cI cJ c0 k V) H → va_S A s.heap H locs → lv_has ls 7 [(0, .ref b), (1, .ref o), (2, .ref mo), (3, .ref bo), (4, .int (iZ (i + 8)))] → W p l e room_1 s m #[Value.ref b] below meth c H locs (cells + 1) (slots + 6) Q (F0 m 23 ls [])) : W p l e room_1 s m #[Value.ref b] below meth c H locs cells slots Q (F0 m 400 ls []) := by
  obtain ⟨S, hX, hbl, hbA, hAn, hK, hs, ht, hnc, hA, hMA, hdl, hdm, hcr, hL⟩ := id E9
  obtain ⟨hx, hb, hml, hown, hT⟩ := id S
  obtain ⟨a1, ea1⟩ : ∃ a : Int, a = xZ xs (i + 1) := ⟨_, rfl⟩
  have ra1 := xZ_rng xs (i + 1)
  rw [← ea1] at ra1
  obtain ⟨a2, ea2⟩ : ∃ a : Int, a = xZ xs (i + 2) := ⟨_, rfl⟩
  have ra2 := xZ_rng xs (i + 2)
  rw [← ea2] at ra2
  obtain ⟨a3, ea3⟩ : ∃ a : Int, a = xZ xs (i + 3) := ⟨_, rfl⟩
  have ra3 := xZ_rng xs (i + 3)
  rw [← ea3] at ra3
  obtain ⟨a4, ea4⟩ : ∃ a : Int, a = xZ xs (i + 4) := ⟨_, rfl⟩
  have ra4 := xZ_rng xs (i + 4)
  rw [← ea4] at ra4
  obtain ⟨a5, ea5⟩ : ∃ a : Int, a = xZ xs (i + 5) := ⟨_, rfl⟩
  have ra5 := xZ_rng xs (i + 5)
  rw [← ea5] at ra5
  obtain ⟨a6, ea6⟩ : ∃ a : Int, a = xZ xs (i + 6) := ⟨_, rfl⟩
  have ra6 := xZ_rng xs (i + 6)
  rw [← ea6] at ra6
  obtain ⟨a7, ea7⟩ : ∃ a : Int, a = xZ xs (i + 7) := ⟨_, rfl⟩
  have ra7 := xZ_rng xs (i + 7)
  rw [← ea7] at ra7
  by_cases g2 : (0 ≤ a1 ∧ a1 < k) ∧ (0 ≤ a2 ∧ a2 < k)
  · by_cases g4 : k < 60
    · by_cases g6 : lmZ (V 0) a1 a2 = 0 ∧ lmZ (V 0) a2 a1 = 0
      · by_cases g8 : ptZ (spZ (V 0) G a1 a2 72) = 0
        · have f1 := lmZ_or (V 0) a1 a2
          have f2 := lmZ_or (V 0) a2 a1
          have f3 := ptZ_or (spZ (V 0) G a1 a2 72)
          refine lv_aload_n hx hb dL_law_400 rfl (lv_at hl 1 rfl) ?_
          refine lv_aload_n hx hb dL_law_401 rfl (lv_at hl 0 rfl) ?_
          refine lv_iload hx hb dL_law_402 (lv_at hl 4 rfl) ?_
          refine zi_const hx hb 1 dL_law_404 ?_
          refine zi_add hx hb dL_law_405 ?_
          refine lw_ld hx hb hX hbl hbA hS (by omega) ea1 dL_law_406 ?_
          refine lv_aload_n hx hb dL_law_407 rfl (lv_at hl 0 rfl) ?_
          refine lv_iload hx hb dL_law_408 (lv_at hl 4 rfl) ?_
          refine zi_const hx hb 2 dL_law_410 ?_
          refine zi_add hx hb dL_law_411 ?_
          refine lw_ld hx hb hX hbl hbA hS (by omega) ea2 dL_law_412 ?_
          refine lv_aload_n hx hb dL_law_413 rfl (lv_at hl 3 rfl) ?_
          refine hl_S (As := [.ref o, .int (iZ a1), .int (iZ a2), .ref bo]) (rest := []) (st1 := [.int (iZ 0)]) S (hl_times_k l D o q1 q2 cI cJ tE tL (V 0) G k bo w hdl a1 a2 hN hG (by omega) (by omega) (by omega) (by omega) (by omega)) tb_208 tb_209 tb_0 tb_210 hd_L_times ⟨rfl, rfl, by decide, by decide⟩ hP hK hs ht hnc hS hA hAn rfl hl.1 rfl (Nat.le_of_ble_eq_true rfl) dL_law_414 ⟨show cells + 0 ≤ 1043 from by omega, show slots + 0 ≤ 17677 from by omega⟩ rfl (fun H locs hP hS hz hkp => ?_)
          have hMo := mX_kept hMo hkp hcr
          refine lv_istore (lv' := [(5, .int (iZ 0)), (0, .ref b), (1, .ref o), (2, .ref mo), (3, .ref bo), (4, .int (iZ i))]) hx hb dL_law_417 hl (by decide) rfl (fun ls hl => ?_)
          refine lv_aload_n hx hb dL_law_419 rfl (lv_at hl 3 rfl) ?_
          refine lv_aload_n hx hb dL_law_420 rfl (lv_at hl 1 rfl) ?_
          refine lv_iload hx hb dL_law_421 (lv_at hl 5 rfl) ?_
          refine zi_const hx hb 1 dL_law_423 ?_
          refine zi_add hx hb dL_law_424 ?_
          refine lw_ld hx hb hX hbl hbA hS (by omega) ea1 dL_law_425 ?_
          refine lv_aload_n hx hb dL_law_426 rfl (lv_at hl 1 rfl) ?_
          refine lv_iload hx hb dL_law_427 (lv_at hl 5 rfl) ?_
          refine zi_const hx hb 2 dL_law_429 ?_
          refine zi_add hx hb dL_law_430 ?_
          refine lw_ld hx hb hX hbl hbA hS (by omega) ea2 dL_law_431 ?_
          refine wm_V (As := [.int (iZ a1), .int (iZ a2)]) (rest := []) (st1 := [.int (iZ k)]) (c1 := 0) (k1 := (k + 1)) S (k_X1_times l D mo na cI cJ c0 k V a1 a2 hdm G hN (by omega) (by omega) (by omega) (by omega) (by omega)) tb_475 tb_476 tb_477 tb_2 tb_478 hd_X1_times ⟨rfl, rfl, by decide, by decide⟩ hMo hK hS hMA hAn rfl hl.1 rfl (Nat.le_of_ble_eq_true rfl) dL_law_432 ⟨show cells ≤ 1043 from by omega, show slots ≤ 17677 from by omega⟩ rfl (fun V1 H locs hR hMo hS hz hkp => ?_)
          have hP := lX_kept hP hkp hcr
          refine lv_istore (lv' := [(6, .int (iZ k)), (5, .int (iZ 0)), (0, .ref b), (1, .ref o), (2, .ref mo), (3, .ref bo), (4, .int (iZ i))]) hx hb dL_law_435 hl (by decide) rfl (fun ls hl => ?_)
          refine lv_aload_n hx hb dL_law_437 rfl (lv_at hl 4 rfl) ?_
          refine rd_V (As := []) (rest := []) (st1 := [.int (iZ 0)]) S (k_X1_thrown l D mo na cI cJ 0 ((k + 1)) V1) tb_428 tb_429 tb_430 tb_2 tb_431 hd_X1_thrown ⟨rfl, rfl, by decide, by decide⟩ rM_bl (rM_mv hMo hK) (va_recv hK hMo (ci := 1) (q0 := 0) rfl rfl) rfl hl.1 rfl (Nat.le_of_ble_eq_true rfl) dL_law_438 ⟨show cells ≤ 1043 from by omega, show slots ≤ 17677 from by omega⟩ rfl ?_
          refine lv_iload hx hb dL_law_441 (lv_at hl 1 rfl) ?_
          refine zi_ceq (tgt := 448) hx hb dL_law_443 (by decide) (by omega) (by omega) (fun hc443 => ?_) (fun hc443 => ?_)
          · refine lv_iload hx hb dL_law_448 (lv_at hl 1 rfl) ?_
            refine zi_fne (tgt := 465) hx hb dL_law_450 (by decide) (by omega) (fun hc450 => ?_) (fun hc450 => ?_)
            · exfalso
              omega
            · refine lv_aload_n hx hb dL_law_453 rfl (lv_at hl 5 rfl) ?_
              refine zi_const hx hb 0 dL_law_454 ?_
              refine lw_ot hx hb hK hP (a := k) rfl dL_law_455 ?_
              refine lv_iload hx hb dL_law_456 (lv_at hl 0 rfl) ?_
              refine zi_i2l hx hb dL_law_458 (by omega) ?_
              refine zl_ceq (tgt := 465) hx hb dL_law_459 dL_law_460 (by decide) (by omega) (by omega) (fun hc459 => ?_) (fun hc459 => ?_)
              · refine lv_goto (tgt := 1144) hx hb dL_law_465 (by decide) ?_
                refine zi_inc (lv' := [(4, .int (iZ (i + 8))), (6, .int (iZ k)), (5, .int (iZ 0)), (0, .ref b), (1, .ref o), (2, .ref mo), (3, .ref bo)]) hx hb dL_law_1144 hl (k := 6) rfl (by decide) rfl (fun ls hl => ?_)
                refine lv_goto (tgt := 23) hx hb dL_law_1147 (by decide) ?_
                have hF9 : fiZ (V 0) (k * 72).toNat 72 (fun j => wnZ (spZ (V 0) G a1 a2 72) (wkZ (jC j) 0) (jN j)) = V1 0 := row_eq (by omega) hR.1 hR.2
                have hN9 : ∀ j, 0 ≤ V1 0 j ∧ V1 0 j < 32003 := by
                  rw [← hF9]
                  exact fi_rng hN (fun j => wnZ_rng (spZ_rng hG 72) _ _)
                refine W.widen (k := cells + 1) (n := slots + 6) (by omega) (by omega) ?_
                exact kk V1 (spZ (V 0) G a1 a2 72) (k + 1) 0 (uZ w 0 k) H locs ls (by omega) hN9 (spZ_rng hG 72) (lX_F hP hF9) hMo hS (lv_sub hl [3, 4, 5, 6, 0] rfl)
              · refine zi_const hx hb 0 dL_law_463 ?_
                exfalso
                omega
          · exfalso
            omega
        · have f1 := lmZ_or (V 0) a1 a2
          have f2 := lmZ_or (V 0) a2 a1
          have f3 := ptZ_or (spZ (V 0) G a1 a2 72)
          refine lv_aload_n hx hb dL_law_400 rfl (lv_at hl 1 rfl) ?_
          refine lv_aload_n hx hb dL_law_401 rfl (lv_at hl 0 rfl) ?_
          refine lv_iload hx hb dL_law_402 (lv_at hl 4 rfl) ?_
          refine zi_const hx hb 1 dL_law_404 ?_
          refine zi_add hx hb dL_law_405 ?_
          refine lw_ld hx hb hX hbl hbA hS (by omega) ea1 dL_law_406 ?_
          refine lv_aload_n hx hb dL_law_407 rfl (lv_at hl 0 rfl) ?_
          refine lv_iload hx hb dL_law_408 (lv_at hl 4 rfl) ?_
          refine zi_const hx hb 2 dL_law_410 ?_
          refine zi_add hx hb dL_law_411 ?_
          refine lw_ld hx hb hX hbl hbA hS (by omega) ea2 dL_law_412 ?_
          refine lv_aload_n hx hb dL_law_413 rfl (lv_at hl 3 rfl) ?_
          refine hl_S (As := [.ref o, .int (iZ a1), .int (iZ a2), .ref bo]) (rest := []) (st1 := [.int (iZ 2)]) S (hl_times_tw l hl0 D o q1 q2 cI cJ tE tL (V 0) G k bo w hdl a1 a2 hN hG (by omega) (by omega) (by omega) (by omega) (by omega)) tb_208 tb_209 tb_0 tb_210 hd_L_times ⟨rfl, rfl, by decide, by decide⟩ hP hK hs ht hnc hS hA hAn rfl hl.1 rfl (Nat.le_of_ble_eq_true rfl) dL_law_414 ⟨show cells + 1 ≤ 1043 from by omega, show slots + 6 ≤ 17677 from by omega⟩ rfl (fun H locs hP hS hz hkp => ?_)
          have hMo := mX_kept hMo hkp hcr
          refine lv_istore (lv' := [(5, .int (iZ 2)), (0, .ref b), (1, .ref o), (2, .ref mo), (3, .ref bo), (4, .int (iZ i))]) hx hb dL_law_417 hl (by decide) rfl (fun ls hl => ?_)
          refine lv_aload_n hx hb dL_law_419 rfl (lv_at hl 3 rfl) ?_
          refine lv_aload_n hx hb dL_law_420 rfl (lv_at hl 1 rfl) ?_
          refine lv_iload hx hb dL_law_421 (lv_at hl 5 rfl) ?_
          refine zi_const hx hb 1 dL_law_423 ?_
          refine zi_add hx hb dL_law_424 ?_
          refine lw_ld hx hb hX hbl hbA hS (by omega) ea1 dL_law_425 ?_
          refine lv_aload_n hx hb dL_law_426 rfl (lv_at hl 1 rfl) ?_
          refine lv_iload hx hb dL_law_427 (lv_at hl 5 rfl) ?_
          refine zi_const hx hb 2 dL_law_429 ?_
          refine zi_add hx hb dL_law_430 ?_
          refine lw_ld hx hb hX hbl hbA hS (by omega) ea2 dL_law_431 ?_
          refine wm_V (As := [.int (iZ a1), .int (iZ a2)]) (rest := []) (st1 := [.int (iZ 0)]) (c1 := 2) (k1 := k) S (kP_X1_times l D mo na cI cJ c0 k V a1 a2 hdm G hN (by omega) (by omega) (by omega) (by omega) (by omega)) tb_475 tb_476 tb_477 tb_2 tb_478 hd_X1_times ⟨rfl, rfl, by decide, by decide⟩ hMo hK hS hMA hAn rfl hl.1 rfl (Nat.le_of_ble_eq_true rfl) dL_law_432 ⟨show cells + 1 ≤ 1043 from by omega, show slots + 6 ≤ 17677 from by omega⟩ rfl (fun V1 H locs hR hMo hS hz hkp => ?_)
          have hP := lX_kept hP hkp hcr
          refine lv_istore (lv' := [(6, .int (iZ 0)), (5, .int (iZ 2)), (0, .ref b), (1, .ref o), (2, .ref mo), (3, .ref bo), (4, .int (iZ i))]) hx hb dL_law_435 hl (by decide) rfl (fun ls hl => ?_)
          refine lv_aload_n hx hb dL_law_437 rfl (lv_at hl 4 rfl) ?_
          refine rd_V (As := []) (rest := []) (st1 := [.int (iZ 2)]) S (k_X1_thrown l D mo na cI cJ 2 k V1) tb_428 tb_429 tb_430 tb_2 tb_431 hd_X1_thrown ⟨rfl, rfl, by decide, by decide⟩ rM_bl (rM_mv hMo hK) (va_recv hK hMo (ci := 1) (q0 := 0) rfl rfl) rfl hl.1 rfl (Nat.le_of_ble_eq_true rfl) dL_law_438 ⟨show cells + 1 ≤ 1043 from by omega, show slots + 6 ≤ 17677 from by omega⟩ rfl ?_
          refine lv_iload hx hb dL_law_441 (lv_at hl 1 rfl) ?_
          refine zi_ceq (tgt := 448) hx hb dL_law_443 (by decide) (by omega) (by omega) (fun hc443 => ?_) (fun hc443 => ?_)
          · refine lv_iload hx hb dL_law_448 (lv_at hl 1 rfl) ?_
            refine zi_fne (tgt := 465) hx hb dL_law_450 (by decide) (by omega) (fun hc450 => ?_) (fun hc450 => ?_)
            · refine lv_goto (tgt := 1144) hx hb dL_law_465 (by decide) ?_
              refine zi_inc (lv' := [(4, .int (iZ (i + 8))), (6, .int (iZ 0)), (5, .int (iZ 2)), (0, .ref b), (1, .ref o), (2, .ref mo), (3, .ref bo)]) hx hb dL_law_1144 hl (k := 6) rfl (by decide) rfl (fun ls hl => ?_)
              refine lv_goto (tgt := 23) hx hb dL_law_1147 (by decide) ?_
              have hF9 : V 0 = V1 0 := hR.symm
              have hN9 : ∀ j, 0 ≤ V1 0 j ∧ V1 0 j < 32003 := by
                rw [← hF9]
                exact hN
              exact kk V1 (spZ (V 0) G a1 a2 72) k 2 w H locs ls (by omega) hN9 (spZ_rng hG 72) (lX_F hP hF9) hMo hS (lv_sub hl [3, 4, 5, 6, 0] rfl)
            · exfalso
              omega
          · exfalso
            omega
      · have f1 := lmZ_or (V 0) a1 a2
        have f2 := lmZ_or (V 0) a2 a1
        have f3 := ptZ_or (spZ (V 0) G a1 a2 72)
        refine lv_aload_n hx hb dL_law_400 rfl (lv_at hl 1 rfl) ?_
        refine lv_aload_n hx hb dL_law_401 rfl (lv_at hl 0 rfl) ?_
        refine lv_iload hx hb dL_law_402 (lv_at hl 4 rfl) ?_
        refine zi_const hx hb 1 dL_law_404 ?_
        refine zi_add hx hb dL_law_405 ?_
        refine lw_ld hx hb hX hbl hbA hS (by omega) ea1 dL_law_406 ?_
        refine lv_aload_n hx hb dL_law_407 rfl (lv_at hl 0 rfl) ?_
        refine lv_iload hx hb dL_law_408 (lv_at hl 4 rfl) ?_
        refine zi_const hx hb 2 dL_law_410 ?_
        refine zi_add hx hb dL_law_411 ?_
        refine lw_ld hx hb hX hbl hbA hS (by omega) ea2 dL_law_412 ?_
        refine lv_aload_n hx hb dL_law_413 rfl (lv_at hl 3 rfl) ?_
        refine hl_S (As := [.ref o, .int (iZ a1), .int (iZ a2), .ref bo]) (rest := []) (st1 := [.int (iZ 2)]) S (hl_times_tF l hl0 D o q1 q2 cI cJ tE tL (V 0) G k bo w hdl a1 a2 hN (by omega) (by omega) (by omega) (by omega)) tb_208 tb_209 tb_0 tb_210 hd_L_times ⟨rfl, rfl, by decide, by decide⟩ hP hK hs ht hnc hS hA hAn rfl hl.1 rfl (Nat.le_of_ble_eq_true rfl) dL_law_414 ⟨show cells + 1 ≤ 1043 from by omega, show slots + 6 ≤ 17677 from by omega⟩ rfl (fun H locs hP hS hz hkp => ?_)
        have hMo := mX_kept hMo hkp hcr
        refine lv_istore (lv' := [(5, .int (iZ 2)), (0, .ref b), (1, .ref o), (2, .ref mo), (3, .ref bo), (4, .int (iZ i))]) hx hb dL_law_417 hl (by decide) rfl (fun ls hl => ?_)
        refine lv_aload_n hx hb dL_law_419 rfl (lv_at hl 3 rfl) ?_
        refine lv_aload_n hx hb dL_law_420 rfl (lv_at hl 1 rfl) ?_
        refine lv_iload hx hb dL_law_421 (lv_at hl 5 rfl) ?_
        refine zi_const hx hb 1 dL_law_423 ?_
        refine zi_add hx hb dL_law_424 ?_
        refine lw_ld hx hb hX hbl hbA hS (by omega) ea1 dL_law_425 ?_
        refine lv_aload_n hx hb dL_law_426 rfl (lv_at hl 1 rfl) ?_
        refine lv_iload hx hb dL_law_427 (lv_at hl 5 rfl) ?_
        refine zi_const hx hb 2 dL_law_429 ?_
        refine zi_add hx hb dL_law_430 ?_
        refine lw_ld hx hb hX hbl hbA hS (by omega) ea2 dL_law_431 ?_
        refine wm_V (As := [.int (iZ a1), .int (iZ a2)]) (rest := []) (st1 := [.int (iZ 0)]) (c1 := 2) (k1 := k) S (kF_X1_times l D mo na cI cJ c0 k V a1 a2 hdm hN (by omega) (by omega) (by omega) (by omega)) tb_475 tb_476 tb_477 tb_2 tb_478 hd_X1_times ⟨rfl, rfl, by decide, by decide⟩ hMo hK hS hMA hAn rfl hl.1 rfl (Nat.le_of_ble_eq_true rfl) dL_law_432 ⟨show cells + 1 ≤ 1043 from by omega, show slots + 6 ≤ 17677 from by omega⟩ rfl (fun V1 H locs hR hMo hS hz hkp => ?_)
        have hP := lX_kept hP hkp hcr
        refine lv_istore (lv' := [(6, .int (iZ 0)), (5, .int (iZ 2)), (0, .ref b), (1, .ref o), (2, .ref mo), (3, .ref bo), (4, .int (iZ i))]) hx hb dL_law_435 hl (by decide) rfl (fun ls hl => ?_)
        refine lv_aload_n hx hb dL_law_437 rfl (lv_at hl 4 rfl) ?_
        refine rd_V (As := []) (rest := []) (st1 := [.int (iZ 2)]) S (k_X1_thrown l D mo na cI cJ 2 k V1) tb_428 tb_429 tb_430 tb_2 tb_431 hd_X1_thrown ⟨rfl, rfl, by decide, by decide⟩ rM_bl (rM_mv hMo hK) (va_recv hK hMo (ci := 1) (q0 := 0) rfl rfl) rfl hl.1 rfl (Nat.le_of_ble_eq_true rfl) dL_law_438 ⟨show cells + 1 ≤ 1043 from by omega, show slots + 6 ≤ 17677 from by omega⟩ rfl ?_
        refine lv_iload hx hb dL_law_441 (lv_at hl 1 rfl) ?_
        refine zi_ceq (tgt := 448) hx hb dL_law_443 (by decide) (by omega) (by omega) (fun hc443 => ?_) (fun hc443 => ?_)
        · refine lv_iload hx hb dL_law_448 (lv_at hl 1 rfl) ?_
          refine zi_fne (tgt := 465) hx hb dL_law_450 (by decide) (by omega) (fun hc450 => ?_) (fun hc450 => ?_)
          · refine lv_goto (tgt := 1144) hx hb dL_law_465 (by decide) ?_
            refine zi_inc (lv' := [(4, .int (iZ (i + 8))), (6, .int (iZ 0)), (5, .int (iZ 2)), (0, .ref b), (1, .ref o), (2, .ref mo), (3, .ref bo)]) hx hb dL_law_1144 hl (k := 6) rfl (by decide) rfl (fun ls hl => ?_)
            refine lv_goto (tgt := 23) hx hb dL_law_1147 (by decide) ?_
            have hF9 : V 0 = V1 0 := hR.symm
            have hN9 : ∀ j, 0 ≤ V1 0 j ∧ V1 0 j < 32003 := by
              rw [← hF9]
              exact hN
            exact kk V1 G k 2 w H locs ls (by omega) hN9 hG (lX_F hP hF9) hMo hS (lv_sub hl [3, 4, 5, 6, 0] rfl)
          · exfalso
            omega
        · exfalso
          omega
    · have f1 := lmZ_or (V 0) a1 a2
      have f2 := lmZ_or (V 0) a2 a1
      have f3 := ptZ_or (spZ (V 0) G a1 a2 72)
      refine lv_aload_n hx hb dL_law_400 rfl (lv_at hl 1 rfl) ?_
      refine lv_aload_n hx hb dL_law_401 rfl (lv_at hl 0 rfl) ?_
      refine lv_iload hx hb dL_law_402 (lv_at hl 4 rfl) ?_
      refine zi_const hx hb 1 dL_law_404 ?_
      refine zi_add hx hb dL_law_405 ?_
      refine lw_ld hx hb hX hbl hbA hS (by omega) ea1 dL_law_406 ?_
      refine lv_aload_n hx hb dL_law_407 rfl (lv_at hl 0 rfl) ?_
      refine lv_iload hx hb dL_law_408 (lv_at hl 4 rfl) ?_
      refine zi_const hx hb 2 dL_law_410 ?_
      refine zi_add hx hb dL_law_411 ?_
      refine lw_ld hx hb hX hbl hbA hS (by omega) ea2 dL_law_412 ?_
      refine lv_aload_n hx hb dL_law_413 rfl (lv_at hl 3 rfl) ?_
      refine hl_S (As := [.ref o, .int (iZ a1), .int (iZ a2), .ref bo]) (rest := []) (st1 := [.int (iZ 2)]) S (hl_times_tS l hl0 D o q1 q2 cI cJ tE tL (V 0) G k bo w hdl a1 a2 (by omega) (by omega) (by omega) (by omega)) tb_208 tb_209 tb_0 tb_210 hd_L_times ⟨rfl, rfl, by decide, by decide⟩ hP hK hs ht hnc hS hA hAn rfl hl.1 rfl (Nat.le_of_ble_eq_true rfl) dL_law_414 ⟨show cells + 1 ≤ 1043 from by omega, show slots + 6 ≤ 17677 from by omega⟩ rfl (fun H locs hP hS hz hkp => ?_)
      have hMo := mX_kept hMo hkp hcr
      refine lv_istore (lv' := [(5, .int (iZ 2)), (0, .ref b), (1, .ref o), (2, .ref mo), (3, .ref bo), (4, .int (iZ i))]) hx hb dL_law_417 hl (by decide) rfl (fun ls hl => ?_)
      refine lv_aload_n hx hb dL_law_419 rfl (lv_at hl 3 rfl) ?_
      refine lv_aload_n hx hb dL_law_420 rfl (lv_at hl 1 rfl) ?_
      refine lv_iload hx hb dL_law_421 (lv_at hl 5 rfl) ?_
      refine zi_const hx hb 1 dL_law_423 ?_
      refine zi_add hx hb dL_law_424 ?_
      refine lw_ld hx hb hX hbl hbA hS (by omega) ea1 dL_law_425 ?_
      refine lv_aload_n hx hb dL_law_426 rfl (lv_at hl 1 rfl) ?_
      refine lv_iload hx hb dL_law_427 (lv_at hl 5 rfl) ?_
      refine zi_const hx hb 2 dL_law_429 ?_
      refine zi_add hx hb dL_law_430 ?_
      refine lw_ld hx hb hX hbl hbA hS (by omega) ea2 dL_law_431 ?_
      refine wm_V (As := [.int (iZ a1), .int (iZ a2)]) (rest := []) (st1 := [.int (iZ 0)]) (c1 := 2) (k1 := k) S (kS_X1_times l D mo na cI cJ c0 k V a1 a2 hdm (by omega) (by omega) (by omega)) tb_475 tb_476 tb_477 tb_2 tb_478 hd_X1_times ⟨rfl, rfl, by decide, by decide⟩ hMo hK hS hMA hAn rfl hl.1 rfl (Nat.le_of_ble_eq_true rfl) dL_law_432 ⟨show cells + 1 ≤ 1043 from by omega, show slots + 6 ≤ 17677 from by omega⟩ rfl (fun V1 H locs hR hMo hS hz hkp => ?_)
      have hP := lX_kept hP hkp hcr
      refine lv_istore (lv' := [(6, .int (iZ 0)), (5, .int (iZ 2)), (0, .ref b), (1, .ref o), (2, .ref mo), (3, .ref bo), (4, .int (iZ i))]) hx hb dL_law_435 hl (by decide) rfl (fun ls hl => ?_)
      refine lv_aload_n hx hb dL_law_437 rfl (lv_at hl 4 rfl) ?_
      refine rd_V (As := []) (rest := []) (st1 := [.int (iZ 2)]) S (k_X1_thrown l D mo na cI cJ 2 k V1) tb_428 tb_429 tb_430 tb_2 tb_431 hd_X1_thrown ⟨rfl, rfl, by decide, by decide⟩ rM_bl (rM_mv hMo hK) (va_recv hK hMo (ci := 1) (q0 := 0) rfl rfl) rfl hl.1 rfl (Nat.le_of_ble_eq_true rfl) dL_law_438 ⟨show cells + 1 ≤ 1043 from by omega, show slots + 6 ≤ 17677 from by omega⟩ rfl ?_
      refine lv_iload hx hb dL_law_441 (lv_at hl 1 rfl) ?_
      refine zi_ceq (tgt := 448) hx hb dL_law_443 (by decide) (by omega) (by omega) (fun hc443 => ?_) (fun hc443 => ?_)
      · refine lv_iload hx hb dL_law_448 (lv_at hl 1 rfl) ?_
        refine zi_fne (tgt := 465) hx hb dL_law_450 (by decide) (by omega) (fun hc450 => ?_) (fun hc450 => ?_)
        · refine lv_goto (tgt := 1144) hx hb dL_law_465 (by decide) ?_
          refine zi_inc (lv' := [(4, .int (iZ (i + 8))), (6, .int (iZ 0)), (5, .int (iZ 2)), (0, .ref b), (1, .ref o), (2, .ref mo), (3, .ref bo)]) hx hb dL_law_1144 hl (k := 6) rfl (by decide) rfl (fun ls hl => ?_)
          refine lv_goto (tgt := 23) hx hb dL_law_1147 (by decide) ?_
          have hF9 : V 0 = V1 0 := (congrFun hR 0).symm
          have hN9 : ∀ j, 0 ≤ V1 0 j ∧ V1 0 j < 32003 := by
            rw [← hF9]
            exact hN
          exact kk V1 G k 2 w H locs ls (by omega) hN9 hG (lX_F hP hF9) hMo hS (lv_sub hl [3, 4, 5, 6, 0] rfl)
        · exfalso
          omega
      · exfalso
        omega
  · have f1 := lmZ_or (V 0) a1 a2
    have f2 := lmZ_or (V 0) a2 a1
    have f3 := ptZ_or (spZ (V 0) G a1 a2 72)
    refine lv_aload_n hx hb dL_law_400 rfl (lv_at hl 1 rfl) ?_
    refine lv_aload_n hx hb dL_law_401 rfl (lv_at hl 0 rfl) ?_
    refine lv_iload hx hb dL_law_402 (lv_at hl 4 rfl) ?_
    refine zi_const hx hb 1 dL_law_404 ?_
    refine zi_add hx hb dL_law_405 ?_
    refine lw_ld hx hb hX hbl hbA hS (by omega) ea1 dL_law_406 ?_
    refine lv_aload_n hx hb dL_law_407 rfl (lv_at hl 0 rfl) ?_
    refine lv_iload hx hb dL_law_408 (lv_at hl 4 rfl) ?_
    refine zi_const hx hb 2 dL_law_410 ?_
    refine zi_add hx hb dL_law_411 ?_
    refine lw_ld hx hb hX hbl hbA hS (by omega) ea2 dL_law_412 ?_
    refine lv_aload_n hx hb dL_law_413 rfl (lv_at hl 3 rfl) ?_
    refine hl_S (As := [.ref o, .int (iZ a1), .int (iZ a2), .ref bo]) (rest := []) (st1 := [.int (iZ 1)]) S (hl_times_tO l hl0 D o q1 q2 cI cJ tE tL (V 0) G k bo w hdl a1 a2 (by omega) (by omega) (by omega) (by omega)) tb_208 tb_209 tb_0 tb_210 hd_L_times ⟨rfl, rfl, by decide, by decide⟩ hP hK hs ht hnc hS hA hAn rfl hl.1 rfl (Nat.le_of_ble_eq_true rfl) dL_law_414 ⟨show cells + 1 ≤ 1043 from by omega, show slots + 6 ≤ 17677 from by omega⟩ rfl (fun H locs hP hS hz hkp => ?_)
    have hMo := mX_kept hMo hkp hcr
    refine lv_istore (lv' := [(5, .int (iZ 1)), (0, .ref b), (1, .ref o), (2, .ref mo), (3, .ref bo), (4, .int (iZ i))]) hx hb dL_law_417 hl (by decide) rfl (fun ls hl => ?_)
    refine lv_aload_n hx hb dL_law_419 rfl (lv_at hl 3 rfl) ?_
    refine lv_aload_n hx hb dL_law_420 rfl (lv_at hl 1 rfl) ?_
    refine lv_iload hx hb dL_law_421 (lv_at hl 5 rfl) ?_
    refine zi_const hx hb 1 dL_law_423 ?_
    refine zi_add hx hb dL_law_424 ?_
    refine lw_ld hx hb hX hbl hbA hS (by omega) ea1 dL_law_425 ?_
    refine lv_aload_n hx hb dL_law_426 rfl (lv_at hl 1 rfl) ?_
    refine lv_iload hx hb dL_law_427 (lv_at hl 5 rfl) ?_
    refine zi_const hx hb 2 dL_law_429 ?_
    refine zi_add hx hb dL_law_430 ?_
    refine lw_ld hx hb hX hbl hbA hS (by omega) ea2 dL_law_431 ?_
    refine wm_V (As := [.int (iZ a1), .int (iZ a2)]) (rest := []) (st1 := [.int (iZ 0)]) (c1 := 1) (k1 := k) S (kO_X1_times l D mo na cI cJ c0 k V a1 a2 hdm (by omega) (by omega) (by omega) (by omega)) tb_475 tb_476 tb_477 tb_2 tb_478 hd_X1_times ⟨rfl, rfl, by decide, by decide⟩ hMo hK hS hMA hAn rfl hl.1 rfl (Nat.le_of_ble_eq_true rfl) dL_law_432 ⟨show cells + 1 ≤ 1043 from by omega, show slots + 6 ≤ 17677 from by omega⟩ rfl (fun V1 H locs hR hMo hS hz hkp => ?_)
    have hP := lX_kept hP hkp hcr
    refine lv_istore (lv' := [(6, .int (iZ 0)), (5, .int (iZ 1)), (0, .ref b), (1, .ref o), (2, .ref mo), (3, .ref bo), (4, .int (iZ i))]) hx hb dL_law_435 hl (by decide) rfl (fun ls hl => ?_)
    refine lv_aload_n hx hb dL_law_437 rfl (lv_at hl 4 rfl) ?_
    refine rd_V (As := []) (rest := []) (st1 := [.int (iZ 1)]) S (k_X1_thrown l D mo na cI cJ 1 k V1) tb_428 tb_429 tb_430 tb_2 tb_431 hd_X1_thrown ⟨rfl, rfl, by decide, by decide⟩ rM_bl (rM_mv hMo hK) (va_recv hK hMo (ci := 1) (q0 := 0) rfl rfl) rfl hl.1 rfl (Nat.le_of_ble_eq_true rfl) dL_law_438 ⟨show cells + 1 ≤ 1043 from by omega, show slots + 6 ≤ 17677 from by omega⟩ rfl ?_
    refine lv_iload hx hb dL_law_441 (lv_at hl 1 rfl) ?_
    refine zi_ceq (tgt := 448) hx hb dL_law_443 (by decide) (by omega) (by omega) (fun hc443 => ?_) (fun hc443 => ?_)
    · refine lv_iload hx hb dL_law_448 (lv_at hl 1 rfl) ?_
      refine zi_fne (tgt := 465) hx hb dL_law_450 (by decide) (by omega) (fun hc450 => ?_) (fun hc450 => ?_)
      · refine lv_goto (tgt := 1144) hx hb dL_law_465 (by decide) ?_
        refine zi_inc (lv' := [(4, .int (iZ (i + 8))), (6, .int (iZ 0)), (5, .int (iZ 1)), (0, .ref b), (1, .ref o), (2, .ref mo), (3, .ref bo)]) hx hb dL_law_1144 hl (k := 6) rfl (by decide) rfl (fun ls hl => ?_)
        refine lv_goto (tgt := 23) hx hb dL_law_1147 (by decide) ?_
        have hF9 : V 0 = V1 0 := (congrFun hR 0).symm
        have hN9 : ∀ j, 0 ≤ V1 0 j ∧ V1 0 j < 32003 := by
          rw [← hF9]
          exact hN
        exact kk V1 G k 1 w H locs ls (by omega) hN9 hG (lX_F hP hF9) hMo hS (lv_sub hl [3, 4, 5, 6, 0] rfl)
      · exfalso
        omega
    · exfalso
      omega
set_option maxHeartbeats 4000000 in
set_option maxRecDepth 100000 in
theorem lc_derive (l : Launch) (hl0 : l.stackTraces = false) {p : Program} {e : Env} {s : State} {m : MethodId} {below : List Frame} {meth : Method} {c : Code} {b L : Nat} {xs : Nat → Int32} {A : Nat → Prop} {D : va_G} {o q1 q2 : Nat} {cI cJ : ClassId} {tE tL bo mo : Nat} {na : Nat → Nat} {Q : State → Prop} (E9 : lawE p s m c b L xs A D o q1 q2 cI cJ tE tL bo mo na) {H : Heap} {locs : List Loc} {cells slots : Nat} {ls : Array Slot} (V : Nat → Nat → Int) (G : Nat → Int) (k c0 : Int) (w : Nat → Int) (i : Int) (hk : 0 ≤ k ∧ k ≤ 60) (hN : ∀ j, 0 ≤ V 0 j ∧ V 0 j < 32003) (hG : ∀ j, 0 ≤ G j ∧ G j < 32003) (hP : va_P D vwCl (lX o q1 q2 cI cJ (V 0) G k bo w) H) (hMo : va_P D vwCl (mX mo na cI cJ c0 k V) H) (hS : va_S A s.heap H locs) (hi : 0 ≤ i ∧ i + 8 ≤ L) (hcs : cells + 1 ≤ 1043 ∧ slots + 6 ≤ 17677) (hl : lv_has ls 7 [(0, .ref b), (1, .ref o), (2, .ref mo), (3, .ref bo), (4, .int (iZ i))]) (kk : ∀ (V : Nat → Nat → Int) (G : Nat → Int) (k c0 : Int) (w : Nat → Int) (H : Heap) (locs : List Loc) (ls : Array Slot), 0 ≤ k ∧ k ≤ 60 → (∀ j, 0 ≤ V 0 j ∧ V 0 j < 32003) → (∀ j, 0 ≤ G j ∧ G j < 32003) → va_P D vwCl (lX o q1 q2 cI cJ (V 0) G k bo w) H → va_P D vwCl (mX mo na cI cJ c0 k V) H → va_S A s.heap H locs → lv_has ls 7 [(0, .ref b), (1, .ref o), (2, .ref mo), (3, .ref bo), (4, .int (iZ (i + 8)))] → W p l e room_1 s m #[Value.ref b] below meth c H locs (cells + 1) (slots + 6) Q (F0 m 23 ls [])) : W p l e room_1 s m #[Value.ref b] below meth c H locs cells slots Q (F0 m 468 ls []) := by
  obtain ⟨S, hX, hbl, hbA, hAn, hK, hs, ht, hnc, hA, hMA, hdl, hdm, hcr, hL⟩ := id E9
  obtain ⟨hx, hb, hml, hown, hT⟩ := id S
  obtain ⟨a1, ea1⟩ : ∃ a : Int, a = xZ xs (i + 1) := ⟨_, rfl⟩
  have ra1 := xZ_rng xs (i + 1)
  rw [← ea1] at ra1
  obtain ⟨a2, ea2⟩ : ∃ a : Int, a = xZ xs (i + 2) := ⟨_, rfl⟩
  have ra2 := xZ_rng xs (i + 2)
  rw [← ea2] at ra2
  obtain ⟨a3, ea3⟩ : ∃ a : Int, a = xZ xs (i + 3) := ⟨_, rfl⟩
  have ra3 := xZ_rng xs (i + 3)
  rw [← ea3] at ra3
  obtain ⟨a4, ea4⟩ : ∃ a : Int, a = xZ xs (i + 4) := ⟨_, rfl⟩
  have ra4 := xZ_rng xs (i + 4)
  rw [← ea4] at ra4
  obtain ⟨a5, ea5⟩ : ∃ a : Int, a = xZ xs (i + 5) := ⟨_, rfl⟩
  have ra5 := xZ_rng xs (i + 5)
  rw [← ea5] at ra5
  obtain ⟨a6, ea6⟩ : ∃ a : Int, a = xZ xs (i + 6) := ⟨_, rfl⟩
  have ra6 := xZ_rng xs (i + 6)
  rw [← ea6] at ra6
  obtain ⟨a7, ea7⟩ : ∃ a : Int, a = xZ xs (i + 7) := ⟨_, rfl⟩
  have ra7 := xZ_rng xs (i + 7)
  rw [← ea7] at ra7
  by_cases g2 : 0 ≤ a1 ∧ a1 < k
  · by_cases g4 : k < 60
    · by_cases g6 : stZ (V 0) a1 = 0
      · have f1 := stZ_or (V 0) a1
        refine lv_aload_n hx hb dL_law_468 rfl (lv_at hl 1 rfl) ?_
        refine lv_aload_n hx hb dL_law_469 rfl (lv_at hl 0 rfl) ?_
        refine lv_iload hx hb dL_law_470 (lv_at hl 4 rfl) ?_
        refine zi_const hx hb 1 dL_law_472 ?_
        refine zi_add hx hb dL_law_473 ?_
        refine lw_ld hx hb hX hbl hbA hS (by omega) ea1 dL_law_474 ?_
        refine lv_aload_n hx hb dL_law_475 rfl (lv_at hl 3 rfl) ?_
        refine hl_S (As := [.ref o, .int (iZ a1), .ref bo]) (rest := []) (st1 := [.int (iZ 0)]) S (hl_derive_k l D o q1 q2 cI cJ tE tL (V 0) G k bo w hdl a1 hN (by omega) (by omega) (by omega)) tb_275 tb_276 tb_0 tb_277 hd_L_derive ⟨rfl, rfl, by decide, by decide⟩ hP hK hs ht hnc hS hA hAn rfl hl.1 rfl (Nat.le_of_ble_eq_true rfl) dL_law_476 ⟨show cells + 0 ≤ 1043 from by omega, show slots + 0 ≤ 17677 from by omega⟩ rfl (fun H locs hP hS hz hkp => ?_)
        have hMo := mX_kept hMo hkp hcr
        refine lv_istore (lv' := [(5, .int (iZ 0)), (0, .ref b), (1, .ref o), (2, .ref mo), (3, .ref bo), (4, .int (iZ i))]) hx hb dL_law_479 hl (by decide) rfl (fun ls hl => ?_)
        refine lv_aload_n hx hb dL_law_481 rfl (lv_at hl 3 rfl) ?_
        refine lv_aload_n hx hb dL_law_482 rfl (lv_at hl 1 rfl) ?_
        refine lv_iload hx hb dL_law_483 (lv_at hl 5 rfl) ?_
        refine zi_const hx hb 1 dL_law_485 ?_
        refine zi_add hx hb dL_law_486 ?_
        refine lw_ld hx hb hX hbl hbA hS (by omega) ea1 dL_law_487 ?_
        refine wm_V (As := [.int (iZ a1)]) (rest := []) (st1 := [.int (iZ k)]) (c1 := 0) (k1 := (k + 1)) S (k_X1_derive l D mo na cI cJ c0 k V a1 hdm hN (by omega) (by omega) (by omega)) tb_501 tb_502 tb_503 tb_2 tb_504 hd_X1_derive ⟨rfl, rfl, by decide, by decide⟩ hMo hK hS hMA hAn rfl hl.1 rfl (Nat.le_of_ble_eq_true rfl) dL_law_488 ⟨show cells ≤ 1043 from by omega, show slots ≤ 17677 from by omega⟩ rfl (fun V1 H locs hR hMo hS hz hkp => ?_)
        have hP := lX_kept hP hkp hcr
        refine lv_istore (lv' := [(6, .int (iZ k)), (5, .int (iZ 0)), (0, .ref b), (1, .ref o), (2, .ref mo), (3, .ref bo), (4, .int (iZ i))]) hx hb dL_law_491 hl (by decide) rfl (fun ls hl => ?_)
        refine lv_aload_n hx hb dL_law_493 rfl (lv_at hl 4 rfl) ?_
        refine rd_V (As := []) (rest := []) (st1 := [.int (iZ 0)]) S (k_X1_thrown l D mo na cI cJ 0 ((k + 1)) V1) tb_428 tb_429 tb_430 tb_2 tb_431 hd_X1_thrown ⟨rfl, rfl, by decide, by decide⟩ rM_bl (rM_mv hMo hK) (va_recv hK hMo (ci := 1) (q0 := 0) rfl rfl) rfl hl.1 rfl (Nat.le_of_ble_eq_true rfl) dL_law_494 ⟨show cells ≤ 1043 from by omega, show slots ≤ 17677 from by omega⟩ rfl ?_
        refine lv_iload hx hb dL_law_497 (lv_at hl 1 rfl) ?_
        refine zi_ceq (tgt := 504) hx hb dL_law_499 (by decide) (by omega) (by omega) (fun hc499 => ?_) (fun hc499 => ?_)
        · refine lv_iload hx hb dL_law_504 (lv_at hl 1 rfl) ?_
          refine zi_fne (tgt := 521) hx hb dL_law_506 (by decide) (by omega) (fun hc506 => ?_) (fun hc506 => ?_)
          · exfalso
            omega
          · refine lv_aload_n hx hb dL_law_509 rfl (lv_at hl 5 rfl) ?_
            refine zi_const hx hb 0 dL_law_510 ?_
            refine lw_ot hx hb hK hP (a := k) rfl dL_law_511 ?_
            refine lv_iload hx hb dL_law_512 (lv_at hl 0 rfl) ?_
            refine zi_i2l hx hb dL_law_514 (by omega) ?_
            refine zl_ceq (tgt := 521) hx hb dL_law_515 dL_law_516 (by decide) (by omega) (by omega) (fun hc515 => ?_) (fun hc515 => ?_)
            · refine lv_goto (tgt := 1144) hx hb dL_law_521 (by decide) ?_
              refine zi_inc (lv' := [(4, .int (iZ (i + 8))), (6, .int (iZ k)), (5, .int (iZ 0)), (0, .ref b), (1, .ref o), (2, .ref mo), (3, .ref bo)]) hx hb dL_law_1144 hl (k := 6) rfl (by decide) rfl (fun ls hl => ?_)
              refine lv_goto (tgt := 23) hx hb dL_law_1147 (by decide) ?_
              have hF9 : fiZ (V 0) (k * 72).toNat 72 (fun j => slZ (V 0) a1 (jC j) (jN j)) = V1 0 := row_eq (by omega) hR.1 hR.2
              have hN9 : ∀ j, 0 ≤ V1 0 j ∧ V1 0 j < 32003 := by
                rw [← hF9]
                exact fi_rng hN (fun j => slZ_rng _ _ _ _)
              refine W.widen (k := cells + 1) (n := slots + 6) (by omega) (by omega) ?_
              exact kk V1 G (k + 1) 0 (uZ w 0 k) H locs ls (by omega) hN9 hG (lX_F hP hF9) hMo hS (lv_sub hl [3, 4, 5, 6, 0] rfl)
            · refine zi_const hx hb 0 dL_law_519 ?_
              exfalso
              omega
        · exfalso
          omega
      · have f1 := stZ_or (V 0) a1
        refine lv_aload_n hx hb dL_law_468 rfl (lv_at hl 1 rfl) ?_
        refine lv_aload_n hx hb dL_law_469 rfl (lv_at hl 0 rfl) ?_
        refine lv_iload hx hb dL_law_470 (lv_at hl 4 rfl) ?_
        refine zi_const hx hb 1 dL_law_472 ?_
        refine zi_add hx hb dL_law_473 ?_
        refine lw_ld hx hb hX hbl hbA hS (by omega) ea1 dL_law_474 ?_
        refine lv_aload_n hx hb dL_law_475 rfl (lv_at hl 3 rfl) ?_
        refine hl_S (As := [.ref o, .int (iZ a1), .ref bo]) (rest := []) (st1 := [.int (iZ 2)]) S (hl_derive_tF l hl0 D o q1 q2 cI cJ tE tL (V 0) G k bo w hdl a1 hN (by omega) (by omega) (by omega)) tb_275 tb_276 tb_0 tb_277 hd_L_derive ⟨rfl, rfl, by decide, by decide⟩ hP hK hs ht hnc hS hA hAn rfl hl.1 rfl (Nat.le_of_ble_eq_true rfl) dL_law_476 ⟨show cells + 1 ≤ 1043 from by omega, show slots + 6 ≤ 17677 from by omega⟩ rfl (fun H locs hP hS hz hkp => ?_)
        have hMo := mX_kept hMo hkp hcr
        refine lv_istore (lv' := [(5, .int (iZ 2)), (0, .ref b), (1, .ref o), (2, .ref mo), (3, .ref bo), (4, .int (iZ i))]) hx hb dL_law_479 hl (by decide) rfl (fun ls hl => ?_)
        refine lv_aload_n hx hb dL_law_481 rfl (lv_at hl 3 rfl) ?_
        refine lv_aload_n hx hb dL_law_482 rfl (lv_at hl 1 rfl) ?_
        refine lv_iload hx hb dL_law_483 (lv_at hl 5 rfl) ?_
        refine zi_const hx hb 1 dL_law_485 ?_
        refine zi_add hx hb dL_law_486 ?_
        refine lw_ld hx hb hX hbl hbA hS (by omega) ea1 dL_law_487 ?_
        refine wm_V (As := [.int (iZ a1)]) (rest := []) (st1 := [.int (iZ 0)]) (c1 := 2) (k1 := k) S (kF_X1_derive l D mo na cI cJ c0 k V a1 hdm hN (by omega) (by omega) (by omega)) tb_501 tb_502 tb_503 tb_2 tb_504 hd_X1_derive ⟨rfl, rfl, by decide, by decide⟩ hMo hK hS hMA hAn rfl hl.1 rfl (Nat.le_of_ble_eq_true rfl) dL_law_488 ⟨show cells + 1 ≤ 1043 from by omega, show slots + 6 ≤ 17677 from by omega⟩ rfl (fun V1 H locs hR hMo hS hz hkp => ?_)
        have hP := lX_kept hP hkp hcr
        refine lv_istore (lv' := [(6, .int (iZ 0)), (5, .int (iZ 2)), (0, .ref b), (1, .ref o), (2, .ref mo), (3, .ref bo), (4, .int (iZ i))]) hx hb dL_law_491 hl (by decide) rfl (fun ls hl => ?_)
        refine lv_aload_n hx hb dL_law_493 rfl (lv_at hl 4 rfl) ?_
        refine rd_V (As := []) (rest := []) (st1 := [.int (iZ 2)]) S (k_X1_thrown l D mo na cI cJ 2 k V1) tb_428 tb_429 tb_430 tb_2 tb_431 hd_X1_thrown ⟨rfl, rfl, by decide, by decide⟩ rM_bl (rM_mv hMo hK) (va_recv hK hMo (ci := 1) (q0 := 0) rfl rfl) rfl hl.1 rfl (Nat.le_of_ble_eq_true rfl) dL_law_494 ⟨show cells + 1 ≤ 1043 from by omega, show slots + 6 ≤ 17677 from by omega⟩ rfl ?_
        refine lv_iload hx hb dL_law_497 (lv_at hl 1 rfl) ?_
        refine zi_ceq (tgt := 504) hx hb dL_law_499 (by decide) (by omega) (by omega) (fun hc499 => ?_) (fun hc499 => ?_)
        · refine lv_iload hx hb dL_law_504 (lv_at hl 1 rfl) ?_
          refine zi_fne (tgt := 521) hx hb dL_law_506 (by decide) (by omega) (fun hc506 => ?_) (fun hc506 => ?_)
          · refine lv_goto (tgt := 1144) hx hb dL_law_521 (by decide) ?_
            refine zi_inc (lv' := [(4, .int (iZ (i + 8))), (6, .int (iZ 0)), (5, .int (iZ 2)), (0, .ref b), (1, .ref o), (2, .ref mo), (3, .ref bo)]) hx hb dL_law_1144 hl (k := 6) rfl (by decide) rfl (fun ls hl => ?_)
            refine lv_goto (tgt := 23) hx hb dL_law_1147 (by decide) ?_
            have hF9 : V 0 = V1 0 := hR.symm
            have hN9 : ∀ j, 0 ≤ V1 0 j ∧ V1 0 j < 32003 := by
              rw [← hF9]
              exact hN
            exact kk V1 G k 2 w H locs ls (by omega) hN9 hG (lX_F hP hF9) hMo hS (lv_sub hl [3, 4, 5, 6, 0] rfl)
          · exfalso
            omega
        · exfalso
          omega
    · have f1 := stZ_or (V 0) a1
      refine lv_aload_n hx hb dL_law_468 rfl (lv_at hl 1 rfl) ?_
      refine lv_aload_n hx hb dL_law_469 rfl (lv_at hl 0 rfl) ?_
      refine lv_iload hx hb dL_law_470 (lv_at hl 4 rfl) ?_
      refine zi_const hx hb 1 dL_law_472 ?_
      refine zi_add hx hb dL_law_473 ?_
      refine lw_ld hx hb hX hbl hbA hS (by omega) ea1 dL_law_474 ?_
      refine lv_aload_n hx hb dL_law_475 rfl (lv_at hl 3 rfl) ?_
      refine hl_S (As := [.ref o, .int (iZ a1), .ref bo]) (rest := []) (st1 := [.int (iZ 2)]) S (hl_derive_tS l hl0 D o q1 q2 cI cJ tE tL (V 0) G k bo w hdl a1 (by omega) (by omega) (by omega)) tb_275 tb_276 tb_0 tb_277 hd_L_derive ⟨rfl, rfl, by decide, by decide⟩ hP hK hs ht hnc hS hA hAn rfl hl.1 rfl (Nat.le_of_ble_eq_true rfl) dL_law_476 ⟨show cells + 1 ≤ 1043 from by omega, show slots + 6 ≤ 17677 from by omega⟩ rfl (fun H locs hP hS hz hkp => ?_)
      have hMo := mX_kept hMo hkp hcr
      refine lv_istore (lv' := [(5, .int (iZ 2)), (0, .ref b), (1, .ref o), (2, .ref mo), (3, .ref bo), (4, .int (iZ i))]) hx hb dL_law_479 hl (by decide) rfl (fun ls hl => ?_)
      refine lv_aload_n hx hb dL_law_481 rfl (lv_at hl 3 rfl) ?_
      refine lv_aload_n hx hb dL_law_482 rfl (lv_at hl 1 rfl) ?_
      refine lv_iload hx hb dL_law_483 (lv_at hl 5 rfl) ?_
      refine zi_const hx hb 1 dL_law_485 ?_
      refine zi_add hx hb dL_law_486 ?_
      refine lw_ld hx hb hX hbl hbA hS (by omega) ea1 dL_law_487 ?_
      refine wm_V (As := [.int (iZ a1)]) (rest := []) (st1 := [.int (iZ 0)]) (c1 := 2) (k1 := k) S (kS_X1_derive l D mo na cI cJ c0 k V a1 hdm (by omega) (by omega)) tb_501 tb_502 tb_503 tb_2 tb_504 hd_X1_derive ⟨rfl, rfl, by decide, by decide⟩ hMo hK hS hMA hAn rfl hl.1 rfl (Nat.le_of_ble_eq_true rfl) dL_law_488 ⟨show cells + 1 ≤ 1043 from by omega, show slots + 6 ≤ 17677 from by omega⟩ rfl (fun V1 H locs hR hMo hS hz hkp => ?_)
      have hP := lX_kept hP hkp hcr
      refine lv_istore (lv' := [(6, .int (iZ 0)), (5, .int (iZ 2)), (0, .ref b), (1, .ref o), (2, .ref mo), (3, .ref bo), (4, .int (iZ i))]) hx hb dL_law_491 hl (by decide) rfl (fun ls hl => ?_)
      refine lv_aload_n hx hb dL_law_493 rfl (lv_at hl 4 rfl) ?_
      refine rd_V (As := []) (rest := []) (st1 := [.int (iZ 2)]) S (k_X1_thrown l D mo na cI cJ 2 k V1) tb_428 tb_429 tb_430 tb_2 tb_431 hd_X1_thrown ⟨rfl, rfl, by decide, by decide⟩ rM_bl (rM_mv hMo hK) (va_recv hK hMo (ci := 1) (q0 := 0) rfl rfl) rfl hl.1 rfl (Nat.le_of_ble_eq_true rfl) dL_law_494 ⟨show cells + 1 ≤ 1043 from by omega, show slots + 6 ≤ 17677 from by omega⟩ rfl ?_
      refine lv_iload hx hb dL_law_497 (lv_at hl 1 rfl) ?_
      refine zi_ceq (tgt := 504) hx hb dL_law_499 (by decide) (by omega) (by omega) (fun hc499 => ?_) (fun hc499 => ?_)
      · refine lv_iload hx hb dL_law_504 (lv_at hl 1 rfl) ?_
        refine zi_fne (tgt := 521) hx hb dL_law_506 (by decide) (by omega) (fun hc506 => ?_) (fun hc506 => ?_)
        · refine lv_goto (tgt := 1144) hx hb dL_law_521 (by decide) ?_
          refine zi_inc (lv' := [(4, .int (iZ (i + 8))), (6, .int (iZ 0)), (5, .int (iZ 2)), (0, .ref b), (1, .ref o), (2, .ref mo), (3, .ref bo)]) hx hb dL_law_1144 hl (k := 6) rfl (by decide) rfl (fun ls hl => ?_)
          refine lv_goto (tgt := 23) hx hb dL_law_1147 (by decide) ?_
          have hF9 : V 0 = V1 0 := (congrFun hR 0).symm
          have hN9 : ∀ j, 0 ≤ V1 0 j ∧ V1 0 j < 32003 := by
            rw [← hF9]
            exact hN
          exact kk V1 G k 2 w H locs ls (by omega) hN9 hG (lX_F hP hF9) hMo hS (lv_sub hl [3, 4, 5, 6, 0] rfl)
        · exfalso
          omega
      · exfalso
        omega
  · have f1 := stZ_or (V 0) a1
    refine lv_aload_n hx hb dL_law_468 rfl (lv_at hl 1 rfl) ?_
    refine lv_aload_n hx hb dL_law_469 rfl (lv_at hl 0 rfl) ?_
    refine lv_iload hx hb dL_law_470 (lv_at hl 4 rfl) ?_
    refine zi_const hx hb 1 dL_law_472 ?_
    refine zi_add hx hb dL_law_473 ?_
    refine lw_ld hx hb hX hbl hbA hS (by omega) ea1 dL_law_474 ?_
    refine lv_aload_n hx hb dL_law_475 rfl (lv_at hl 3 rfl) ?_
    refine hl_S (As := [.ref o, .int (iZ a1), .ref bo]) (rest := []) (st1 := [.int (iZ 1)]) S (hl_derive_tO l hl0 D o q1 q2 cI cJ tE tL (V 0) G k bo w hdl a1 (by omega) (by omega) (by omega)) tb_275 tb_276 tb_0 tb_277 hd_L_derive ⟨rfl, rfl, by decide, by decide⟩ hP hK hs ht hnc hS hA hAn rfl hl.1 rfl (Nat.le_of_ble_eq_true rfl) dL_law_476 ⟨show cells + 1 ≤ 1043 from by omega, show slots + 6 ≤ 17677 from by omega⟩ rfl (fun H locs hP hS hz hkp => ?_)
    have hMo := mX_kept hMo hkp hcr
    refine lv_istore (lv' := [(5, .int (iZ 1)), (0, .ref b), (1, .ref o), (2, .ref mo), (3, .ref bo), (4, .int (iZ i))]) hx hb dL_law_479 hl (by decide) rfl (fun ls hl => ?_)
    refine lv_aload_n hx hb dL_law_481 rfl (lv_at hl 3 rfl) ?_
    refine lv_aload_n hx hb dL_law_482 rfl (lv_at hl 1 rfl) ?_
    refine lv_iload hx hb dL_law_483 (lv_at hl 5 rfl) ?_
    refine zi_const hx hb 1 dL_law_485 ?_
    refine zi_add hx hb dL_law_486 ?_
    refine lw_ld hx hb hX hbl hbA hS (by omega) ea1 dL_law_487 ?_
    refine wm_V (As := [.int (iZ a1)]) (rest := []) (st1 := [.int (iZ 0)]) (c1 := 1) (k1 := k) S (kO_X1_derive l D mo na cI cJ c0 k V a1 hdm (by omega) (by omega) (by omega)) tb_501 tb_502 tb_503 tb_2 tb_504 hd_X1_derive ⟨rfl, rfl, by decide, by decide⟩ hMo hK hS hMA hAn rfl hl.1 rfl (Nat.le_of_ble_eq_true rfl) dL_law_488 ⟨show cells + 1 ≤ 1043 from by omega, show slots + 6 ≤ 17677 from by omega⟩ rfl (fun V1 H locs hR hMo hS hz hkp => ?_)
    have hP := lX_kept hP hkp hcr
    refine lv_istore (lv' := [(6, .int (iZ 0)), (5, .int (iZ 1)), (0, .ref b), (1, .ref o), (2, .ref mo), (3, .ref bo), (4, .int (iZ i))]) hx hb dL_law_491 hl (by decide) rfl (fun ls hl => ?_)
    refine lv_aload_n hx hb dL_law_493 rfl (lv_at hl 4 rfl) ?_
    refine rd_V (As := []) (rest := []) (st1 := [.int (iZ 1)]) S (k_X1_thrown l D mo na cI cJ 1 k V1) tb_428 tb_429 tb_430 tb_2 tb_431 hd_X1_thrown ⟨rfl, rfl, by decide, by decide⟩ rM_bl (rM_mv hMo hK) (va_recv hK hMo (ci := 1) (q0 := 0) rfl rfl) rfl hl.1 rfl (Nat.le_of_ble_eq_true rfl) dL_law_494 ⟨show cells + 1 ≤ 1043 from by omega, show slots + 6 ≤ 17677 from by omega⟩ rfl ?_
    refine lv_iload hx hb dL_law_497 (lv_at hl 1 rfl) ?_
    refine zi_ceq (tgt := 504) hx hb dL_law_499 (by decide) (by omega) (by omega) (fun hc499 => ?_) (fun hc499 => ?_)
    · refine lv_iload hx hb dL_law_504 (lv_at hl 1 rfl) ?_
      refine zi_fne (tgt := 521) hx hb dL_law_506 (by decide) (by omega) (fun hc506 => ?_) (fun hc506 => ?_)
      · refine lv_goto (tgt := 1144) hx hb dL_law_521 (by decide) ?_
        refine zi_inc (lv' := [(4, .int (iZ (i + 8))), (6, .int (iZ 0)), (5, .int (iZ 1)), (0, .ref b), (1, .ref o), (2, .ref mo), (3, .ref bo)]) hx hb dL_law_1144 hl (k := 6) rfl (by decide) rfl (fun ls hl => ?_)
        refine lv_goto (tgt := 23) hx hb dL_law_1147 (by decide) ?_
        have hF9 : V 0 = V1 0 := (congrFun hR 0).symm
        have hN9 : ∀ j, 0 ≤ V1 0 j ∧ V1 0 j < 32003 := by
          rw [← hF9]
          exact hN
        exact kk V1 G k 1 w H locs ls (by omega) hN9 hG (lX_F hP hF9) hMo hS (lv_sub hl [3, 4, 5, 6, 0] rfl)
      · exfalso
        omega
    · exfalso
      omega
set_option maxHeartbeats 4000000 in
set_option maxRecDepth 100000 in
theorem lc_integrate (l : Launch) (hl0 : l.stackTraces = false) {p : Program} {e : Env} {s : State} {m : MethodId} {below : List Frame} {meth : Method} {c : Code} {b L : Nat} {xs : Nat → Int32} {A : Nat → Prop} {D : va_G} {o q1 q2 : Nat} {cI cJ : ClassId} {tE tL bo mo : Nat} {na : Nat → Nat} {Q : State → Prop} (E9 : lawE p s m c b L xs A D o q1 q2 cI cJ tE tL bo mo na) {H : Heap} {locs : List Loc} {cells slots : Nat} {ls : Array Slot} (V : Nat → Nat → Int) (G : Nat → Int) (k c0 : Int) (w : Nat → Int) (i : Int) (hk : 0 ≤ k ∧ k ≤ 60) (hN : ∀ j, 0 ≤ V 0 j ∧ V 0 j < 32003) (hG : ∀ j, 0 ≤ G j ∧ G j < 32003) (hP : va_P D vwCl (lX o q1 q2 cI cJ (V 0) G k bo w) H) (hMo : va_P D vwCl (mX mo na cI cJ c0 k V) H) (hS : va_S A s.heap H locs) (hi : 0 ≤ i ∧ i + 8 ≤ L) (hcs : cells + 1 ≤ 1043 ∧ slots + 6 ≤ 17677) (hl : lv_has ls 7 [(0, .ref b), (1, .ref o), (2, .ref mo), (3, .ref bo), (4, .int (iZ i))]) (kk : ∀ (V : Nat → Nat → Int) (G : Nat → Int) (k c0 : Int) (w : Nat → Int) (H : Heap) (locs : List Loc) (ls : Array Slot), 0 ≤ k ∧ k ≤ 60 → (∀ j, 0 ≤ V 0 j ∧ V 0 j < 32003) → (∀ j, 0 ≤ G j ∧ G j < 32003) → va_P D vwCl (lX o q1 q2 cI cJ (V 0) G k bo w) H → va_P D vwCl (mX mo na cI cJ c0 k V) H → va_S A s.heap H locs → lv_has ls 7 [(0, .ref b), (1, .ref o), (2, .ref mo), (3, .ref bo), (4, .int (iZ (i + 8)))] → W p l e room_1 s m #[Value.ref b] below meth c H locs (cells + 1) (slots + 6) Q (F0 m 23 ls [])) : W p l e room_1 s m #[Value.ref b] below meth c H locs cells slots Q (F0 m 524 ls []) := by
  obtain ⟨S, hX, hbl, hbA, hAn, hK, hs, ht, hnc, hA, hMA, hdl, hdm, hcr, hL⟩ := id E9
  obtain ⟨hx, hb, hml, hown, hT⟩ := id S
  obtain ⟨a1, ea1⟩ : ∃ a : Int, a = xZ xs (i + 1) := ⟨_, rfl⟩
  have ra1 := xZ_rng xs (i + 1)
  rw [← ea1] at ra1
  obtain ⟨a2, ea2⟩ : ∃ a : Int, a = xZ xs (i + 2) := ⟨_, rfl⟩
  have ra2 := xZ_rng xs (i + 2)
  rw [← ea2] at ra2
  obtain ⟨a3, ea3⟩ : ∃ a : Int, a = xZ xs (i + 3) := ⟨_, rfl⟩
  have ra3 := xZ_rng xs (i + 3)
  rw [← ea3] at ra3
  obtain ⟨a4, ea4⟩ : ∃ a : Int, a = xZ xs (i + 4) := ⟨_, rfl⟩
  have ra4 := xZ_rng xs (i + 4)
  rw [← ea4] at ra4
  obtain ⟨a5, ea5⟩ : ∃ a : Int, a = xZ xs (i + 5) := ⟨_, rfl⟩
  have ra5 := xZ_rng xs (i + 5)
  rw [← ea5] at ra5
  obtain ⟨a6, ea6⟩ : ∃ a : Int, a = xZ xs (i + 6) := ⟨_, rfl⟩
  have ra6 := xZ_rng xs (i + 6)
  rw [← ea6] at ra6
  obtain ⟨a7, ea7⟩ : ∃ a : Int, a = xZ xs (i + 7) := ⟨_, rfl⟩
  have ra7 := xZ_rng xs (i + 7)
  rw [← ea7] at ra7
  by_cases g2 : 0 ≤ a1 ∧ a1 < k
  · by_cases g4 : k < 60
    · by_cases g6 : hrZ (V 0) a1 = 0
      · by_cases g8 : itZ (V 0) a1 = 0
        · have f1 := hrZ_or (V 0) a1
          have f2 := itZ_or (V 0) a1
          refine lv_aload_n hx hb dL_law_524 rfl (lv_at hl 1 rfl) ?_
          refine lv_aload_n hx hb dL_law_525 rfl (lv_at hl 0 rfl) ?_
          refine lv_iload hx hb dL_law_526 (lv_at hl 4 rfl) ?_
          refine zi_const hx hb 1 dL_law_528 ?_
          refine zi_add hx hb dL_law_529 ?_
          refine lw_ld hx hb hX hbl hbA hS (by omega) ea1 dL_law_530 ?_
          refine lv_aload_n hx hb dL_law_531 rfl (lv_at hl 3 rfl) ?_
          refine hl_S (As := [.ref o, .int (iZ a1), .ref bo]) (rest := []) (st1 := [.int (iZ 0)]) S (hl_integrate_k l D o q1 q2 cI cJ tE tL (V 0) G k bo w hdl a1 hN (by omega) (by omega) (by omega) (by omega)) tb_295 tb_296 tb_0 tb_297 hd_L_integrate ⟨rfl, rfl, by decide, by decide⟩ hP hK hs ht hnc hS hA hAn rfl hl.1 rfl (Nat.le_of_ble_eq_true rfl) dL_law_532 ⟨show cells + 0 ≤ 1043 from by omega, show slots + 0 ≤ 17677 from by omega⟩ rfl (fun H locs hP hS hz hkp => ?_)
          have hMo := mX_kept hMo hkp hcr
          refine lv_istore (lv' := [(5, .int (iZ 0)), (0, .ref b), (1, .ref o), (2, .ref mo), (3, .ref bo), (4, .int (iZ i))]) hx hb dL_law_535 hl (by decide) rfl (fun ls hl => ?_)
          refine lv_aload_n hx hb dL_law_537 rfl (lv_at hl 3 rfl) ?_
          refine lv_aload_n hx hb dL_law_538 rfl (lv_at hl 1 rfl) ?_
          refine lv_iload hx hb dL_law_539 (lv_at hl 5 rfl) ?_
          refine zi_const hx hb 1 dL_law_541 ?_
          refine zi_add hx hb dL_law_542 ?_
          refine lw_ld hx hb hX hbl hbA hS (by omega) ea1 dL_law_543 ?_
          refine wm_V (As := [.int (iZ a1)]) (rest := []) (st1 := [.int (iZ k)]) (c1 := 0) (k1 := (k + 1)) S (k_X1_integrate l D mo na cI cJ c0 k V a1 hdm hN (by omega) (by omega) (by omega) (by omega)) tb_516 tb_517 tb_518 tb_2 tb_519 hd_X1_integrate ⟨rfl, rfl, by decide, by decide⟩ hMo hK hS hMA hAn rfl hl.1 rfl (Nat.le_of_ble_eq_true rfl) dL_law_544 ⟨show cells ≤ 1043 from by omega, show slots ≤ 17677 from by omega⟩ rfl (fun V1 H locs hR hMo hS hz hkp => ?_)
          have hP := lX_kept hP hkp hcr
          refine lv_istore (lv' := [(6, .int (iZ k)), (5, .int (iZ 0)), (0, .ref b), (1, .ref o), (2, .ref mo), (3, .ref bo), (4, .int (iZ i))]) hx hb dL_law_547 hl (by decide) rfl (fun ls hl => ?_)
          refine lv_aload_n hx hb dL_law_549 rfl (lv_at hl 4 rfl) ?_
          refine rd_V (As := []) (rest := []) (st1 := [.int (iZ 0)]) S (k_X1_thrown l D mo na cI cJ 0 ((k + 1)) V1) tb_428 tb_429 tb_430 tb_2 tb_431 hd_X1_thrown ⟨rfl, rfl, by decide, by decide⟩ rM_bl (rM_mv hMo hK) (va_recv hK hMo (ci := 1) (q0 := 0) rfl rfl) rfl hl.1 rfl (Nat.le_of_ble_eq_true rfl) dL_law_550 ⟨show cells ≤ 1043 from by omega, show slots ≤ 17677 from by omega⟩ rfl ?_
          refine lv_iload hx hb dL_law_553 (lv_at hl 1 rfl) ?_
          refine zi_ceq (tgt := 560) hx hb dL_law_555 (by decide) (by omega) (by omega) (fun hc555 => ?_) (fun hc555 => ?_)
          · refine lv_iload hx hb dL_law_560 (lv_at hl 1 rfl) ?_
            refine zi_fne (tgt := 577) hx hb dL_law_562 (by decide) (by omega) (fun hc562 => ?_) (fun hc562 => ?_)
            · exfalso
              omega
            · refine lv_aload_n hx hb dL_law_565 rfl (lv_at hl 5 rfl) ?_
              refine zi_const hx hb 0 dL_law_566 ?_
              refine lw_ot hx hb hK hP (a := k) rfl dL_law_567 ?_
              refine lv_iload hx hb dL_law_568 (lv_at hl 0 rfl) ?_
              refine zi_i2l hx hb dL_law_570 (by omega) ?_
              refine zl_ceq (tgt := 577) hx hb dL_law_571 dL_law_572 (by decide) (by omega) (by omega) (fun hc571 => ?_) (fun hc571 => ?_)
              · refine lv_goto (tgt := 1144) hx hb dL_law_577 (by decide) ?_
                refine zi_inc (lv' := [(4, .int (iZ (i + 8))), (6, .int (iZ k)), (5, .int (iZ 0)), (0, .ref b), (1, .ref o), (2, .ref mo), (3, .ref bo)]) hx hb dL_law_1144 hl (k := 6) rfl (by decide) rfl (fun ls hl => ?_)
                refine lv_goto (tgt := 23) hx hb dL_law_1147 (by decide) ?_
                have hF9 : fiZ (V 0) (k * 72).toNat 72 (fun j => igZ (V 0) a1 (jC j) (jN j)) = V1 0 := row_eq (by omega) hR.1 hR.2
                have hN9 : ∀ j, 0 ≤ V1 0 j ∧ V1 0 j < 32003 := by
                  rw [← hF9]
                  exact fi_rng hN (fun j => igZ_rng _ _ _ _)
                refine W.widen (k := cells + 1) (n := slots + 6) (by omega) (by omega) ?_
                exact kk V1 G (k + 1) 0 (uZ w 0 k) H locs ls (by omega) hN9 hG (lX_F hP hF9) hMo hS (lv_sub hl [3, 4, 5, 6, 0] rfl)
              · refine zi_const hx hb 0 dL_law_575 ?_
                exfalso
                omega
          · exfalso
            omega
        · have f1 := hrZ_or (V 0) a1
          have f2 := itZ_or (V 0) a1
          refine lv_aload_n hx hb dL_law_524 rfl (lv_at hl 1 rfl) ?_
          refine lv_aload_n hx hb dL_law_525 rfl (lv_at hl 0 rfl) ?_
          refine lv_iload hx hb dL_law_526 (lv_at hl 4 rfl) ?_
          refine zi_const hx hb 1 dL_law_528 ?_
          refine zi_add hx hb dL_law_529 ?_
          refine lw_ld hx hb hX hbl hbA hS (by omega) ea1 dL_law_530 ?_
          refine lv_aload_n hx hb dL_law_531 rfl (lv_at hl 3 rfl) ?_
          refine hl_S (As := [.ref o, .int (iZ a1), .ref bo]) (rest := []) (st1 := [.int (iZ 2)]) S (hl_integrate_tF l hl0 D o q1 q2 cI cJ tE tL (V 0) G k bo w hdl a1 hN (by omega) (by omega) (by omega) (by omega)) tb_295 tb_296 tb_0 tb_297 hd_L_integrate ⟨rfl, rfl, by decide, by decide⟩ hP hK hs ht hnc hS hA hAn rfl hl.1 rfl (Nat.le_of_ble_eq_true rfl) dL_law_532 ⟨show cells + 1 ≤ 1043 from by omega, show slots + 6 ≤ 17677 from by omega⟩ rfl (fun H locs hP hS hz hkp => ?_)
          have hMo := mX_kept hMo hkp hcr
          refine lv_istore (lv' := [(5, .int (iZ 2)), (0, .ref b), (1, .ref o), (2, .ref mo), (3, .ref bo), (4, .int (iZ i))]) hx hb dL_law_535 hl (by decide) rfl (fun ls hl => ?_)
          refine lv_aload_n hx hb dL_law_537 rfl (lv_at hl 3 rfl) ?_
          refine lv_aload_n hx hb dL_law_538 rfl (lv_at hl 1 rfl) ?_
          refine lv_iload hx hb dL_law_539 (lv_at hl 5 rfl) ?_
          refine zi_const hx hb 1 dL_law_541 ?_
          refine zi_add hx hb dL_law_542 ?_
          refine lw_ld hx hb hX hbl hbA hS (by omega) ea1 dL_law_543 ?_
          refine wm_V (As := [.int (iZ a1)]) (rest := []) (st1 := [.int (iZ 0)]) (c1 := 2) (k1 := k) S (kF_X1_integrate l D mo na cI cJ c0 k V a1 hdm hN (by omega) (by omega) (by omega) (by omega)) tb_516 tb_517 tb_518 tb_2 tb_519 hd_X1_integrate ⟨rfl, rfl, by decide, by decide⟩ hMo hK hS hMA hAn rfl hl.1 rfl (Nat.le_of_ble_eq_true rfl) dL_law_544 ⟨show cells + 1 ≤ 1043 from by omega, show slots + 6 ≤ 17677 from by omega⟩ rfl (fun V1 H locs hR hMo hS hz hkp => ?_)
          have hP := lX_kept hP hkp hcr
          refine lv_istore (lv' := [(6, .int (iZ 0)), (5, .int (iZ 2)), (0, .ref b), (1, .ref o), (2, .ref mo), (3, .ref bo), (4, .int (iZ i))]) hx hb dL_law_547 hl (by decide) rfl (fun ls hl => ?_)
          refine lv_aload_n hx hb dL_law_549 rfl (lv_at hl 4 rfl) ?_
          refine rd_V (As := []) (rest := []) (st1 := [.int (iZ 2)]) S (k_X1_thrown l D mo na cI cJ 2 k V1) tb_428 tb_429 tb_430 tb_2 tb_431 hd_X1_thrown ⟨rfl, rfl, by decide, by decide⟩ rM_bl (rM_mv hMo hK) (va_recv hK hMo (ci := 1) (q0 := 0) rfl rfl) rfl hl.1 rfl (Nat.le_of_ble_eq_true rfl) dL_law_550 ⟨show cells + 1 ≤ 1043 from by omega, show slots + 6 ≤ 17677 from by omega⟩ rfl ?_
          refine lv_iload hx hb dL_law_553 (lv_at hl 1 rfl) ?_
          refine zi_ceq (tgt := 560) hx hb dL_law_555 (by decide) (by omega) (by omega) (fun hc555 => ?_) (fun hc555 => ?_)
          · refine lv_iload hx hb dL_law_560 (lv_at hl 1 rfl) ?_
            refine zi_fne (tgt := 577) hx hb dL_law_562 (by decide) (by omega) (fun hc562 => ?_) (fun hc562 => ?_)
            · refine lv_goto (tgt := 1144) hx hb dL_law_577 (by decide) ?_
              refine zi_inc (lv' := [(4, .int (iZ (i + 8))), (6, .int (iZ 0)), (5, .int (iZ 2)), (0, .ref b), (1, .ref o), (2, .ref mo), (3, .ref bo)]) hx hb dL_law_1144 hl (k := 6) rfl (by decide) rfl (fun ls hl => ?_)
              refine lv_goto (tgt := 23) hx hb dL_law_1147 (by decide) ?_
              have hF9 : V 0 = V1 0 := hR.symm
              have hN9 : ∀ j, 0 ≤ V1 0 j ∧ V1 0 j < 32003 := by
                rw [← hF9]
                exact hN
              exact kk V1 G k 2 w H locs ls (by omega) hN9 hG (lX_F hP hF9) hMo hS (lv_sub hl [3, 4, 5, 6, 0] rfl)
            · exfalso
              omega
          · exfalso
            omega
      · have f1 := hrZ_or (V 0) a1
        have f2 := itZ_or (V 0) a1
        refine lv_aload_n hx hb dL_law_524 rfl (lv_at hl 1 rfl) ?_
        refine lv_aload_n hx hb dL_law_525 rfl (lv_at hl 0 rfl) ?_
        refine lv_iload hx hb dL_law_526 (lv_at hl 4 rfl) ?_
        refine zi_const hx hb 1 dL_law_528 ?_
        refine zi_add hx hb dL_law_529 ?_
        refine lw_ld hx hb hX hbl hbA hS (by omega) ea1 dL_law_530 ?_
        refine lv_aload_n hx hb dL_law_531 rfl (lv_at hl 3 rfl) ?_
        refine hl_S (As := [.ref o, .int (iZ a1), .ref bo]) (rest := []) (st1 := [.int (iZ 0)]) S (hl_integrate_k0 l D o q1 q2 cI cJ tE tL (V 0) G k bo w hdl a1 hN (by omega) (by omega) (by omega)) tb_295 tb_296 tb_0 tb_297 hd_L_integrate ⟨rfl, rfl, by decide, by decide⟩ hP hK hs ht hnc hS hA hAn rfl hl.1 rfl (Nat.le_of_ble_eq_true rfl) dL_law_532 ⟨show cells + 0 ≤ 1043 from by omega, show slots + 0 ≤ 17677 from by omega⟩ rfl (fun H locs hP hS hz hkp => ?_)
        have hMo := mX_kept hMo hkp hcr
        refine lv_istore (lv' := [(5, .int (iZ 0)), (0, .ref b), (1, .ref o), (2, .ref mo), (3, .ref bo), (4, .int (iZ i))]) hx hb dL_law_535 hl (by decide) rfl (fun ls hl => ?_)
        refine lv_aload_n hx hb dL_law_537 rfl (lv_at hl 3 rfl) ?_
        refine lv_aload_n hx hb dL_law_538 rfl (lv_at hl 1 rfl) ?_
        refine lv_iload hx hb dL_law_539 (lv_at hl 5 rfl) ?_
        refine zi_const hx hb 1 dL_law_541 ?_
        refine zi_add hx hb dL_law_542 ?_
        refine lw_ld hx hb hX hbl hbA hS (by omega) ea1 dL_law_543 ?_
        refine wm_V (As := [.int (iZ a1)]) (rest := []) (st1 := [.int (iZ (-1))]) (c1 := 0) (k1 := k) S (k0_X1_integrate l D mo na cI cJ c0 k V a1 hdm hN (by omega) (by omega) (by omega)) tb_516 tb_517 tb_518 tb_2 tb_519 hd_X1_integrate ⟨rfl, rfl, by decide, by decide⟩ hMo hK hS hMA hAn rfl hl.1 rfl (Nat.le_of_ble_eq_true rfl) dL_law_544 ⟨show cells ≤ 1043 from by omega, show slots ≤ 17677 from by omega⟩ rfl (fun V1 H locs hR hMo hS hz hkp => ?_)
        have hP := lX_kept hP hkp hcr
        refine lv_istore (lv' := [(6, .int (iZ (-1))), (5, .int (iZ 0)), (0, .ref b), (1, .ref o), (2, .ref mo), (3, .ref bo), (4, .int (iZ i))]) hx hb dL_law_547 hl (by decide) rfl (fun ls hl => ?_)
        refine lv_aload_n hx hb dL_law_549 rfl (lv_at hl 4 rfl) ?_
        refine rd_V (As := []) (rest := []) (st1 := [.int (iZ 0)]) S (k_X1_thrown l D mo na cI cJ 0 k V1) tb_428 tb_429 tb_430 tb_2 tb_431 hd_X1_thrown ⟨rfl, rfl, by decide, by decide⟩ rM_bl (rM_mv hMo hK) (va_recv hK hMo (ci := 1) (q0 := 0) rfl rfl) rfl hl.1 rfl (Nat.le_of_ble_eq_true rfl) dL_law_550 ⟨show cells ≤ 1043 from by omega, show slots ≤ 17677 from by omega⟩ rfl ?_
        refine lv_iload hx hb dL_law_553 (lv_at hl 1 rfl) ?_
        refine zi_ceq (tgt := 560) hx hb dL_law_555 (by decide) (by omega) (by omega) (fun hc555 => ?_) (fun hc555 => ?_)
        · refine lv_iload hx hb dL_law_560 (lv_at hl 1 rfl) ?_
          refine zi_fne (tgt := 577) hx hb dL_law_562 (by decide) (by omega) (fun hc562 => ?_) (fun hc562 => ?_)
          · exfalso
            omega
          · refine lv_aload_n hx hb dL_law_565 rfl (lv_at hl 5 rfl) ?_
            refine zi_const hx hb 0 dL_law_566 ?_
            refine lw_ot hx hb hK hP (a := -1) rfl dL_law_567 ?_
            refine lv_iload hx hb dL_law_568 (lv_at hl 0 rfl) ?_
            refine zi_i2l hx hb dL_law_570 (by omega) ?_
            refine zl_ceq (tgt := 577) hx hb dL_law_571 dL_law_572 (by decide) (by omega) (by omega) (fun hc571 => ?_) (fun hc571 => ?_)
            · refine lv_goto (tgt := 1144) hx hb dL_law_577 (by decide) ?_
              refine zi_inc (lv' := [(4, .int (iZ (i + 8))), (6, .int (iZ (-1))), (5, .int (iZ 0)), (0, .ref b), (1, .ref o), (2, .ref mo), (3, .ref bo)]) hx hb dL_law_1144 hl (k := 6) rfl (by decide) rfl (fun ls hl => ?_)
              refine lv_goto (tgt := 23) hx hb dL_law_1147 (by decide) ?_
              have hF9 : V 0 = V1 0 := hR.symm
              have hN9 : ∀ j, 0 ≤ V1 0 j ∧ V1 0 j < 32003 := by
                rw [← hF9]
                exact hN
              refine W.widen (k := cells + 1) (n := slots + 6) (by omega) (by omega) ?_
              exact kk V1 G k 0 (uZ w 0 (-1)) H locs ls (by omega) hN9 hG (lX_F hP hF9) hMo hS (lv_sub hl [3, 4, 5, 6, 0] rfl)
            · refine zi_const hx hb 0 dL_law_575 ?_
              exfalso
              omega
        · exfalso
          omega
    · have f1 := hrZ_or (V 0) a1
      have f2 := itZ_or (V 0) a1
      refine lv_aload_n hx hb dL_law_524 rfl (lv_at hl 1 rfl) ?_
      refine lv_aload_n hx hb dL_law_525 rfl (lv_at hl 0 rfl) ?_
      refine lv_iload hx hb dL_law_526 (lv_at hl 4 rfl) ?_
      refine zi_const hx hb 1 dL_law_528 ?_
      refine zi_add hx hb dL_law_529 ?_
      refine lw_ld hx hb hX hbl hbA hS (by omega) ea1 dL_law_530 ?_
      refine lv_aload_n hx hb dL_law_531 rfl (lv_at hl 3 rfl) ?_
      refine hl_S (As := [.ref o, .int (iZ a1), .ref bo]) (rest := []) (st1 := [.int (iZ 2)]) S (hl_integrate_tS l hl0 D o q1 q2 cI cJ tE tL (V 0) G k bo w hdl a1 (by omega) (by omega) (by omega)) tb_295 tb_296 tb_0 tb_297 hd_L_integrate ⟨rfl, rfl, by decide, by decide⟩ hP hK hs ht hnc hS hA hAn rfl hl.1 rfl (Nat.le_of_ble_eq_true rfl) dL_law_532 ⟨show cells + 1 ≤ 1043 from by omega, show slots + 6 ≤ 17677 from by omega⟩ rfl (fun H locs hP hS hz hkp => ?_)
      have hMo := mX_kept hMo hkp hcr
      refine lv_istore (lv' := [(5, .int (iZ 2)), (0, .ref b), (1, .ref o), (2, .ref mo), (3, .ref bo), (4, .int (iZ i))]) hx hb dL_law_535 hl (by decide) rfl (fun ls hl => ?_)
      refine lv_aload_n hx hb dL_law_537 rfl (lv_at hl 3 rfl) ?_
      refine lv_aload_n hx hb dL_law_538 rfl (lv_at hl 1 rfl) ?_
      refine lv_iload hx hb dL_law_539 (lv_at hl 5 rfl) ?_
      refine zi_const hx hb 1 dL_law_541 ?_
      refine zi_add hx hb dL_law_542 ?_
      refine lw_ld hx hb hX hbl hbA hS (by omega) ea1 dL_law_543 ?_
      refine wm_V (As := [.int (iZ a1)]) (rest := []) (st1 := [.int (iZ 0)]) (c1 := 2) (k1 := k) S (kS_X1_integrate l D mo na cI cJ c0 k V a1 hdm (by omega) (by omega)) tb_516 tb_517 tb_518 tb_2 tb_519 hd_X1_integrate ⟨rfl, rfl, by decide, by decide⟩ hMo hK hS hMA hAn rfl hl.1 rfl (Nat.le_of_ble_eq_true rfl) dL_law_544 ⟨show cells + 1 ≤ 1043 from by omega, show slots + 6 ≤ 17677 from by omega⟩ rfl (fun V1 H locs hR hMo hS hz hkp => ?_)
      have hP := lX_kept hP hkp hcr
      refine lv_istore (lv' := [(6, .int (iZ 0)), (5, .int (iZ 2)), (0, .ref b), (1, .ref o), (2, .ref mo), (3, .ref bo), (4, .int (iZ i))]) hx hb dL_law_547 hl (by decide) rfl (fun ls hl => ?_)
      refine lv_aload_n hx hb dL_law_549 rfl (lv_at hl 4 rfl) ?_
      refine rd_V (As := []) (rest := []) (st1 := [.int (iZ 2)]) S (k_X1_thrown l D mo na cI cJ 2 k V1) tb_428 tb_429 tb_430 tb_2 tb_431 hd_X1_thrown ⟨rfl, rfl, by decide, by decide⟩ rM_bl (rM_mv hMo hK) (va_recv hK hMo (ci := 1) (q0 := 0) rfl rfl) rfl hl.1 rfl (Nat.le_of_ble_eq_true rfl) dL_law_550 ⟨show cells + 1 ≤ 1043 from by omega, show slots + 6 ≤ 17677 from by omega⟩ rfl ?_
      refine lv_iload hx hb dL_law_553 (lv_at hl 1 rfl) ?_
      refine zi_ceq (tgt := 560) hx hb dL_law_555 (by decide) (by omega) (by omega) (fun hc555 => ?_) (fun hc555 => ?_)
      · refine lv_iload hx hb dL_law_560 (lv_at hl 1 rfl) ?_
        refine zi_fne (tgt := 577) hx hb dL_law_562 (by decide) (by omega) (fun hc562 => ?_) (fun hc562 => ?_)
        · refine lv_goto (tgt := 1144) hx hb dL_law_577 (by decide) ?_
          refine zi_inc (lv' := [(4, .int (iZ (i + 8))), (6, .int (iZ 0)), (5, .int (iZ 2)), (0, .ref b), (1, .ref o), (2, .ref mo), (3, .ref bo)]) hx hb dL_law_1144 hl (k := 6) rfl (by decide) rfl (fun ls hl => ?_)
          refine lv_goto (tgt := 23) hx hb dL_law_1147 (by decide) ?_
          have hF9 : V 0 = V1 0 := (congrFun hR 0).symm
          have hN9 : ∀ j, 0 ≤ V1 0 j ∧ V1 0 j < 32003 := by
            rw [← hF9]
            exact hN
          exact kk V1 G k 2 w H locs ls (by omega) hN9 hG (lX_F hP hF9) hMo hS (lv_sub hl [3, 4, 5, 6, 0] rfl)
        · exfalso
          omega
      · exfalso
        omega
  · have f1 := hrZ_or (V 0) a1
    have f2 := itZ_or (V 0) a1
    refine lv_aload_n hx hb dL_law_524 rfl (lv_at hl 1 rfl) ?_
    refine lv_aload_n hx hb dL_law_525 rfl (lv_at hl 0 rfl) ?_
    refine lv_iload hx hb dL_law_526 (lv_at hl 4 rfl) ?_
    refine zi_const hx hb 1 dL_law_528 ?_
    refine zi_add hx hb dL_law_529 ?_
    refine lw_ld hx hb hX hbl hbA hS (by omega) ea1 dL_law_530 ?_
    refine lv_aload_n hx hb dL_law_531 rfl (lv_at hl 3 rfl) ?_
    refine hl_S (As := [.ref o, .int (iZ a1), .ref bo]) (rest := []) (st1 := [.int (iZ 1)]) S (hl_integrate_tO l hl0 D o q1 q2 cI cJ tE tL (V 0) G k bo w hdl a1 (by omega) (by omega) (by omega)) tb_295 tb_296 tb_0 tb_297 hd_L_integrate ⟨rfl, rfl, by decide, by decide⟩ hP hK hs ht hnc hS hA hAn rfl hl.1 rfl (Nat.le_of_ble_eq_true rfl) dL_law_532 ⟨show cells + 1 ≤ 1043 from by omega, show slots + 6 ≤ 17677 from by omega⟩ rfl (fun H locs hP hS hz hkp => ?_)
    have hMo := mX_kept hMo hkp hcr
    refine lv_istore (lv' := [(5, .int (iZ 1)), (0, .ref b), (1, .ref o), (2, .ref mo), (3, .ref bo), (4, .int (iZ i))]) hx hb dL_law_535 hl (by decide) rfl (fun ls hl => ?_)
    refine lv_aload_n hx hb dL_law_537 rfl (lv_at hl 3 rfl) ?_
    refine lv_aload_n hx hb dL_law_538 rfl (lv_at hl 1 rfl) ?_
    refine lv_iload hx hb dL_law_539 (lv_at hl 5 rfl) ?_
    refine zi_const hx hb 1 dL_law_541 ?_
    refine zi_add hx hb dL_law_542 ?_
    refine lw_ld hx hb hX hbl hbA hS (by omega) ea1 dL_law_543 ?_
    refine wm_V (As := [.int (iZ a1)]) (rest := []) (st1 := [.int (iZ 0)]) (c1 := 1) (k1 := k) S (kO_X1_integrate l D mo na cI cJ c0 k V a1 hdm (by omega) (by omega) (by omega)) tb_516 tb_517 tb_518 tb_2 tb_519 hd_X1_integrate ⟨rfl, rfl, by decide, by decide⟩ hMo hK hS hMA hAn rfl hl.1 rfl (Nat.le_of_ble_eq_true rfl) dL_law_544 ⟨show cells + 1 ≤ 1043 from by omega, show slots + 6 ≤ 17677 from by omega⟩ rfl (fun V1 H locs hR hMo hS hz hkp => ?_)
    have hP := lX_kept hP hkp hcr
    refine lv_istore (lv' := [(6, .int (iZ 0)), (5, .int (iZ 1)), (0, .ref b), (1, .ref o), (2, .ref mo), (3, .ref bo), (4, .int (iZ i))]) hx hb dL_law_547 hl (by decide) rfl (fun ls hl => ?_)
    refine lv_aload_n hx hb dL_law_549 rfl (lv_at hl 4 rfl) ?_
    refine rd_V (As := []) (rest := []) (st1 := [.int (iZ 1)]) S (k_X1_thrown l D mo na cI cJ 1 k V1) tb_428 tb_429 tb_430 tb_2 tb_431 hd_X1_thrown ⟨rfl, rfl, by decide, by decide⟩ rM_bl (rM_mv hMo hK) (va_recv hK hMo (ci := 1) (q0 := 0) rfl rfl) rfl hl.1 rfl (Nat.le_of_ble_eq_true rfl) dL_law_550 ⟨show cells + 1 ≤ 1043 from by omega, show slots + 6 ≤ 17677 from by omega⟩ rfl ?_
    refine lv_iload hx hb dL_law_553 (lv_at hl 1 rfl) ?_
    refine zi_ceq (tgt := 560) hx hb dL_law_555 (by decide) (by omega) (by omega) (fun hc555 => ?_) (fun hc555 => ?_)
    · refine lv_iload hx hb dL_law_560 (lv_at hl 1 rfl) ?_
      refine zi_fne (tgt := 577) hx hb dL_law_562 (by decide) (by omega) (fun hc562 => ?_) (fun hc562 => ?_)
      · refine lv_goto (tgt := 1144) hx hb dL_law_577 (by decide) ?_
        refine zi_inc (lv' := [(4, .int (iZ (i + 8))), (6, .int (iZ 0)), (5, .int (iZ 1)), (0, .ref b), (1, .ref o), (2, .ref mo), (3, .ref bo)]) hx hb dL_law_1144 hl (k := 6) rfl (by decide) rfl (fun ls hl => ?_)
        refine lv_goto (tgt := 23) hx hb dL_law_1147 (by decide) ?_
        have hF9 : V 0 = V1 0 := (congrFun hR 0).symm
        have hN9 : ∀ j, 0 ≤ V1 0 j ∧ V1 0 j < 32003 := by
          rw [← hF9]
          exact hN
        exact kk V1 G k 1 w H locs ls (by omega) hN9 hG (lX_F hP hF9) hMo hS (lv_sub hl [3, 4, 5, 6, 0] rfl)
      · exfalso
        omega
    · exfalso
      omega
set_option maxHeartbeats 4000000 in
set_option maxRecDepth 100000 in
theorem lc_rest (l : Launch) (hl0 : l.stackTraces = false) {p : Program} {e : Env} {s : State} {m : MethodId} {below : List Frame} {meth : Method} {c : Code} {b L : Nat} {xs : Nat → Int32} {A : Nat → Prop} {D : va_G} {o q1 q2 : Nat} {cI cJ : ClassId} {tE tL bo mo : Nat} {na : Nat → Nat} {Q : State → Prop} (E9 : lawE p s m c b L xs A D o q1 q2 cI cJ tE tL bo mo na) {H : Heap} {locs : List Loc} {cells slots : Nat} {ls : Array Slot} (V : Nat → Nat → Int) (G : Nat → Int) (k c0 : Int) (w : Nat → Int) (i : Int) (hk : 0 ≤ k ∧ k ≤ 60) (hN : ∀ j, 0 ≤ V 0 j ∧ V 0 j < 32003) (hG : ∀ j, 0 ≤ G j ∧ G j < 32003) (hP : va_P D vwCl (lX o q1 q2 cI cJ (V 0) G k bo w) H) (hMo : va_P D vwCl (mX mo na cI cJ c0 k V) H) (hS : va_S A s.heap H locs) (hi : 0 ≤ i ∧ i + 8 ≤ L) (hcs : cells + 1 ≤ 1043 ∧ slots + 6 ≤ 17677) (hl : lv_has ls 7 [(0, .ref b), (1, .ref o), (2, .ref mo), (3, .ref bo), (4, .int (iZ i))]) (kk : ∀ (V : Nat → Nat → Int) (G : Nat → Int) (k c0 : Int) (w : Nat → Int) (H : Heap) (locs : List Loc) (ls : Array Slot), 0 ≤ k ∧ k ≤ 60 → (∀ j, 0 ≤ V 0 j ∧ V 0 j < 32003) → (∀ j, 0 ≤ G j ∧ G j < 32003) → va_P D vwCl (lX o q1 q2 cI cJ (V 0) G k bo w) H → va_P D vwCl (mX mo na cI cJ c0 k V) H → va_S A s.heap H locs → lv_has ls 7 [(0, .ref b), (1, .ref o), (2, .ref mo), (3, .ref bo), (4, .int (iZ (i + 8)))] → W p l e room_1 s m #[Value.ref b] below meth c H locs (cells + 1) (slots + 6) Q (F0 m 23 ls [])) : W p l e room_1 s m #[Value.ref b] below meth c H locs cells slots Q (F0 m 580 ls []) := by
  obtain ⟨S, hX, hbl, hbA, hAn, hK, hs, ht, hnc, hA, hMA, hdl, hdm, hcr, hL⟩ := id E9
  obtain ⟨hx, hb, hml, hown, hT⟩ := id S
  obtain ⟨a1, ea1⟩ : ∃ a : Int, a = xZ xs (i + 1) := ⟨_, rfl⟩
  have ra1 := xZ_rng xs (i + 1)
  rw [← ea1] at ra1
  obtain ⟨a2, ea2⟩ : ∃ a : Int, a = xZ xs (i + 2) := ⟨_, rfl⟩
  have ra2 := xZ_rng xs (i + 2)
  rw [← ea2] at ra2
  obtain ⟨a3, ea3⟩ : ∃ a : Int, a = xZ xs (i + 3) := ⟨_, rfl⟩
  have ra3 := xZ_rng xs (i + 3)
  rw [← ea3] at ra3
  obtain ⟨a4, ea4⟩ : ∃ a : Int, a = xZ xs (i + 4) := ⟨_, rfl⟩
  have ra4 := xZ_rng xs (i + 4)
  rw [← ea4] at ra4
  obtain ⟨a5, ea5⟩ : ∃ a : Int, a = xZ xs (i + 5) := ⟨_, rfl⟩
  have ra5 := xZ_rng xs (i + 5)
  rw [← ea5] at ra5
  obtain ⟨a6, ea6⟩ : ∃ a : Int, a = xZ xs (i + 6) := ⟨_, rfl⟩
  have ra6 := xZ_rng xs (i + 6)
  rw [← ea6] at ra6
  obtain ⟨a7, ea7⟩ : ∃ a : Int, a = xZ xs (i + 7) := ⟨_, rfl⟩
  have ra7 := xZ_rng xs (i + 7)
  rw [← ea7] at ra7
  by_cases g2 : 0 ≤ a1 ∧ a1 < k
  · by_cases g4 : 0 ≤ a2 ∧ a2 < 8
    · have f1 : 0 ≤ rsZ (V 0) a1 a2 ∧ rsZ (V 0) a1 a2 < 32003 := by unfold rsZ; split <;> omega
      refine lv_aload_n hx hb dL_law_580 rfl (lv_at hl 1 rfl) ?_
      refine lv_aload_n hx hb dL_law_581 rfl (lv_at hl 0 rfl) ?_
      refine lv_iload hx hb dL_law_582 (lv_at hl 4 rfl) ?_
      refine zi_const hx hb 1 dL_law_584 ?_
      refine zi_add hx hb dL_law_585 ?_
      refine lw_ld hx hb hX hbl hbA hS (by omega) ea1 dL_law_586 ?_
      refine lv_aload_n hx hb dL_law_587 rfl (lv_at hl 0 rfl) ?_
      refine lv_iload hx hb dL_law_588 (lv_at hl 4 rfl) ?_
      refine zi_const hx hb 2 dL_law_590 ?_
      refine zi_add hx hb dL_law_591 ?_
      refine lw_ld hx hb hX hbl hbA hS (by omega) ea2 dL_law_592 ?_
      refine lv_aload_n hx hb dL_law_593 rfl (lv_at hl 3 rfl) ?_
      refine hl_S (As := [.ref o, .int (iZ a1), .int (iZ a2), .ref bo]) (rest := []) (st1 := [.int (iZ 0)]) S (hl_rest_k l D o q1 q2 cI cJ tE tL (V 0) G k bo w hdl a1 a2 hN (by omega) (by omega)) tb_339 tb_340 tb_0 tb_341 hd_L_rest ⟨rfl, rfl, by decide, by decide⟩ hP hK hs ht hnc hS hA hAn rfl hl.1 rfl (Nat.le_of_ble_eq_true rfl) dL_law_594 ⟨show cells + 0 ≤ 1043 from by omega, show slots + 0 ≤ 17677 from by omega⟩ rfl (fun H locs hP hS hz hkp => ?_)
      have hMo := mX_kept hMo hkp hcr
      refine lv_istore (lv' := [(5, .int (iZ 0)), (0, .ref b), (1, .ref o), (2, .ref mo), (3, .ref bo), (4, .int (iZ i))]) hx hb dL_law_597 hl (by decide) rfl (fun ls hl => ?_)
      refine lv_aload_n hx hb dL_law_599 rfl (lv_at hl 3 rfl) ?_
      refine lv_aload_n hx hb dL_law_600 rfl (lv_at hl 1 rfl) ?_
      refine lv_iload hx hb dL_law_601 (lv_at hl 5 rfl) ?_
      refine zi_const hx hb 1 dL_law_603 ?_
      refine zi_add hx hb dL_law_604 ?_
      refine lw_ld hx hb hX hbl hbA hS (by omega) ea1 dL_law_605 ?_
      refine lv_aload_n hx hb dL_law_606 rfl (lv_at hl 1 rfl) ?_
      refine lv_iload hx hb dL_law_607 (lv_at hl 5 rfl) ?_
      refine zi_const hx hb 2 dL_law_609 ?_
      refine zi_add hx hb dL_law_610 ?_
      refine lw_ld hx hb hX hbl hbA hS (by omega) ea2 dL_law_611 ?_
      refine wm_V (As := [.int (iZ a1), .int (iZ a2)]) (rest := []) (st1 := [.int (iZ (rsZ (V 0) a1 a2))]) (c1 := 0) (k1 := k) S (k_X1_rest l D mo na cI cJ c0 k V a1 a2 hdm hN (by omega) (by omega) (by omega)) tb_505 tb_506 tb_507 tb_2 tb_508 hd_X1_rest ⟨rfl, rfl, by decide, by decide⟩ hMo hK hS hMA hAn rfl hl.1 rfl (Nat.le_of_ble_eq_true rfl) dL_law_612 ⟨show cells ≤ 1043 from by omega, show slots ≤ 17677 from by omega⟩ rfl (fun V1 H locs hR hMo hS hz hkp => ?_)
      have hP := lX_kept hP hkp hcr
      refine zi_top (fun v1 ev1 => ?_)
      refine lv_istore (lv' := [(6, .int (iZ v1)), (5, .int (iZ 0)), (0, .ref b), (1, .ref o), (2, .ref mo), (3, .ref bo), (4, .int (iZ i))]) hx hb dL_law_615 hl (by decide) rfl (fun ls hl => ?_)
      refine lv_aload_n hx hb dL_law_617 rfl (lv_at hl 4 rfl) ?_
      refine rd_V (As := []) (rest := []) (st1 := [.int (iZ 0)]) S (k_X1_thrown l D mo na cI cJ 0 k V1) tb_428 tb_429 tb_430 tb_2 tb_431 hd_X1_thrown ⟨rfl, rfl, by decide, by decide⟩ rM_bl (rM_mv hMo hK) (va_recv hK hMo (ci := 1) (q0 := 0) rfl rfl) rfl hl.1 rfl (Nat.le_of_ble_eq_true rfl) dL_law_618 ⟨show cells ≤ 1043 from by omega, show slots ≤ 17677 from by omega⟩ rfl ?_
      refine lv_iload hx hb dL_law_621 (lv_at hl 1 rfl) ?_
      refine zi_ceq (tgt := 628) hx hb dL_law_623 (by decide) (by omega) (by omega) (fun hc623 => ?_) (fun hc623 => ?_)
      · refine lv_iload hx hb dL_law_628 (lv_at hl 1 rfl) ?_
        refine zi_fne (tgt := 645) hx hb dL_law_630 (by decide) (by omega) (fun hc630 => ?_) (fun hc630 => ?_)
        · exfalso
          omega
        · refine lv_aload_n hx hb dL_law_633 rfl (lv_at hl 5 rfl) ?_
          refine zi_const hx hb 0 dL_law_634 ?_
          refine lw_ot hx hb hK hP (a := rsZ (V 0) a1 a2) rfl dL_law_635 ?_
          refine lv_iload hx hb dL_law_636 (lv_at hl 0 rfl) ?_
          refine zi_i2l hx hb dL_law_638 (by omega) ?_
          refine zl_ceq (tgt := 645) hx hb dL_law_639 dL_law_640 (by decide) (by omega) (by omega) (fun hc639 => ?_) (fun hc639 => ?_)
          · refine lv_goto (tgt := 1144) hx hb dL_law_645 (by decide) ?_
            refine zi_inc (lv' := [(4, .int (iZ (i + 8))), (6, .int (iZ v1)), (5, .int (iZ 0)), (0, .ref b), (1, .ref o), (2, .ref mo), (3, .ref bo)]) hx hb dL_law_1144 hl (k := 6) rfl (by decide) rfl (fun ls hl => ?_)
            refine lv_goto (tgt := 23) hx hb dL_law_1147 (by decide) ?_
            have hF9 : V 0 = V1 0 := hR.symm
            have hN9 : ∀ j, 0 ≤ V1 0 j ∧ V1 0 j < 32003 := by
              rw [← hF9]
              exact hN
            refine W.widen (k := cells + 1) (n := slots + 6) (by omega) (by omega) ?_
            exact kk V1 G k 0 (uZ w 0 (rsZ (V 0) a1 a2)) H locs ls (by omega) hN9 hG (lX_F hP hF9) hMo hS (lv_sub hl [3, 4, 5, 6, 0] rfl)
          · refine zi_const hx hb 0 dL_law_643 ?_
            exfalso
            omega
      · exfalso
        omega
    · have f1 : 0 ≤ rsZ (V 0) a1 a2 ∧ rsZ (V 0) a1 a2 < 32003 := by unfold rsZ; split <;> omega
      refine lv_aload_n hx hb dL_law_580 rfl (lv_at hl 1 rfl) ?_
      refine lv_aload_n hx hb dL_law_581 rfl (lv_at hl 0 rfl) ?_
      refine lv_iload hx hb dL_law_582 (lv_at hl 4 rfl) ?_
      refine zi_const hx hb 1 dL_law_584 ?_
      refine zi_add hx hb dL_law_585 ?_
      refine lw_ld hx hb hX hbl hbA hS (by omega) ea1 dL_law_586 ?_
      refine lv_aload_n hx hb dL_law_587 rfl (lv_at hl 0 rfl) ?_
      refine lv_iload hx hb dL_law_588 (lv_at hl 4 rfl) ?_
      refine zi_const hx hb 2 dL_law_590 ?_
      refine zi_add hx hb dL_law_591 ?_
      refine lw_ld hx hb hX hbl hbA hS (by omega) ea2 dL_law_592 ?_
      refine lv_aload_n hx hb dL_law_593 rfl (lv_at hl 3 rfl) ?_
      refine hl_S (As := [.ref o, .int (iZ a1), .int (iZ a2), .ref bo]) (rest := []) (st1 := [.int (iZ 2)]) S (hl_rest_tA l hl0 D o q1 q2 cI cJ tE tL (V 0) G k bo w hdl a1 a2 (by omega) (by omega) (by omega) (by omega)) tb_339 tb_340 tb_0 tb_341 hd_L_rest ⟨rfl, rfl, by decide, by decide⟩ hP hK hs ht hnc hS hA hAn rfl hl.1 rfl (Nat.le_of_ble_eq_true rfl) dL_law_594 ⟨show cells + 1 ≤ 1043 from by omega, show slots + 6 ≤ 17677 from by omega⟩ rfl (fun H locs hP hS hz hkp => ?_)
      have hMo := mX_kept hMo hkp hcr
      refine lv_istore (lv' := [(5, .int (iZ 2)), (0, .ref b), (1, .ref o), (2, .ref mo), (3, .ref bo), (4, .int (iZ i))]) hx hb dL_law_597 hl (by decide) rfl (fun ls hl => ?_)
      refine lv_aload_n hx hb dL_law_599 rfl (lv_at hl 3 rfl) ?_
      refine lv_aload_n hx hb dL_law_600 rfl (lv_at hl 1 rfl) ?_
      refine lv_iload hx hb dL_law_601 (lv_at hl 5 rfl) ?_
      refine zi_const hx hb 1 dL_law_603 ?_
      refine zi_add hx hb dL_law_604 ?_
      refine lw_ld hx hb hX hbl hbA hS (by omega) ea1 dL_law_605 ?_
      refine lv_aload_n hx hb dL_law_606 rfl (lv_at hl 1 rfl) ?_
      refine lv_iload hx hb dL_law_607 (lv_at hl 5 rfl) ?_
      refine zi_const hx hb 2 dL_law_609 ?_
      refine zi_add hx hb dL_law_610 ?_
      refine lw_ld hx hb hX hbl hbA hS (by omega) ea2 dL_law_611 ?_
      refine wm_V (As := [.int (iZ a1), .int (iZ a2)]) (rest := []) (st1 := [.int (iZ 0)]) (c1 := 2) (k1 := k) S (kA_X1_rest l D mo na cI cJ c0 k V a1 a2 hdm (by omega) (by omega) (by omega) (by omega)) tb_505 tb_506 tb_507 tb_2 tb_508 hd_X1_rest ⟨rfl, rfl, by decide, by decide⟩ hMo hK hS hMA hAn rfl hl.1 rfl (Nat.le_of_ble_eq_true rfl) dL_law_612 ⟨show cells + 1 ≤ 1043 from by omega, show slots + 6 ≤ 17677 from by omega⟩ rfl (fun V1 H locs hR hMo hS hz hkp => ?_)
      have hP := lX_kept hP hkp hcr
      refine lv_istore (lv' := [(6, .int (iZ 0)), (5, .int (iZ 2)), (0, .ref b), (1, .ref o), (2, .ref mo), (3, .ref bo), (4, .int (iZ i))]) hx hb dL_law_615 hl (by decide) rfl (fun ls hl => ?_)
      refine lv_aload_n hx hb dL_law_617 rfl (lv_at hl 4 rfl) ?_
      refine rd_V (As := []) (rest := []) (st1 := [.int (iZ 2)]) S (k_X1_thrown l D mo na cI cJ 2 k V1) tb_428 tb_429 tb_430 tb_2 tb_431 hd_X1_thrown ⟨rfl, rfl, by decide, by decide⟩ rM_bl (rM_mv hMo hK) (va_recv hK hMo (ci := 1) (q0 := 0) rfl rfl) rfl hl.1 rfl (Nat.le_of_ble_eq_true rfl) dL_law_618 ⟨show cells + 1 ≤ 1043 from by omega, show slots + 6 ≤ 17677 from by omega⟩ rfl ?_
      refine lv_iload hx hb dL_law_621 (lv_at hl 1 rfl) ?_
      refine zi_ceq (tgt := 628) hx hb dL_law_623 (by decide) (by omega) (by omega) (fun hc623 => ?_) (fun hc623 => ?_)
      · refine lv_iload hx hb dL_law_628 (lv_at hl 1 rfl) ?_
        refine zi_fne (tgt := 645) hx hb dL_law_630 (by decide) (by omega) (fun hc630 => ?_) (fun hc630 => ?_)
        · refine lv_goto (tgt := 1144) hx hb dL_law_645 (by decide) ?_
          refine zi_inc (lv' := [(4, .int (iZ (i + 8))), (6, .int (iZ 0)), (5, .int (iZ 2)), (0, .ref b), (1, .ref o), (2, .ref mo), (3, .ref bo)]) hx hb dL_law_1144 hl (k := 6) rfl (by decide) rfl (fun ls hl => ?_)
          refine lv_goto (tgt := 23) hx hb dL_law_1147 (by decide) ?_
          have hF9 : V 0 = V1 0 := (congrFun hR 0).symm
          have hN9 : ∀ j, 0 ≤ V1 0 j ∧ V1 0 j < 32003 := by
            rw [← hF9]
            exact hN
          exact kk V1 G k 2 w H locs ls (by omega) hN9 hG (lX_F hP hF9) hMo hS (lv_sub hl [3, 4, 5, 6, 0] rfl)
        · exfalso
          omega
      · exfalso
        omega
  · have f1 : 0 ≤ rsZ (V 0) a1 a2 ∧ rsZ (V 0) a1 a2 < 32003 := by unfold rsZ; split <;> omega
    refine lv_aload_n hx hb dL_law_580 rfl (lv_at hl 1 rfl) ?_
    refine lv_aload_n hx hb dL_law_581 rfl (lv_at hl 0 rfl) ?_
    refine lv_iload hx hb dL_law_582 (lv_at hl 4 rfl) ?_
    refine zi_const hx hb 1 dL_law_584 ?_
    refine zi_add hx hb dL_law_585 ?_
    refine lw_ld hx hb hX hbl hbA hS (by omega) ea1 dL_law_586 ?_
    refine lv_aload_n hx hb dL_law_587 rfl (lv_at hl 0 rfl) ?_
    refine lv_iload hx hb dL_law_588 (lv_at hl 4 rfl) ?_
    refine zi_const hx hb 2 dL_law_590 ?_
    refine zi_add hx hb dL_law_591 ?_
    refine lw_ld hx hb hX hbl hbA hS (by omega) ea2 dL_law_592 ?_
    refine lv_aload_n hx hb dL_law_593 rfl (lv_at hl 3 rfl) ?_
    refine hl_S (As := [.ref o, .int (iZ a1), .int (iZ a2), .ref bo]) (rest := []) (st1 := [.int (iZ 1)]) S (hl_rest_tO l hl0 D o q1 q2 cI cJ tE tL (V 0) G k bo w hdl a1 a2 (by omega) (by omega) (by omega) (by omega)) tb_339 tb_340 tb_0 tb_341 hd_L_rest ⟨rfl, rfl, by decide, by decide⟩ hP hK hs ht hnc hS hA hAn rfl hl.1 rfl (Nat.le_of_ble_eq_true rfl) dL_law_594 ⟨show cells + 1 ≤ 1043 from by omega, show slots + 6 ≤ 17677 from by omega⟩ rfl (fun H locs hP hS hz hkp => ?_)
    have hMo := mX_kept hMo hkp hcr
    refine lv_istore (lv' := [(5, .int (iZ 1)), (0, .ref b), (1, .ref o), (2, .ref mo), (3, .ref bo), (4, .int (iZ i))]) hx hb dL_law_597 hl (by decide) rfl (fun ls hl => ?_)
    refine lv_aload_n hx hb dL_law_599 rfl (lv_at hl 3 rfl) ?_
    refine lv_aload_n hx hb dL_law_600 rfl (lv_at hl 1 rfl) ?_
    refine lv_iload hx hb dL_law_601 (lv_at hl 5 rfl) ?_
    refine zi_const hx hb 1 dL_law_603 ?_
    refine zi_add hx hb dL_law_604 ?_
    refine lw_ld hx hb hX hbl hbA hS (by omega) ea1 dL_law_605 ?_
    refine lv_aload_n hx hb dL_law_606 rfl (lv_at hl 1 rfl) ?_
    refine lv_iload hx hb dL_law_607 (lv_at hl 5 rfl) ?_
    refine zi_const hx hb 2 dL_law_609 ?_
    refine zi_add hx hb dL_law_610 ?_
    refine lw_ld hx hb hX hbl hbA hS (by omega) ea2 dL_law_611 ?_
    refine wm_V (As := [.int (iZ a1), .int (iZ a2)]) (rest := []) (st1 := [.int (iZ 0)]) (c1 := 1) (k1 := k) S (kO_X1_rest l D mo na cI cJ c0 k V a1 a2 hdm (by omega) (by omega) (by omega) (by omega)) tb_505 tb_506 tb_507 tb_2 tb_508 hd_X1_rest ⟨rfl, rfl, by decide, by decide⟩ hMo hK hS hMA hAn rfl hl.1 rfl (Nat.le_of_ble_eq_true rfl) dL_law_612 ⟨show cells + 1 ≤ 1043 from by omega, show slots + 6 ≤ 17677 from by omega⟩ rfl (fun V1 H locs hR hMo hS hz hkp => ?_)
    have hP := lX_kept hP hkp hcr
    refine lv_istore (lv' := [(6, .int (iZ 0)), (5, .int (iZ 1)), (0, .ref b), (1, .ref o), (2, .ref mo), (3, .ref bo), (4, .int (iZ i))]) hx hb dL_law_615 hl (by decide) rfl (fun ls hl => ?_)
    refine lv_aload_n hx hb dL_law_617 rfl (lv_at hl 4 rfl) ?_
    refine rd_V (As := []) (rest := []) (st1 := [.int (iZ 1)]) S (k_X1_thrown l D mo na cI cJ 1 k V1) tb_428 tb_429 tb_430 tb_2 tb_431 hd_X1_thrown ⟨rfl, rfl, by decide, by decide⟩ rM_bl (rM_mv hMo hK) (va_recv hK hMo (ci := 1) (q0 := 0) rfl rfl) rfl hl.1 rfl (Nat.le_of_ble_eq_true rfl) dL_law_618 ⟨show cells + 1 ≤ 1043 from by omega, show slots + 6 ≤ 17677 from by omega⟩ rfl ?_
    refine lv_iload hx hb dL_law_621 (lv_at hl 1 rfl) ?_
    refine zi_ceq (tgt := 628) hx hb dL_law_623 (by decide) (by omega) (by omega) (fun hc623 => ?_) (fun hc623 => ?_)
    · refine lv_iload hx hb dL_law_628 (lv_at hl 1 rfl) ?_
      refine zi_fne (tgt := 645) hx hb dL_law_630 (by decide) (by omega) (fun hc630 => ?_) (fun hc630 => ?_)
      · refine lv_goto (tgt := 1144) hx hb dL_law_645 (by decide) ?_
        refine zi_inc (lv' := [(4, .int (iZ (i + 8))), (6, .int (iZ 0)), (5, .int (iZ 1)), (0, .ref b), (1, .ref o), (2, .ref mo), (3, .ref bo)]) hx hb dL_law_1144 hl (k := 6) rfl (by decide) rfl (fun ls hl => ?_)
        refine lv_goto (tgt := 23) hx hb dL_law_1147 (by decide) ?_
        have hF9 : V 0 = V1 0 := (congrFun hR 0).symm
        have hN9 : ∀ j, 0 ≤ V1 0 j ∧ V1 0 j < 32003 := by
          rw [← hF9]
          exact hN
        exact kk V1 G k 1 w H locs ls (by omega) hN9 hG (lX_F hP hF9) hMo hS (lv_sub hl [3, 4, 5, 6, 0] rfl)
      · exfalso
        omega
    · exfalso
      omega
set_option maxHeartbeats 4000000 in
set_option maxRecDepth 100000 in
theorem lc_at (l : Launch) (hl0 : l.stackTraces = false) {p : Program} {e : Env} {s : State} {m : MethodId} {below : List Frame} {meth : Method} {c : Code} {b L : Nat} {xs : Nat → Int32} {A : Nat → Prop} {D : va_G} {o q1 q2 : Nat} {cI cJ : ClassId} {tE tL bo mo : Nat} {na : Nat → Nat} {Q : State → Prop} (E9 : lawE p s m c b L xs A D o q1 q2 cI cJ tE tL bo mo na) {H : Heap} {locs : List Loc} {cells slots : Nat} {ls : Array Slot} (V : Nat → Nat → Int) (G : Nat → Int) (k c0 : Int) (w : Nat → Int) (i : Int) (hk : 0 ≤ k ∧ k ≤ 60) (hN : ∀ j, 0 ≤ V 0 j ∧ V 0 j < 32003) (hG : ∀ j, 0 ≤ G j ∧ G j < 32003) (hP : va_P D vwCl (lX o q1 q2 cI cJ (V 0) G k bo w) H) (hMo : va_P D vwCl (mX mo na cI cJ c0 k V) H) (hS : va_S A s.heap H locs) (hi : 0 ≤ i ∧ i + 8 ≤ L) (hcs : cells + 1 ≤ 1043 ∧ slots + 6 ≤ 17677) (hl : lv_has ls 7 [(0, .ref b), (1, .ref o), (2, .ref mo), (3, .ref bo), (4, .int (iZ i))]) (kk : ∀ (V : Nat → Nat → Int) (G : Nat → Int) (k c0 : Int) (w : Nat → Int) (H : Heap) (locs : List Loc) (ls : Array Slot), 0 ≤ k ∧ k ≤ 60 → (∀ j, 0 ≤ V 0 j ∧ V 0 j < 32003) → (∀ j, 0 ≤ G j ∧ G j < 32003) → va_P D vwCl (lX o q1 q2 cI cJ (V 0) G k bo w) H → va_P D vwCl (mX mo na cI cJ c0 k V) H → va_S A s.heap H locs → lv_has ls 7 [(0, .ref b), (1, .ref o), (2, .ref mo), (3, .ref bo), (4, .int (iZ (i + 8)))] → W p l e room_1 s m #[Value.ref b] below meth c H locs (cells + 1) (slots + 6) Q (F0 m 23 ls [])) : W p l e room_1 s m #[Value.ref b] below meth c H locs cells slots Q (F0 m 648 ls []) := by
  obtain ⟨S, hX, hbl, hbA, hAn, hK, hs, ht, hnc, hA, hMA, hdl, hdm, hcr, hL⟩ := id E9
  obtain ⟨hx, hb, hml, hown, hT⟩ := id S
  obtain ⟨a1, ea1⟩ : ∃ a : Int, a = xZ xs (i + 1) := ⟨_, rfl⟩
  have ra1 := xZ_rng xs (i + 1)
  rw [← ea1] at ra1
  obtain ⟨a2, ea2⟩ : ∃ a : Int, a = xZ xs (i + 2) := ⟨_, rfl⟩
  have ra2 := xZ_rng xs (i + 2)
  rw [← ea2] at ra2
  obtain ⟨a3, ea3⟩ : ∃ a : Int, a = xZ xs (i + 3) := ⟨_, rfl⟩
  have ra3 := xZ_rng xs (i + 3)
  rw [← ea3] at ra3
  obtain ⟨a4, ea4⟩ : ∃ a : Int, a = xZ xs (i + 4) := ⟨_, rfl⟩
  have ra4 := xZ_rng xs (i + 4)
  rw [← ea4] at ra4
  obtain ⟨a5, ea5⟩ : ∃ a : Int, a = xZ xs (i + 5) := ⟨_, rfl⟩
  have ra5 := xZ_rng xs (i + 5)
  rw [← ea5] at ra5
  obtain ⟨a6, ea6⟩ : ∃ a : Int, a = xZ xs (i + 6) := ⟨_, rfl⟩
  have ra6 := xZ_rng xs (i + 6)
  rw [← ea6] at ra6
  obtain ⟨a7, ea7⟩ : ∃ a : Int, a = xZ xs (i + 7) := ⟨_, rfl⟩
  have ra7 := xZ_rng xs (i + 7)
  rw [← ea7] at ra7
  by_cases g2 : 0 ≤ a1 ∧ a1 < k
  · by_cases g4 : (0 ≤ a2 ∧ a2 < 8) ∧ (-4 ≤ a3 ∧ a3 ≤ 4)
    · have f1 := nuZ_rng hN a1 a2 a3
      refine lv_aload_n hx hb dL_law_648 rfl (lv_at hl 1 rfl) ?_
      refine lv_aload_n hx hb dL_law_649 rfl (lv_at hl 0 rfl) ?_
      refine lv_iload hx hb dL_law_650 (lv_at hl 4 rfl) ?_
      refine zi_const hx hb 1 dL_law_652 ?_
      refine zi_add hx hb dL_law_653 ?_
      refine lw_ld hx hb hX hbl hbA hS (by omega) ea1 dL_law_654 ?_
      refine lv_aload_n hx hb dL_law_655 rfl (lv_at hl 0 rfl) ?_
      refine lv_iload hx hb dL_law_656 (lv_at hl 4 rfl) ?_
      refine zi_const hx hb 2 dL_law_658 ?_
      refine zi_add hx hb dL_law_659 ?_
      refine lw_ld hx hb hX hbl hbA hS (by omega) ea2 dL_law_660 ?_
      refine lv_aload_n hx hb dL_law_661 rfl (lv_at hl 0 rfl) ?_
      refine lv_iload hx hb dL_law_662 (lv_at hl 4 rfl) ?_
      refine zi_const hx hb 3 dL_law_664 ?_
      refine zi_add hx hb dL_law_665 ?_
      refine lw_ld hx hb hX hbl hbA hS (by omega) ea3 dL_law_666 ?_
      refine lv_aload_n hx hb dL_law_667 rfl (lv_at hl 3 rfl) ?_
      refine hl_S (As := [.ref o, .int (iZ a1), .int (iZ a2), .int (iZ a3), .ref bo]) (rest := []) (st1 := [.int (iZ 0)]) S (hl_at_k l D o q1 q2 cI cJ tE tL (V 0) G k bo w hdl a1 a2 a3 hN (by omega) (by omega) (by omega)) tb_346 tb_347 tb_0 tb_348 hd_L_at ⟨rfl, rfl, by decide, by decide⟩ hP hK hs ht hnc hS hA hAn rfl hl.1 rfl (Nat.le_of_ble_eq_true rfl) dL_law_668 ⟨show cells + 0 ≤ 1043 from by omega, show slots + 0 ≤ 17677 from by omega⟩ rfl (fun H locs hP hS hz hkp => ?_)
      have hMo := mX_kept hMo hkp hcr
      refine lv_istore (lv' := [(5, .int (iZ 0)), (0, .ref b), (1, .ref o), (2, .ref mo), (3, .ref bo), (4, .int (iZ i))]) hx hb dL_law_671 hl (by decide) rfl (fun ls hl => ?_)
      refine lv_aload_n hx hb dL_law_673 rfl (lv_at hl 3 rfl) ?_
      refine lv_aload_n hx hb dL_law_674 rfl (lv_at hl 1 rfl) ?_
      refine lv_iload hx hb dL_law_675 (lv_at hl 5 rfl) ?_
      refine zi_const hx hb 1 dL_law_677 ?_
      refine zi_add hx hb dL_law_678 ?_
      refine lw_ld hx hb hX hbl hbA hS (by omega) ea1 dL_law_679 ?_
      refine lv_aload_n hx hb dL_law_680 rfl (lv_at hl 1 rfl) ?_
      refine lv_iload hx hb dL_law_681 (lv_at hl 5 rfl) ?_
      refine zi_const hx hb 2 dL_law_683 ?_
      refine zi_add hx hb dL_law_684 ?_
      refine lw_ld hx hb hX hbl hbA hS (by omega) ea2 dL_law_685 ?_
      refine lv_aload_n hx hb dL_law_686 rfl (lv_at hl 1 rfl) ?_
      refine lv_iload hx hb dL_law_687 (lv_at hl 5 rfl) ?_
      refine zi_const hx hb 3 dL_law_689 ?_
      refine zi_add hx hb dL_law_690 ?_
      refine lw_ld hx hb hX hbl hbA hS (by omega) ea3 dL_law_691 ?_
      refine wm_V (As := [.int (iZ a1), .int (iZ a2), .int (iZ a3)]) (rest := []) (st1 := [.int (iZ (nuZ (V 0) a1 a2 a3))]) (c1 := 0) (k1 := k) S (k_X1_at l D mo na cI cJ c0 k V a1 a2 a3 hdm hN (by omega) (by omega) (by omega) (by omega)) tb_520 tb_521 tb_522 tb_2 tb_523 hd_X1_at ⟨rfl, rfl, by decide, by decide⟩ hMo hK hS hMA hAn rfl hl.1 rfl (Nat.le_of_ble_eq_true rfl) dL_law_692 ⟨show cells ≤ 1043 from by omega, show slots ≤ 17677 from by omega⟩ rfl (fun V1 H locs hR hMo hS hz hkp => ?_)
      have hP := lX_kept hP hkp hcr
      refine zi_top (fun v1 ev1 => ?_)
      refine lv_istore (lv' := [(6, .int (iZ v1)), (5, .int (iZ 0)), (0, .ref b), (1, .ref o), (2, .ref mo), (3, .ref bo), (4, .int (iZ i))]) hx hb dL_law_695 hl (by decide) rfl (fun ls hl => ?_)
      refine lv_aload_n hx hb dL_law_697 rfl (lv_at hl 4 rfl) ?_
      refine rd_V (As := []) (rest := []) (st1 := [.int (iZ 0)]) S (k_X1_thrown l D mo na cI cJ 0 k V1) tb_428 tb_429 tb_430 tb_2 tb_431 hd_X1_thrown ⟨rfl, rfl, by decide, by decide⟩ rM_bl (rM_mv hMo hK) (va_recv hK hMo (ci := 1) (q0 := 0) rfl rfl) rfl hl.1 rfl (Nat.le_of_ble_eq_true rfl) dL_law_698 ⟨show cells ≤ 1043 from by omega, show slots ≤ 17677 from by omega⟩ rfl ?_
      refine lv_iload hx hb dL_law_701 (lv_at hl 1 rfl) ?_
      refine zi_ceq (tgt := 708) hx hb dL_law_703 (by decide) (by omega) (by omega) (fun hc703 => ?_) (fun hc703 => ?_)
      · refine lv_iload hx hb dL_law_708 (lv_at hl 1 rfl) ?_
        refine zi_fne (tgt := 725) hx hb dL_law_710 (by decide) (by omega) (fun hc710 => ?_) (fun hc710 => ?_)
        · exfalso
          omega
        · refine lv_aload_n hx hb dL_law_713 rfl (lv_at hl 5 rfl) ?_
          refine zi_const hx hb 0 dL_law_714 ?_
          refine lw_ot hx hb hK hP (a := nuZ (V 0) a1 a2 a3) rfl dL_law_715 ?_
          refine lv_iload hx hb dL_law_716 (lv_at hl 0 rfl) ?_
          refine zi_i2l hx hb dL_law_718 (by omega) ?_
          refine zl_ceq (tgt := 725) hx hb dL_law_719 dL_law_720 (by decide) (by omega) (by omega) (fun hc719 => ?_) (fun hc719 => ?_)
          · refine lv_goto (tgt := 1144) hx hb dL_law_725 (by decide) ?_
            refine zi_inc (lv' := [(4, .int (iZ (i + 8))), (6, .int (iZ v1)), (5, .int (iZ 0)), (0, .ref b), (1, .ref o), (2, .ref mo), (3, .ref bo)]) hx hb dL_law_1144 hl (k := 6) rfl (by decide) rfl (fun ls hl => ?_)
            refine lv_goto (tgt := 23) hx hb dL_law_1147 (by decide) ?_
            have hF9 : V 0 = V1 0 := (congrFun hR 0).symm
            have hN9 : ∀ j, 0 ≤ V1 0 j ∧ V1 0 j < 32003 := by
              rw [← hF9]
              exact hN
            refine W.widen (k := cells + 1) (n := slots + 6) (by omega) (by omega) ?_
            exact kk V1 G k 0 (uZ w 0 (nuZ (V 0) a1 a2 a3)) H locs ls (by omega) hN9 hG (lX_F hP hF9) hMo hS (lv_sub hl [3, 4, 5, 6, 0] rfl)
          · refine zi_const hx hb 0 dL_law_723 ?_
            exfalso
            omega
      · exfalso
        omega
    · have f1 := nuZ_rng hN a1 a2 a3
      refine lv_aload_n hx hb dL_law_648 rfl (lv_at hl 1 rfl) ?_
      refine lv_aload_n hx hb dL_law_649 rfl (lv_at hl 0 rfl) ?_
      refine lv_iload hx hb dL_law_650 (lv_at hl 4 rfl) ?_
      refine zi_const hx hb 1 dL_law_652 ?_
      refine zi_add hx hb dL_law_653 ?_
      refine lw_ld hx hb hX hbl hbA hS (by omega) ea1 dL_law_654 ?_
      refine lv_aload_n hx hb dL_law_655 rfl (lv_at hl 0 rfl) ?_
      refine lv_iload hx hb dL_law_656 (lv_at hl 4 rfl) ?_
      refine zi_const hx hb 2 dL_law_658 ?_
      refine zi_add hx hb dL_law_659 ?_
      refine lw_ld hx hb hX hbl hbA hS (by omega) ea2 dL_law_660 ?_
      refine lv_aload_n hx hb dL_law_661 rfl (lv_at hl 0 rfl) ?_
      refine lv_iload hx hb dL_law_662 (lv_at hl 4 rfl) ?_
      refine zi_const hx hb 3 dL_law_664 ?_
      refine zi_add hx hb dL_law_665 ?_
      refine lw_ld hx hb hX hbl hbA hS (by omega) ea3 dL_law_666 ?_
      refine lv_aload_n hx hb dL_law_667 rfl (lv_at hl 3 rfl) ?_
      refine hl_S (As := [.ref o, .int (iZ a1), .int (iZ a2), .int (iZ a3), .ref bo]) (rest := []) (st1 := [.int (iZ 2)]) S (hl_at_tA l hl0 D o q1 q2 cI cJ tE tL (V 0) G k bo w hdl a1 a2 a3 (by omega) (by omega) (by omega) (by omega) (by omega)) tb_346 tb_347 tb_0 tb_348 hd_L_at ⟨rfl, rfl, by decide, by decide⟩ hP hK hs ht hnc hS hA hAn rfl hl.1 rfl (Nat.le_of_ble_eq_true rfl) dL_law_668 ⟨show cells + 1 ≤ 1043 from by omega, show slots + 6 ≤ 17677 from by omega⟩ rfl (fun H locs hP hS hz hkp => ?_)
      have hMo := mX_kept hMo hkp hcr
      refine lv_istore (lv' := [(5, .int (iZ 2)), (0, .ref b), (1, .ref o), (2, .ref mo), (3, .ref bo), (4, .int (iZ i))]) hx hb dL_law_671 hl (by decide) rfl (fun ls hl => ?_)
      refine lv_aload_n hx hb dL_law_673 rfl (lv_at hl 3 rfl) ?_
      refine lv_aload_n hx hb dL_law_674 rfl (lv_at hl 1 rfl) ?_
      refine lv_iload hx hb dL_law_675 (lv_at hl 5 rfl) ?_
      refine zi_const hx hb 1 dL_law_677 ?_
      refine zi_add hx hb dL_law_678 ?_
      refine lw_ld hx hb hX hbl hbA hS (by omega) ea1 dL_law_679 ?_
      refine lv_aload_n hx hb dL_law_680 rfl (lv_at hl 1 rfl) ?_
      refine lv_iload hx hb dL_law_681 (lv_at hl 5 rfl) ?_
      refine zi_const hx hb 2 dL_law_683 ?_
      refine zi_add hx hb dL_law_684 ?_
      refine lw_ld hx hb hX hbl hbA hS (by omega) ea2 dL_law_685 ?_
      refine lv_aload_n hx hb dL_law_686 rfl (lv_at hl 1 rfl) ?_
      refine lv_iload hx hb dL_law_687 (lv_at hl 5 rfl) ?_
      refine zi_const hx hb 3 dL_law_689 ?_
      refine zi_add hx hb dL_law_690 ?_
      refine lw_ld hx hb hX hbl hbA hS (by omega) ea3 dL_law_691 ?_
      refine wm_V (As := [.int (iZ a1), .int (iZ a2), .int (iZ a3)]) (rest := []) (st1 := [.int (iZ 0)]) (c1 := 2) (k1 := k) S (kA_X1_at l D mo na cI cJ c0 k V a1 a2 a3 hdm (by omega) (by omega) (by omega) (by omega) (by omega)) tb_520 tb_521 tb_522 tb_2 tb_523 hd_X1_at ⟨rfl, rfl, by decide, by decide⟩ hMo hK hS hMA hAn rfl hl.1 rfl (Nat.le_of_ble_eq_true rfl) dL_law_692 ⟨show cells + 1 ≤ 1043 from by omega, show slots + 6 ≤ 17677 from by omega⟩ rfl (fun V1 H locs hR hMo hS hz hkp => ?_)
      have hP := lX_kept hP hkp hcr
      refine lv_istore (lv' := [(6, .int (iZ 0)), (5, .int (iZ 2)), (0, .ref b), (1, .ref o), (2, .ref mo), (3, .ref bo), (4, .int (iZ i))]) hx hb dL_law_695 hl (by decide) rfl (fun ls hl => ?_)
      refine lv_aload_n hx hb dL_law_697 rfl (lv_at hl 4 rfl) ?_
      refine rd_V (As := []) (rest := []) (st1 := [.int (iZ 2)]) S (k_X1_thrown l D mo na cI cJ 2 k V1) tb_428 tb_429 tb_430 tb_2 tb_431 hd_X1_thrown ⟨rfl, rfl, by decide, by decide⟩ rM_bl (rM_mv hMo hK) (va_recv hK hMo (ci := 1) (q0 := 0) rfl rfl) rfl hl.1 rfl (Nat.le_of_ble_eq_true rfl) dL_law_698 ⟨show cells + 1 ≤ 1043 from by omega, show slots + 6 ≤ 17677 from by omega⟩ rfl ?_
      refine lv_iload hx hb dL_law_701 (lv_at hl 1 rfl) ?_
      refine zi_ceq (tgt := 708) hx hb dL_law_703 (by decide) (by omega) (by omega) (fun hc703 => ?_) (fun hc703 => ?_)
      · refine lv_iload hx hb dL_law_708 (lv_at hl 1 rfl) ?_
        refine zi_fne (tgt := 725) hx hb dL_law_710 (by decide) (by omega) (fun hc710 => ?_) (fun hc710 => ?_)
        · refine lv_goto (tgt := 1144) hx hb dL_law_725 (by decide) ?_
          refine zi_inc (lv' := [(4, .int (iZ (i + 8))), (6, .int (iZ 0)), (5, .int (iZ 2)), (0, .ref b), (1, .ref o), (2, .ref mo), (3, .ref bo)]) hx hb dL_law_1144 hl (k := 6) rfl (by decide) rfl (fun ls hl => ?_)
          refine lv_goto (tgt := 23) hx hb dL_law_1147 (by decide) ?_
          have hF9 : V 0 = V1 0 := (congrFun hR 0).symm
          have hN9 : ∀ j, 0 ≤ V1 0 j ∧ V1 0 j < 32003 := by
            rw [← hF9]
            exact hN
          exact kk V1 G k 2 w H locs ls (by omega) hN9 hG (lX_F hP hF9) hMo hS (lv_sub hl [3, 4, 5, 6, 0] rfl)
        · exfalso
          omega
      · exfalso
        omega
  · have f1 := nuZ_rng hN a1 a2 a3
    refine lv_aload_n hx hb dL_law_648 rfl (lv_at hl 1 rfl) ?_
    refine lv_aload_n hx hb dL_law_649 rfl (lv_at hl 0 rfl) ?_
    refine lv_iload hx hb dL_law_650 (lv_at hl 4 rfl) ?_
    refine zi_const hx hb 1 dL_law_652 ?_
    refine zi_add hx hb dL_law_653 ?_
    refine lw_ld hx hb hX hbl hbA hS (by omega) ea1 dL_law_654 ?_
    refine lv_aload_n hx hb dL_law_655 rfl (lv_at hl 0 rfl) ?_
    refine lv_iload hx hb dL_law_656 (lv_at hl 4 rfl) ?_
    refine zi_const hx hb 2 dL_law_658 ?_
    refine zi_add hx hb dL_law_659 ?_
    refine lw_ld hx hb hX hbl hbA hS (by omega) ea2 dL_law_660 ?_
    refine lv_aload_n hx hb dL_law_661 rfl (lv_at hl 0 rfl) ?_
    refine lv_iload hx hb dL_law_662 (lv_at hl 4 rfl) ?_
    refine zi_const hx hb 3 dL_law_664 ?_
    refine zi_add hx hb dL_law_665 ?_
    refine lw_ld hx hb hX hbl hbA hS (by omega) ea3 dL_law_666 ?_
    refine lv_aload_n hx hb dL_law_667 rfl (lv_at hl 3 rfl) ?_
    refine hl_S (As := [.ref o, .int (iZ a1), .int (iZ a2), .int (iZ a3), .ref bo]) (rest := []) (st1 := [.int (iZ 1)]) S (hl_at_tO l hl0 D o q1 q2 cI cJ tE tL (V 0) G k bo w hdl a1 a2 a3 (by omega) (by omega) (by omega) (by omega) (by omega)) tb_346 tb_347 tb_0 tb_348 hd_L_at ⟨rfl, rfl, by decide, by decide⟩ hP hK hs ht hnc hS hA hAn rfl hl.1 rfl (Nat.le_of_ble_eq_true rfl) dL_law_668 ⟨show cells + 1 ≤ 1043 from by omega, show slots + 6 ≤ 17677 from by omega⟩ rfl (fun H locs hP hS hz hkp => ?_)
    have hMo := mX_kept hMo hkp hcr
    refine lv_istore (lv' := [(5, .int (iZ 1)), (0, .ref b), (1, .ref o), (2, .ref mo), (3, .ref bo), (4, .int (iZ i))]) hx hb dL_law_671 hl (by decide) rfl (fun ls hl => ?_)
    refine lv_aload_n hx hb dL_law_673 rfl (lv_at hl 3 rfl) ?_
    refine lv_aload_n hx hb dL_law_674 rfl (lv_at hl 1 rfl) ?_
    refine lv_iload hx hb dL_law_675 (lv_at hl 5 rfl) ?_
    refine zi_const hx hb 1 dL_law_677 ?_
    refine zi_add hx hb dL_law_678 ?_
    refine lw_ld hx hb hX hbl hbA hS (by omega) ea1 dL_law_679 ?_
    refine lv_aload_n hx hb dL_law_680 rfl (lv_at hl 1 rfl) ?_
    refine lv_iload hx hb dL_law_681 (lv_at hl 5 rfl) ?_
    refine zi_const hx hb 2 dL_law_683 ?_
    refine zi_add hx hb dL_law_684 ?_
    refine lw_ld hx hb hX hbl hbA hS (by omega) ea2 dL_law_685 ?_
    refine lv_aload_n hx hb dL_law_686 rfl (lv_at hl 1 rfl) ?_
    refine lv_iload hx hb dL_law_687 (lv_at hl 5 rfl) ?_
    refine zi_const hx hb 3 dL_law_689 ?_
    refine zi_add hx hb dL_law_690 ?_
    refine lw_ld hx hb hX hbl hbA hS (by omega) ea3 dL_law_691 ?_
    refine wm_V (As := [.int (iZ a1), .int (iZ a2), .int (iZ a3)]) (rest := []) (st1 := [.int (iZ 0)]) (c1 := 1) (k1 := k) S (kO_X1_at l D mo na cI cJ c0 k V a1 a2 a3 hdm (by omega) (by omega) (by omega) (by omega) (by omega)) tb_520 tb_521 tb_522 tb_2 tb_523 hd_X1_at ⟨rfl, rfl, by decide, by decide⟩ hMo hK hS hMA hAn rfl hl.1 rfl (Nat.le_of_ble_eq_true rfl) dL_law_692 ⟨show cells + 1 ≤ 1043 from by omega, show slots + 6 ≤ 17677 from by omega⟩ rfl (fun V1 H locs hR hMo hS hz hkp => ?_)
    have hP := lX_kept hP hkp hcr
    refine lv_istore (lv' := [(6, .int (iZ 0)), (5, .int (iZ 1)), (0, .ref b), (1, .ref o), (2, .ref mo), (3, .ref bo), (4, .int (iZ i))]) hx hb dL_law_695 hl (by decide) rfl (fun ls hl => ?_)
    refine lv_aload_n hx hb dL_law_697 rfl (lv_at hl 4 rfl) ?_
    refine rd_V (As := []) (rest := []) (st1 := [.int (iZ 1)]) S (k_X1_thrown l D mo na cI cJ 1 k V1) tb_428 tb_429 tb_430 tb_2 tb_431 hd_X1_thrown ⟨rfl, rfl, by decide, by decide⟩ rM_bl (rM_mv hMo hK) (va_recv hK hMo (ci := 1) (q0 := 0) rfl rfl) rfl hl.1 rfl (Nat.le_of_ble_eq_true rfl) dL_law_698 ⟨show cells + 1 ≤ 1043 from by omega, show slots + 6 ≤ 17677 from by omega⟩ rfl ?_
    refine lv_iload hx hb dL_law_701 (lv_at hl 1 rfl) ?_
    refine zi_ceq (tgt := 708) hx hb dL_law_703 (by decide) (by omega) (by omega) (fun hc703 => ?_) (fun hc703 => ?_)
    · refine lv_iload hx hb dL_law_708 (lv_at hl 1 rfl) ?_
      refine zi_fne (tgt := 725) hx hb dL_law_710 (by decide) (by omega) (fun hc710 => ?_) (fun hc710 => ?_)
      · refine lv_goto (tgt := 1144) hx hb dL_law_725 (by decide) ?_
        refine zi_inc (lv' := [(4, .int (iZ (i + 8))), (6, .int (iZ 0)), (5, .int (iZ 1)), (0, .ref b), (1, .ref o), (2, .ref mo), (3, .ref bo)]) hx hb dL_law_1144 hl (k := 6) rfl (by decide) rfl (fun ls hl => ?_)
        refine lv_goto (tgt := 23) hx hb dL_law_1147 (by decide) ?_
        have hF9 : V 0 = V1 0 := (congrFun hR 0).symm
        have hN9 : ∀ j, 0 ≤ V1 0 j ∧ V1 0 j < 32003 := by
          rw [← hF9]
          exact hN
        exact kk V1 G k 1 w H locs ls (by omega) hN9 hG (lX_F hP hF9) hMo hS (lv_sub hl [3, 4, 5, 6, 0] rfl)
      · exfalso
        omega
    · exfalso
      omega
set_option maxHeartbeats 4000000 in
set_option maxRecDepth 100000 in
theorem lc_terms (l : Launch) (hl0 : l.stackTraces = false) {p : Program} {e : Env} {s : State} {m : MethodId} {below : List Frame} {meth : Method} {c : Code} {b L : Nat} {xs : Nat → Int32} {A : Nat → Prop} {D : va_G} {o q1 q2 : Nat} {cI cJ : ClassId} {tE tL bo mo : Nat} {na : Nat → Nat} {Q : State → Prop} (E9 : lawE p s m c b L xs A D o q1 q2 cI cJ tE tL bo mo na) {H : Heap} {locs : List Loc} {cells slots : Nat} {ls : Array Slot} (V : Nat → Nat → Int) (G : Nat → Int) (k c0 : Int) (w : Nat → Int) (i : Int) (hk : 0 ≤ k ∧ k ≤ 60) (hN : ∀ j, 0 ≤ V 0 j ∧ V 0 j < 32003) (hG : ∀ j, 0 ≤ G j ∧ G j < 32003) (hP : va_P D vwCl (lX o q1 q2 cI cJ (V 0) G k bo w) H) (hMo : va_P D vwCl (mX mo na cI cJ c0 k V) H) (hS : va_S A s.heap H locs) (hi : 0 ≤ i ∧ i + 8 ≤ L) (hcs : cells + 1 ≤ 1043 ∧ slots + 6 ≤ 17677) (hl : lv_has ls 7 [(0, .ref b), (1, .ref o), (2, .ref mo), (3, .ref bo), (4, .int (iZ i))]) (kk : ∀ (V : Nat → Nat → Int) (G : Nat → Int) (k c0 : Int) (w : Nat → Int) (H : Heap) (locs : List Loc) (ls : Array Slot), 0 ≤ k ∧ k ≤ 60 → (∀ j, 0 ≤ V 0 j ∧ V 0 j < 32003) → (∀ j, 0 ≤ G j ∧ G j < 32003) → va_P D vwCl (lX o q1 q2 cI cJ (V 0) G k bo w) H → va_P D vwCl (mX mo na cI cJ c0 k V) H → va_S A s.heap H locs → lv_has ls 7 [(0, .ref b), (1, .ref o), (2, .ref mo), (3, .ref bo), (4, .int (iZ (i + 8)))] → W p l e room_1 s m #[Value.ref b] below meth c H locs (cells + 1) (slots + 6) Q (F0 m 23 ls [])) : W p l e room_1 s m #[Value.ref b] below meth c H locs cells slots Q (F0 m 728 ls []) := by
  obtain ⟨S, hX, hbl, hbA, hAn, hK, hs, ht, hnc, hA, hMA, hdl, hdm, hcr, hL⟩ := id E9
  obtain ⟨hx, hb, hml, hown, hT⟩ := id S
  obtain ⟨a1, ea1⟩ : ∃ a : Int, a = xZ xs (i + 1) := ⟨_, rfl⟩
  have ra1 := xZ_rng xs (i + 1)
  rw [← ea1] at ra1
  obtain ⟨a2, ea2⟩ : ∃ a : Int, a = xZ xs (i + 2) := ⟨_, rfl⟩
  have ra2 := xZ_rng xs (i + 2)
  rw [← ea2] at ra2
  obtain ⟨a3, ea3⟩ : ∃ a : Int, a = xZ xs (i + 3) := ⟨_, rfl⟩
  have ra3 := xZ_rng xs (i + 3)
  rw [← ea3] at ra3
  obtain ⟨a4, ea4⟩ : ∃ a : Int, a = xZ xs (i + 4) := ⟨_, rfl⟩
  have ra4 := xZ_rng xs (i + 4)
  rw [← ea4] at ra4
  obtain ⟨a5, ea5⟩ : ∃ a : Int, a = xZ xs (i + 5) := ⟨_, rfl⟩
  have ra5 := xZ_rng xs (i + 5)
  rw [← ea5] at ra5
  obtain ⟨a6, ea6⟩ : ∃ a : Int, a = xZ xs (i + 6) := ⟨_, rfl⟩
  have ra6 := xZ_rng xs (i + 6)
  rw [← ea6] at ra6
  obtain ⟨a7, ea7⟩ : ∃ a : Int, a = xZ xs (i + 7) := ⟨_, rfl⟩
  have ra7 := xZ_rng xs (i + 7)
  rw [← ea7] at ra7
  by_cases g2 : 0 ≤ a1 ∧ a1 < k
  · by_cases g4 : -1 ≤ a2 ∧ a2 < 8
    · by_cases g6 : a2 = -1
      · have f1 := tmZ_rng (V 0) a1 a2
        refine lv_aload_n hx hb dL_law_728 rfl (lv_at hl 1 rfl) ?_
        refine lv_aload_n hx hb dL_law_729 rfl (lv_at hl 0 rfl) ?_
        refine lv_iload hx hb dL_law_730 (lv_at hl 4 rfl) ?_
        refine zi_const hx hb 1 dL_law_732 ?_
        refine zi_add hx hb dL_law_733 ?_
        refine lw_ld hx hb hX hbl hbA hS (by omega) ea1 dL_law_734 ?_
        refine lv_aload_n hx hb dL_law_735 rfl (lv_at hl 0 rfl) ?_
        refine lv_iload hx hb dL_law_736 (lv_at hl 4 rfl) ?_
        refine zi_const hx hb 2 dL_law_738 ?_
        refine zi_add hx hb dL_law_739 ?_
        refine lw_ld hx hb hX hbl hbA hS (by omega) ea2 dL_law_740 ?_
        refine lv_aload_n hx hb dL_law_741 rfl (lv_at hl 3 rfl) ?_
        refine hl_S (As := [.ref o, .int (iZ a1), .int (iZ a2), .ref bo]) (rest := []) (st1 := [.int (iZ 0)]) S (hl_terms_k l D o q1 q2 cI cJ tE tL (V 0) G k bo w hdl a1 a2 hN (by omega) (by omega)) tb_353 tb_354 tb_0 tb_355 hd_L_terms ⟨rfl, rfl, by decide, by decide⟩ hP hK hs ht hnc hS hA hAn rfl hl.1 rfl (Nat.le_of_ble_eq_true rfl) dL_law_742 ⟨show cells + 0 ≤ 1043 from by omega, show slots + 0 ≤ 17677 from by omega⟩ rfl (fun H locs hP hS hz hkp => ?_)
        have hMo := mX_kept hMo hkp hcr
        refine lv_istore (lv' := [(5, .int (iZ 0)), (0, .ref b), (1, .ref o), (2, .ref mo), (3, .ref bo), (4, .int (iZ i))]) hx hb dL_law_745 hl (by decide) rfl (fun ls hl => ?_)
        refine lv_aload_n hx hb dL_law_747 rfl (lv_at hl 3 rfl) ?_
        refine lv_aload_n hx hb dL_law_748 rfl (lv_at hl 1 rfl) ?_
        refine lv_iload hx hb dL_law_749 (lv_at hl 5 rfl) ?_
        refine zi_const hx hb 1 dL_law_751 ?_
        refine zi_add hx hb dL_law_752 ?_
        refine lw_ld hx hb hX hbl hbA hS (by omega) ea1 dL_law_753 ?_
        refine lv_aload_n hx hb dL_law_754 rfl (lv_at hl 1 rfl) ?_
        refine lv_iload hx hb dL_law_755 (lv_at hl 5 rfl) ?_
        refine zi_const hx hb 2 dL_law_757 ?_
        refine zi_add hx hb dL_law_758 ?_
        refine lw_ld hx hb hX hbl hbA hS (by omega) ea2 dL_law_759 ?_
        refine wm_V (As := [.int (iZ a1), .int (iZ a2)]) (rest := []) (st1 := [.int (iZ (tmZ (V 0) a1 a2))]) (c1 := 0) (k1 := k) S (k9_X1_terms l D mo na cI cJ c0 k V a1 a2 hdm hN (by omega) (by omega) (by omega)) tb_524 tb_525 tb_526 tb_2 tb_527 hd_X1_terms ⟨rfl, rfl, by decide, by decide⟩ hMo hK hS hMA hAn rfl hl.1 rfl (Nat.le_of_ble_eq_true rfl) dL_law_760 ⟨show cells ≤ 1043 from by omega, show slots ≤ 17677 from by omega⟩ rfl (fun V1 H locs hR hMo hS hz hkp => ?_)
        have hP := lX_kept hP hkp hcr
        refine zi_top (fun v1 ev1 => ?_)
        refine lv_istore (lv' := [(6, .int (iZ v1)), (5, .int (iZ 0)), (0, .ref b), (1, .ref o), (2, .ref mo), (3, .ref bo), (4, .int (iZ i))]) hx hb dL_law_763 hl (by decide) rfl (fun ls hl => ?_)
        refine lv_aload_n hx hb dL_law_765 rfl (lv_at hl 4 rfl) ?_
        refine rd_V (As := []) (rest := []) (st1 := [.int (iZ 0)]) S (k_X1_thrown l D mo na cI cJ 0 k V1) tb_428 tb_429 tb_430 tb_2 tb_431 hd_X1_thrown ⟨rfl, rfl, by decide, by decide⟩ rM_bl (rM_mv hMo hK) (va_recv hK hMo (ci := 1) (q0 := 0) rfl rfl) rfl hl.1 rfl (Nat.le_of_ble_eq_true rfl) dL_law_766 ⟨show cells ≤ 1043 from by omega, show slots ≤ 17677 from by omega⟩ rfl ?_
        refine lv_iload hx hb dL_law_769 (lv_at hl 1 rfl) ?_
        refine zi_ceq (tgt := 776) hx hb dL_law_771 (by decide) (by omega) (by omega) (fun hc771 => ?_) (fun hc771 => ?_)
        · refine lv_iload hx hb dL_law_776 (lv_at hl 1 rfl) ?_
          refine zi_fne (tgt := 793) hx hb dL_law_778 (by decide) (by omega) (fun hc778 => ?_) (fun hc778 => ?_)
          · exfalso
            omega
          · refine lv_aload_n hx hb dL_law_781 rfl (lv_at hl 5 rfl) ?_
            refine zi_const hx hb 0 dL_law_782 ?_
            refine lw_ot hx hb hK hP (a := tmZ (V 0) a1 a2) rfl dL_law_783 ?_
            refine lv_iload hx hb dL_law_784 (lv_at hl 0 rfl) ?_
            refine zi_i2l hx hb dL_law_786 (by omega) ?_
            refine zl_ceq (tgt := 793) hx hb dL_law_787 dL_law_788 (by decide) (by omega) (by omega) (fun hc787 => ?_) (fun hc787 => ?_)
            · refine lv_goto (tgt := 1144) hx hb dL_law_793 (by decide) ?_
              refine zi_inc (lv' := [(4, .int (iZ (i + 8))), (6, .int (iZ v1)), (5, .int (iZ 0)), (0, .ref b), (1, .ref o), (2, .ref mo), (3, .ref bo)]) hx hb dL_law_1144 hl (k := 6) rfl (by decide) rfl (fun ls hl => ?_)
              refine lv_goto (tgt := 23) hx hb dL_law_1147 (by decide) ?_
              have hF9 : V 0 = V1 0 := (congrFun hR 0).symm
              have hN9 : ∀ j, 0 ≤ V1 0 j ∧ V1 0 j < 32003 := by
                rw [← hF9]
                exact hN
              refine W.widen (k := cells + 1) (n := slots + 6) (by omega) (by omega) ?_
              exact kk V1 G k 0 (uZ w 0 (tmZ (V 0) a1 a2)) H locs ls (by omega) hN9 hG (lX_F hP hF9) hMo hS (lv_sub hl [3, 4, 5, 6, 0] rfl)
            · refine zi_const hx hb 0 dL_law_791 ?_
              exfalso
              omega
        · exfalso
          omega
      · have f1 := tmZ_rng (V 0) a1 a2
        refine lv_aload_n hx hb dL_law_728 rfl (lv_at hl 1 rfl) ?_
        refine lv_aload_n hx hb dL_law_729 rfl (lv_at hl 0 rfl) ?_
        refine lv_iload hx hb dL_law_730 (lv_at hl 4 rfl) ?_
        refine zi_const hx hb 1 dL_law_732 ?_
        refine zi_add hx hb dL_law_733 ?_
        refine lw_ld hx hb hX hbl hbA hS (by omega) ea1 dL_law_734 ?_
        refine lv_aload_n hx hb dL_law_735 rfl (lv_at hl 0 rfl) ?_
        refine lv_iload hx hb dL_law_736 (lv_at hl 4 rfl) ?_
        refine zi_const hx hb 2 dL_law_738 ?_
        refine zi_add hx hb dL_law_739 ?_
        refine lw_ld hx hb hX hbl hbA hS (by omega) ea2 dL_law_740 ?_
        refine lv_aload_n hx hb dL_law_741 rfl (lv_at hl 3 rfl) ?_
        refine hl_S (As := [.ref o, .int (iZ a1), .int (iZ a2), .ref bo]) (rest := []) (st1 := [.int (iZ 0)]) S (hl_terms_k l D o q1 q2 cI cJ tE tL (V 0) G k bo w hdl a1 a2 hN (by omega) (by omega)) tb_353 tb_354 tb_0 tb_355 hd_L_terms ⟨rfl, rfl, by decide, by decide⟩ hP hK hs ht hnc hS hA hAn rfl hl.1 rfl (Nat.le_of_ble_eq_true rfl) dL_law_742 ⟨show cells + 0 ≤ 1043 from by omega, show slots + 0 ≤ 17677 from by omega⟩ rfl (fun H locs hP hS hz hkp => ?_)
        have hMo := mX_kept hMo hkp hcr
        refine lv_istore (lv' := [(5, .int (iZ 0)), (0, .ref b), (1, .ref o), (2, .ref mo), (3, .ref bo), (4, .int (iZ i))]) hx hb dL_law_745 hl (by decide) rfl (fun ls hl => ?_)
        refine lv_aload_n hx hb dL_law_747 rfl (lv_at hl 3 rfl) ?_
        refine lv_aload_n hx hb dL_law_748 rfl (lv_at hl 1 rfl) ?_
        refine lv_iload hx hb dL_law_749 (lv_at hl 5 rfl) ?_
        refine zi_const hx hb 1 dL_law_751 ?_
        refine zi_add hx hb dL_law_752 ?_
        refine lw_ld hx hb hX hbl hbA hS (by omega) ea1 dL_law_753 ?_
        refine lv_aload_n hx hb dL_law_754 rfl (lv_at hl 1 rfl) ?_
        refine lv_iload hx hb dL_law_755 (lv_at hl 5 rfl) ?_
        refine zi_const hx hb 2 dL_law_757 ?_
        refine zi_add hx hb dL_law_758 ?_
        refine lw_ld hx hb hX hbl hbA hS (by omega) ea2 dL_law_759 ?_
        refine wm_V (As := [.int (iZ a1), .int (iZ a2)]) (rest := []) (st1 := [.int (iZ (tmZ (V 0) a1 a2))]) (c1 := 0) (k1 := k) S (k_X1_terms l D mo na cI cJ c0 k V a1 a2 hdm hN (by omega) (by omega) (by omega)) tb_524 tb_525 tb_526 tb_2 tb_527 hd_X1_terms ⟨rfl, rfl, by decide, by decide⟩ hMo hK hS hMA hAn rfl hl.1 rfl (Nat.le_of_ble_eq_true rfl) dL_law_760 ⟨show cells ≤ 1043 from by omega, show slots ≤ 17677 from by omega⟩ rfl (fun V1 H locs hR hMo hS hz hkp => ?_)
        have hP := lX_kept hP hkp hcr
        refine zi_top (fun v2 ev2 => ?_)
        refine lv_istore (lv' := [(6, .int (iZ v2)), (5, .int (iZ 0)), (0, .ref b), (1, .ref o), (2, .ref mo), (3, .ref bo), (4, .int (iZ i))]) hx hb dL_law_763 hl (by decide) rfl (fun ls hl => ?_)
        refine lv_aload_n hx hb dL_law_765 rfl (lv_at hl 4 rfl) ?_
        refine rd_V (As := []) (rest := []) (st1 := [.int (iZ 0)]) S (k_X1_thrown l D mo na cI cJ 0 k V1) tb_428 tb_429 tb_430 tb_2 tb_431 hd_X1_thrown ⟨rfl, rfl, by decide, by decide⟩ rM_bl (rM_mv hMo hK) (va_recv hK hMo (ci := 1) (q0 := 0) rfl rfl) rfl hl.1 rfl (Nat.le_of_ble_eq_true rfl) dL_law_766 ⟨show cells ≤ 1043 from by omega, show slots ≤ 17677 from by omega⟩ rfl ?_
        refine lv_iload hx hb dL_law_769 (lv_at hl 1 rfl) ?_
        refine zi_ceq (tgt := 776) hx hb dL_law_771 (by decide) (by omega) (by omega) (fun hc771 => ?_) (fun hc771 => ?_)
        · refine lv_iload hx hb dL_law_776 (lv_at hl 1 rfl) ?_
          refine zi_fne (tgt := 793) hx hb dL_law_778 (by decide) (by omega) (fun hc778 => ?_) (fun hc778 => ?_)
          · exfalso
            omega
          · refine lv_aload_n hx hb dL_law_781 rfl (lv_at hl 5 rfl) ?_
            refine zi_const hx hb 0 dL_law_782 ?_
            refine lw_ot hx hb hK hP (a := tmZ (V 0) a1 a2) rfl dL_law_783 ?_
            refine lv_iload hx hb dL_law_784 (lv_at hl 0 rfl) ?_
            refine zi_i2l hx hb dL_law_786 (by omega) ?_
            refine zl_ceq (tgt := 793) hx hb dL_law_787 dL_law_788 (by decide) (by omega) (by omega) (fun hc787 => ?_) (fun hc787 => ?_)
            · refine lv_goto (tgt := 1144) hx hb dL_law_793 (by decide) ?_
              refine zi_inc (lv' := [(4, .int (iZ (i + 8))), (6, .int (iZ v2)), (5, .int (iZ 0)), (0, .ref b), (1, .ref o), (2, .ref mo), (3, .ref bo)]) hx hb dL_law_1144 hl (k := 6) rfl (by decide) rfl (fun ls hl => ?_)
              refine lv_goto (tgt := 23) hx hb dL_law_1147 (by decide) ?_
              have hF9 : V 0 = V1 0 := (congrFun hR 0).symm
              have hN9 : ∀ j, 0 ≤ V1 0 j ∧ V1 0 j < 32003 := by
                rw [← hF9]
                exact hN
              refine W.widen (k := cells + 1) (n := slots + 6) (by omega) (by omega) ?_
              exact kk V1 G k 0 (uZ w 0 (tmZ (V 0) a1 a2)) H locs ls (by omega) hN9 hG (lX_F hP hF9) hMo hS (lv_sub hl [3, 4, 5, 6, 0] rfl)
            · refine zi_const hx hb 0 dL_law_791 ?_
              exfalso
              omega
        · exfalso
          omega
    · have f1 := tmZ_rng (V 0) a1 a2
      refine lv_aload_n hx hb dL_law_728 rfl (lv_at hl 1 rfl) ?_
      refine lv_aload_n hx hb dL_law_729 rfl (lv_at hl 0 rfl) ?_
      refine lv_iload hx hb dL_law_730 (lv_at hl 4 rfl) ?_
      refine zi_const hx hb 1 dL_law_732 ?_
      refine zi_add hx hb dL_law_733 ?_
      refine lw_ld hx hb hX hbl hbA hS (by omega) ea1 dL_law_734 ?_
      refine lv_aload_n hx hb dL_law_735 rfl (lv_at hl 0 rfl) ?_
      refine lv_iload hx hb dL_law_736 (lv_at hl 4 rfl) ?_
      refine zi_const hx hb 2 dL_law_738 ?_
      refine zi_add hx hb dL_law_739 ?_
      refine lw_ld hx hb hX hbl hbA hS (by omega) ea2 dL_law_740 ?_
      refine lv_aload_n hx hb dL_law_741 rfl (lv_at hl 3 rfl) ?_
      refine hl_S (As := [.ref o, .int (iZ a1), .int (iZ a2), .ref bo]) (rest := []) (st1 := [.int (iZ 2)]) S (hl_terms_tA l hl0 D o q1 q2 cI cJ tE tL (V 0) G k bo w hdl a1 a2 (by omega) (by omega) (by omega) (by omega)) tb_353 tb_354 tb_0 tb_355 hd_L_terms ⟨rfl, rfl, by decide, by decide⟩ hP hK hs ht hnc hS hA hAn rfl hl.1 rfl (Nat.le_of_ble_eq_true rfl) dL_law_742 ⟨show cells + 1 ≤ 1043 from by omega, show slots + 6 ≤ 17677 from by omega⟩ rfl (fun H locs hP hS hz hkp => ?_)
      have hMo := mX_kept hMo hkp hcr
      refine lv_istore (lv' := [(5, .int (iZ 2)), (0, .ref b), (1, .ref o), (2, .ref mo), (3, .ref bo), (4, .int (iZ i))]) hx hb dL_law_745 hl (by decide) rfl (fun ls hl => ?_)
      refine lv_aload_n hx hb dL_law_747 rfl (lv_at hl 3 rfl) ?_
      refine lv_aload_n hx hb dL_law_748 rfl (lv_at hl 1 rfl) ?_
      refine lv_iload hx hb dL_law_749 (lv_at hl 5 rfl) ?_
      refine zi_const hx hb 1 dL_law_751 ?_
      refine zi_add hx hb dL_law_752 ?_
      refine lw_ld hx hb hX hbl hbA hS (by omega) ea1 dL_law_753 ?_
      refine lv_aload_n hx hb dL_law_754 rfl (lv_at hl 1 rfl) ?_
      refine lv_iload hx hb dL_law_755 (lv_at hl 5 rfl) ?_
      refine zi_const hx hb 2 dL_law_757 ?_
      refine zi_add hx hb dL_law_758 ?_
      refine lw_ld hx hb hX hbl hbA hS (by omega) ea2 dL_law_759 ?_
      refine wm_V (As := [.int (iZ a1), .int (iZ a2)]) (rest := []) (st1 := [.int (iZ 0)]) (c1 := 2) (k1 := k) S (kA_X1_terms l D mo na cI cJ c0 k V a1 a2 hdm (by omega) (by omega) (by omega) (by omega)) tb_524 tb_525 tb_526 tb_2 tb_527 hd_X1_terms ⟨rfl, rfl, by decide, by decide⟩ hMo hK hS hMA hAn rfl hl.1 rfl (Nat.le_of_ble_eq_true rfl) dL_law_760 ⟨show cells + 1 ≤ 1043 from by omega, show slots + 6 ≤ 17677 from by omega⟩ rfl (fun V1 H locs hR hMo hS hz hkp => ?_)
      have hP := lX_kept hP hkp hcr
      refine lv_istore (lv' := [(6, .int (iZ 0)), (5, .int (iZ 2)), (0, .ref b), (1, .ref o), (2, .ref mo), (3, .ref bo), (4, .int (iZ i))]) hx hb dL_law_763 hl (by decide) rfl (fun ls hl => ?_)
      refine lv_aload_n hx hb dL_law_765 rfl (lv_at hl 4 rfl) ?_
      refine rd_V (As := []) (rest := []) (st1 := [.int (iZ 2)]) S (k_X1_thrown l D mo na cI cJ 2 k V1) tb_428 tb_429 tb_430 tb_2 tb_431 hd_X1_thrown ⟨rfl, rfl, by decide, by decide⟩ rM_bl (rM_mv hMo hK) (va_recv hK hMo (ci := 1) (q0 := 0) rfl rfl) rfl hl.1 rfl (Nat.le_of_ble_eq_true rfl) dL_law_766 ⟨show cells + 1 ≤ 1043 from by omega, show slots + 6 ≤ 17677 from by omega⟩ rfl ?_
      refine lv_iload hx hb dL_law_769 (lv_at hl 1 rfl) ?_
      refine zi_ceq (tgt := 776) hx hb dL_law_771 (by decide) (by omega) (by omega) (fun hc771 => ?_) (fun hc771 => ?_)
      · refine lv_iload hx hb dL_law_776 (lv_at hl 1 rfl) ?_
        refine zi_fne (tgt := 793) hx hb dL_law_778 (by decide) (by omega) (fun hc778 => ?_) (fun hc778 => ?_)
        · refine lv_goto (tgt := 1144) hx hb dL_law_793 (by decide) ?_
          refine zi_inc (lv' := [(4, .int (iZ (i + 8))), (6, .int (iZ 0)), (5, .int (iZ 2)), (0, .ref b), (1, .ref o), (2, .ref mo), (3, .ref bo)]) hx hb dL_law_1144 hl (k := 6) rfl (by decide) rfl (fun ls hl => ?_)
          refine lv_goto (tgt := 23) hx hb dL_law_1147 (by decide) ?_
          have hF9 : V 0 = V1 0 := (congrFun hR 0).symm
          have hN9 : ∀ j, 0 ≤ V1 0 j ∧ V1 0 j < 32003 := by
            rw [← hF9]
            exact hN
          exact kk V1 G k 2 w H locs ls (by omega) hN9 hG (lX_F hP hF9) hMo hS (lv_sub hl [3, 4, 5, 6, 0] rfl)
        · exfalso
          omega
      · exfalso
        omega
  · have f1 := tmZ_rng (V 0) a1 a2
    refine lv_aload_n hx hb dL_law_728 rfl (lv_at hl 1 rfl) ?_
    refine lv_aload_n hx hb dL_law_729 rfl (lv_at hl 0 rfl) ?_
    refine lv_iload hx hb dL_law_730 (lv_at hl 4 rfl) ?_
    refine zi_const hx hb 1 dL_law_732 ?_
    refine zi_add hx hb dL_law_733 ?_
    refine lw_ld hx hb hX hbl hbA hS (by omega) ea1 dL_law_734 ?_
    refine lv_aload_n hx hb dL_law_735 rfl (lv_at hl 0 rfl) ?_
    refine lv_iload hx hb dL_law_736 (lv_at hl 4 rfl) ?_
    refine zi_const hx hb 2 dL_law_738 ?_
    refine zi_add hx hb dL_law_739 ?_
    refine lw_ld hx hb hX hbl hbA hS (by omega) ea2 dL_law_740 ?_
    refine lv_aload_n hx hb dL_law_741 rfl (lv_at hl 3 rfl) ?_
    refine hl_S (As := [.ref o, .int (iZ a1), .int (iZ a2), .ref bo]) (rest := []) (st1 := [.int (iZ 1)]) S (hl_terms_tO l hl0 D o q1 q2 cI cJ tE tL (V 0) G k bo w hdl a1 a2 (by omega) (by omega) (by omega) (by omega)) tb_353 tb_354 tb_0 tb_355 hd_L_terms ⟨rfl, rfl, by decide, by decide⟩ hP hK hs ht hnc hS hA hAn rfl hl.1 rfl (Nat.le_of_ble_eq_true rfl) dL_law_742 ⟨show cells + 1 ≤ 1043 from by omega, show slots + 6 ≤ 17677 from by omega⟩ rfl (fun H locs hP hS hz hkp => ?_)
    have hMo := mX_kept hMo hkp hcr
    refine lv_istore (lv' := [(5, .int (iZ 1)), (0, .ref b), (1, .ref o), (2, .ref mo), (3, .ref bo), (4, .int (iZ i))]) hx hb dL_law_745 hl (by decide) rfl (fun ls hl => ?_)
    refine lv_aload_n hx hb dL_law_747 rfl (lv_at hl 3 rfl) ?_
    refine lv_aload_n hx hb dL_law_748 rfl (lv_at hl 1 rfl) ?_
    refine lv_iload hx hb dL_law_749 (lv_at hl 5 rfl) ?_
    refine zi_const hx hb 1 dL_law_751 ?_
    refine zi_add hx hb dL_law_752 ?_
    refine lw_ld hx hb hX hbl hbA hS (by omega) ea1 dL_law_753 ?_
    refine lv_aload_n hx hb dL_law_754 rfl (lv_at hl 1 rfl) ?_
    refine lv_iload hx hb dL_law_755 (lv_at hl 5 rfl) ?_
    refine zi_const hx hb 2 dL_law_757 ?_
    refine zi_add hx hb dL_law_758 ?_
    refine lw_ld hx hb hX hbl hbA hS (by omega) ea2 dL_law_759 ?_
    refine wm_V (As := [.int (iZ a1), .int (iZ a2)]) (rest := []) (st1 := [.int (iZ 0)]) (c1 := 1) (k1 := k) S (kO_X1_terms l D mo na cI cJ c0 k V a1 a2 hdm (by omega) (by omega) (by omega) (by omega)) tb_524 tb_525 tb_526 tb_2 tb_527 hd_X1_terms ⟨rfl, rfl, by decide, by decide⟩ hMo hK hS hMA hAn rfl hl.1 rfl (Nat.le_of_ble_eq_true rfl) dL_law_760 ⟨show cells + 1 ≤ 1043 from by omega, show slots + 6 ≤ 17677 from by omega⟩ rfl (fun V1 H locs hR hMo hS hz hkp => ?_)
    have hP := lX_kept hP hkp hcr
    refine lv_istore (lv' := [(6, .int (iZ 0)), (5, .int (iZ 1)), (0, .ref b), (1, .ref o), (2, .ref mo), (3, .ref bo), (4, .int (iZ i))]) hx hb dL_law_763 hl (by decide) rfl (fun ls hl => ?_)
    refine lv_aload_n hx hb dL_law_765 rfl (lv_at hl 4 rfl) ?_
    refine rd_V (As := []) (rest := []) (st1 := [.int (iZ 1)]) S (k_X1_thrown l D mo na cI cJ 1 k V1) tb_428 tb_429 tb_430 tb_2 tb_431 hd_X1_thrown ⟨rfl, rfl, by decide, by decide⟩ rM_bl (rM_mv hMo hK) (va_recv hK hMo (ci := 1) (q0 := 0) rfl rfl) rfl hl.1 rfl (Nat.le_of_ble_eq_true rfl) dL_law_766 ⟨show cells + 1 ≤ 1043 from by omega, show slots + 6 ≤ 17677 from by omega⟩ rfl ?_
    refine lv_iload hx hb dL_law_769 (lv_at hl 1 rfl) ?_
    refine zi_ceq (tgt := 776) hx hb dL_law_771 (by decide) (by omega) (by omega) (fun hc771 => ?_) (fun hc771 => ?_)
    · refine lv_iload hx hb dL_law_776 (lv_at hl 1 rfl) ?_
      refine zi_fne (tgt := 793) hx hb dL_law_778 (by decide) (by omega) (fun hc778 => ?_) (fun hc778 => ?_)
      · refine lv_goto (tgt := 1144) hx hb dL_law_793 (by decide) ?_
        refine zi_inc (lv' := [(4, .int (iZ (i + 8))), (6, .int (iZ 0)), (5, .int (iZ 1)), (0, .ref b), (1, .ref o), (2, .ref mo), (3, .ref bo)]) hx hb dL_law_1144 hl (k := 6) rfl (by decide) rfl (fun ls hl => ?_)
        refine lv_goto (tgt := 23) hx hb dL_law_1147 (by decide) ?_
        have hF9 : V 0 = V1 0 := (congrFun hR 0).symm
        have hN9 : ∀ j, 0 ≤ V1 0 j ∧ V1 0 j < 32003 := by
          rw [← hF9]
          exact hN
        exact kk V1 G k 1 w H locs ls (by omega) hN9 hG (lX_F hP hF9) hMo hS (lv_sub hl [3, 4, 5, 6, 0] rfl)
      · exfalso
        omega
    · exfalso
      omega
set_option maxHeartbeats 4000000 in
set_option maxRecDepth 100000 in
theorem lc_degree (l : Launch) (hl0 : l.stackTraces = false) {p : Program} {e : Env} {s : State} {m : MethodId} {below : List Frame} {meth : Method} {c : Code} {b L : Nat} {xs : Nat → Int32} {A : Nat → Prop} {D : va_G} {o q1 q2 : Nat} {cI cJ : ClassId} {tE tL bo mo : Nat} {na : Nat → Nat} {Q : State → Prop} (E9 : lawE p s m c b L xs A D o q1 q2 cI cJ tE tL bo mo na) {H : Heap} {locs : List Loc} {cells slots : Nat} {ls : Array Slot} (V : Nat → Nat → Int) (G : Nat → Int) (k c0 : Int) (w : Nat → Int) (i : Int) (hk : 0 ≤ k ∧ k ≤ 60) (hN : ∀ j, 0 ≤ V 0 j ∧ V 0 j < 32003) (hG : ∀ j, 0 ≤ G j ∧ G j < 32003) (hP : va_P D vwCl (lX o q1 q2 cI cJ (V 0) G k bo w) H) (hMo : va_P D vwCl (mX mo na cI cJ c0 k V) H) (hS : va_S A s.heap H locs) (hi : 0 ≤ i ∧ i + 8 ≤ L) (hcs : cells + 1 ≤ 1043 ∧ slots + 6 ≤ 17677) (hl : lv_has ls 7 [(0, .ref b), (1, .ref o), (2, .ref mo), (3, .ref bo), (4, .int (iZ i))]) (kk : ∀ (V : Nat → Nat → Int) (G : Nat → Int) (k c0 : Int) (w : Nat → Int) (H : Heap) (locs : List Loc) (ls : Array Slot), 0 ≤ k ∧ k ≤ 60 → (∀ j, 0 ≤ V 0 j ∧ V 0 j < 32003) → (∀ j, 0 ≤ G j ∧ G j < 32003) → va_P D vwCl (lX o q1 q2 cI cJ (V 0) G k bo w) H → va_P D vwCl (mX mo na cI cJ c0 k V) H → va_S A s.heap H locs → lv_has ls 7 [(0, .ref b), (1, .ref o), (2, .ref mo), (3, .ref bo), (4, .int (iZ (i + 8)))] → W p l e room_1 s m #[Value.ref b] below meth c H locs (cells + 1) (slots + 6) Q (F0 m 23 ls [])) : W p l e room_1 s m #[Value.ref b] below meth c H locs cells slots Q (F0 m 796 ls []) := by
  obtain ⟨S, hX, hbl, hbA, hAn, hK, hs, ht, hnc, hA, hMA, hdl, hdm, hcr, hL⟩ := id E9
  obtain ⟨hx, hb, hml, hown, hT⟩ := id S
  obtain ⟨a1, ea1⟩ : ∃ a : Int, a = xZ xs (i + 1) := ⟨_, rfl⟩
  have ra1 := xZ_rng xs (i + 1)
  rw [← ea1] at ra1
  obtain ⟨a2, ea2⟩ : ∃ a : Int, a = xZ xs (i + 2) := ⟨_, rfl⟩
  have ra2 := xZ_rng xs (i + 2)
  rw [← ea2] at ra2
  obtain ⟨a3, ea3⟩ : ∃ a : Int, a = xZ xs (i + 3) := ⟨_, rfl⟩
  have ra3 := xZ_rng xs (i + 3)
  rw [← ea3] at ra3
  obtain ⟨a4, ea4⟩ : ∃ a : Int, a = xZ xs (i + 4) := ⟨_, rfl⟩
  have ra4 := xZ_rng xs (i + 4)
  rw [← ea4] at ra4
  obtain ⟨a5, ea5⟩ : ∃ a : Int, a = xZ xs (i + 5) := ⟨_, rfl⟩
  have ra5 := xZ_rng xs (i + 5)
  rw [← ea5] at ra5
  obtain ⟨a6, ea6⟩ : ∃ a : Int, a = xZ xs (i + 6) := ⟨_, rfl⟩
  have ra6 := xZ_rng xs (i + 6)
  rw [← ea6] at ra6
  obtain ⟨a7, ea7⟩ : ∃ a : Int, a = xZ xs (i + 7) := ⟨_, rfl⟩
  have ra7 := xZ_rng xs (i + 7)
  rw [← ea7] at ra7
  by_cases g2 : 0 ≤ a1 ∧ a1 < k
  · by_cases g4 : 0 ≤ a2 ∧ a2 < 8
    · have f1 := dgZ_rng (V 0) a1 a2 9
      refine lv_aload_n hx hb dL_law_796 rfl (lv_at hl 1 rfl) ?_
      refine lv_aload_n hx hb dL_law_797 rfl (lv_at hl 0 rfl) ?_
      refine lv_iload hx hb dL_law_798 (lv_at hl 4 rfl) ?_
      refine zi_const hx hb 1 dL_law_800 ?_
      refine zi_add hx hb dL_law_801 ?_
      refine lw_ld hx hb hX hbl hbA hS (by omega) ea1 dL_law_802 ?_
      refine lv_aload_n hx hb dL_law_803 rfl (lv_at hl 0 rfl) ?_
      refine lv_iload hx hb dL_law_804 (lv_at hl 4 rfl) ?_
      refine zi_const hx hb 2 dL_law_806 ?_
      refine zi_add hx hb dL_law_807 ?_
      refine lw_ld hx hb hX hbl hbA hS (by omega) ea2 dL_law_808 ?_
      refine lv_aload_n hx hb dL_law_809 rfl (lv_at hl 3 rfl) ?_
      refine hl_S (As := [.ref o, .int (iZ a1), .int (iZ a2), .ref bo]) (rest := []) (st1 := [.int (iZ 0)]) S (hl_degree_k l D o q1 q2 cI cJ tE tL (V 0) G k bo w hdl a1 a2 hN (by omega) (by omega)) tb_360 tb_361 tb_0 tb_362 hd_L_degree ⟨rfl, rfl, by decide, by decide⟩ hP hK hs ht hnc hS hA hAn rfl hl.1 rfl (Nat.le_of_ble_eq_true rfl) dL_law_810 ⟨show cells + 0 ≤ 1043 from by omega, show slots + 0 ≤ 17677 from by omega⟩ rfl (fun H locs hP hS hz hkp => ?_)
      have hMo := mX_kept hMo hkp hcr
      refine lv_istore (lv' := [(5, .int (iZ 0)), (0, .ref b), (1, .ref o), (2, .ref mo), (3, .ref bo), (4, .int (iZ i))]) hx hb dL_law_813 hl (by decide) rfl (fun ls hl => ?_)
      refine lv_aload_n hx hb dL_law_815 rfl (lv_at hl 3 rfl) ?_
      refine lv_aload_n hx hb dL_law_816 rfl (lv_at hl 1 rfl) ?_
      refine lv_iload hx hb dL_law_817 (lv_at hl 5 rfl) ?_
      refine zi_const hx hb 1 dL_law_819 ?_
      refine zi_add hx hb dL_law_820 ?_
      refine lw_ld hx hb hX hbl hbA hS (by omega) ea1 dL_law_821 ?_
      refine lv_aload_n hx hb dL_law_822 rfl (lv_at hl 1 rfl) ?_
      refine lv_iload hx hb dL_law_823 (lv_at hl 5 rfl) ?_
      refine zi_const hx hb 2 dL_law_825 ?_
      refine zi_add hx hb dL_law_826 ?_
      refine lw_ld hx hb hX hbl hbA hS (by omega) ea2 dL_law_827 ?_
      refine wm_V (As := [.int (iZ a1), .int (iZ a2)]) (rest := []) (st1 := [.int (iZ (dgZ (V 0) a1 a2 9))]) (c1 := 0) (k1 := k) S (k_X1_degree l D mo na cI cJ c0 k V a1 a2 hdm hN (by omega) (by omega) (by omega)) tb_528 tb_529 tb_530 tb_2 tb_531 hd_X1_degree ⟨rfl, rfl, by decide, by decide⟩ hMo hK hS hMA hAn rfl hl.1 rfl (Nat.le_of_ble_eq_true rfl) dL_law_828 ⟨show cells ≤ 1043 from by omega, show slots ≤ 17677 from by omega⟩ rfl (fun V1 H locs hR hMo hS hz hkp => ?_)
      have hP := lX_kept hP hkp hcr
      refine zi_top (fun v1 ev1 => ?_)
      refine lv_istore (lv' := [(6, .int (iZ v1)), (5, .int (iZ 0)), (0, .ref b), (1, .ref o), (2, .ref mo), (3, .ref bo), (4, .int (iZ i))]) hx hb dL_law_831 hl (by decide) rfl (fun ls hl => ?_)
      refine lv_aload_n hx hb dL_law_833 rfl (lv_at hl 4 rfl) ?_
      refine rd_V (As := []) (rest := []) (st1 := [.int (iZ 0)]) S (k_X1_thrown l D mo na cI cJ 0 k V1) tb_428 tb_429 tb_430 tb_2 tb_431 hd_X1_thrown ⟨rfl, rfl, by decide, by decide⟩ rM_bl (rM_mv hMo hK) (va_recv hK hMo (ci := 1) (q0 := 0) rfl rfl) rfl hl.1 rfl (Nat.le_of_ble_eq_true rfl) dL_law_834 ⟨show cells ≤ 1043 from by omega, show slots ≤ 17677 from by omega⟩ rfl ?_
      refine lv_iload hx hb dL_law_837 (lv_at hl 1 rfl) ?_
      refine zi_ceq (tgt := 844) hx hb dL_law_839 (by decide) (by omega) (by omega) (fun hc839 => ?_) (fun hc839 => ?_)
      · refine lv_iload hx hb dL_law_844 (lv_at hl 1 rfl) ?_
        refine zi_fne (tgt := 861) hx hb dL_law_846 (by decide) (by omega) (fun hc846 => ?_) (fun hc846 => ?_)
        · exfalso
          omega
        · refine lv_aload_n hx hb dL_law_849 rfl (lv_at hl 5 rfl) ?_
          refine zi_const hx hb 0 dL_law_850 ?_
          refine lw_ot hx hb hK hP (a := dgZ (V 0) a1 a2 9) rfl dL_law_851 ?_
          refine lv_iload hx hb dL_law_852 (lv_at hl 0 rfl) ?_
          refine zi_i2l hx hb dL_law_854 (by omega) ?_
          refine zl_ceq (tgt := 861) hx hb dL_law_855 dL_law_856 (by decide) (by omega) (by omega) (fun hc855 => ?_) (fun hc855 => ?_)
          · refine lv_goto (tgt := 1144) hx hb dL_law_861 (by decide) ?_
            refine zi_inc (lv' := [(4, .int (iZ (i + 8))), (6, .int (iZ v1)), (5, .int (iZ 0)), (0, .ref b), (1, .ref o), (2, .ref mo), (3, .ref bo)]) hx hb dL_law_1144 hl (k := 6) rfl (by decide) rfl (fun ls hl => ?_)
            refine lv_goto (tgt := 23) hx hb dL_law_1147 (by decide) ?_
            have hF9 : V 0 = V1 0 := (congrFun hR 0).symm
            have hN9 : ∀ j, 0 ≤ V1 0 j ∧ V1 0 j < 32003 := by
              rw [← hF9]
              exact hN
            refine W.widen (k := cells + 1) (n := slots + 6) (by omega) (by omega) ?_
            exact kk V1 G k 0 (uZ w 0 (dgZ (V 0) a1 a2 9)) H locs ls (by omega) hN9 hG (lX_F hP hF9) hMo hS (lv_sub hl [3, 4, 5, 6, 0] rfl)
          · refine zi_const hx hb 0 dL_law_859 ?_
            exfalso
            omega
      · exfalso
        omega
    · have f1 := dgZ_rng (V 0) a1 a2 9
      refine lv_aload_n hx hb dL_law_796 rfl (lv_at hl 1 rfl) ?_
      refine lv_aload_n hx hb dL_law_797 rfl (lv_at hl 0 rfl) ?_
      refine lv_iload hx hb dL_law_798 (lv_at hl 4 rfl) ?_
      refine zi_const hx hb 1 dL_law_800 ?_
      refine zi_add hx hb dL_law_801 ?_
      refine lw_ld hx hb hX hbl hbA hS (by omega) ea1 dL_law_802 ?_
      refine lv_aload_n hx hb dL_law_803 rfl (lv_at hl 0 rfl) ?_
      refine lv_iload hx hb dL_law_804 (lv_at hl 4 rfl) ?_
      refine zi_const hx hb 2 dL_law_806 ?_
      refine zi_add hx hb dL_law_807 ?_
      refine lw_ld hx hb hX hbl hbA hS (by omega) ea2 dL_law_808 ?_
      refine lv_aload_n hx hb dL_law_809 rfl (lv_at hl 3 rfl) ?_
      refine hl_S (As := [.ref o, .int (iZ a1), .int (iZ a2), .ref bo]) (rest := []) (st1 := [.int (iZ 2)]) S (hl_degree_tA l hl0 D o q1 q2 cI cJ tE tL (V 0) G k bo w hdl a1 a2 (by omega) (by omega) (by omega) (by omega)) tb_360 tb_361 tb_0 tb_362 hd_L_degree ⟨rfl, rfl, by decide, by decide⟩ hP hK hs ht hnc hS hA hAn rfl hl.1 rfl (Nat.le_of_ble_eq_true rfl) dL_law_810 ⟨show cells + 1 ≤ 1043 from by omega, show slots + 6 ≤ 17677 from by omega⟩ rfl (fun H locs hP hS hz hkp => ?_)
      have hMo := mX_kept hMo hkp hcr
      refine lv_istore (lv' := [(5, .int (iZ 2)), (0, .ref b), (1, .ref o), (2, .ref mo), (3, .ref bo), (4, .int (iZ i))]) hx hb dL_law_813 hl (by decide) rfl (fun ls hl => ?_)
      refine lv_aload_n hx hb dL_law_815 rfl (lv_at hl 3 rfl) ?_
      refine lv_aload_n hx hb dL_law_816 rfl (lv_at hl 1 rfl) ?_
      refine lv_iload hx hb dL_law_817 (lv_at hl 5 rfl) ?_
      refine zi_const hx hb 1 dL_law_819 ?_
      refine zi_add hx hb dL_law_820 ?_
      refine lw_ld hx hb hX hbl hbA hS (by omega) ea1 dL_law_821 ?_
      refine lv_aload_n hx hb dL_law_822 rfl (lv_at hl 1 rfl) ?_
      refine lv_iload hx hb dL_law_823 (lv_at hl 5 rfl) ?_
      refine zi_const hx hb 2 dL_law_825 ?_
      refine zi_add hx hb dL_law_826 ?_
      refine lw_ld hx hb hX hbl hbA hS (by omega) ea2 dL_law_827 ?_
      refine wm_V (As := [.int (iZ a1), .int (iZ a2)]) (rest := []) (st1 := [.int (iZ 0)]) (c1 := 2) (k1 := k) S (kA_X1_degree l D mo na cI cJ c0 k V a1 a2 hdm (by omega) (by omega) (by omega) (by omega)) tb_528 tb_529 tb_530 tb_2 tb_531 hd_X1_degree ⟨rfl, rfl, by decide, by decide⟩ hMo hK hS hMA hAn rfl hl.1 rfl (Nat.le_of_ble_eq_true rfl) dL_law_828 ⟨show cells + 1 ≤ 1043 from by omega, show slots + 6 ≤ 17677 from by omega⟩ rfl (fun V1 H locs hR hMo hS hz hkp => ?_)
      have hP := lX_kept hP hkp hcr
      refine lv_istore (lv' := [(6, .int (iZ 0)), (5, .int (iZ 2)), (0, .ref b), (1, .ref o), (2, .ref mo), (3, .ref bo), (4, .int (iZ i))]) hx hb dL_law_831 hl (by decide) rfl (fun ls hl => ?_)
      refine lv_aload_n hx hb dL_law_833 rfl (lv_at hl 4 rfl) ?_
      refine rd_V (As := []) (rest := []) (st1 := [.int (iZ 2)]) S (k_X1_thrown l D mo na cI cJ 2 k V1) tb_428 tb_429 tb_430 tb_2 tb_431 hd_X1_thrown ⟨rfl, rfl, by decide, by decide⟩ rM_bl (rM_mv hMo hK) (va_recv hK hMo (ci := 1) (q0 := 0) rfl rfl) rfl hl.1 rfl (Nat.le_of_ble_eq_true rfl) dL_law_834 ⟨show cells + 1 ≤ 1043 from by omega, show slots + 6 ≤ 17677 from by omega⟩ rfl ?_
      refine lv_iload hx hb dL_law_837 (lv_at hl 1 rfl) ?_
      refine zi_ceq (tgt := 844) hx hb dL_law_839 (by decide) (by omega) (by omega) (fun hc839 => ?_) (fun hc839 => ?_)
      · refine lv_iload hx hb dL_law_844 (lv_at hl 1 rfl) ?_
        refine zi_fne (tgt := 861) hx hb dL_law_846 (by decide) (by omega) (fun hc846 => ?_) (fun hc846 => ?_)
        · refine lv_goto (tgt := 1144) hx hb dL_law_861 (by decide) ?_
          refine zi_inc (lv' := [(4, .int (iZ (i + 8))), (6, .int (iZ 0)), (5, .int (iZ 2)), (0, .ref b), (1, .ref o), (2, .ref mo), (3, .ref bo)]) hx hb dL_law_1144 hl (k := 6) rfl (by decide) rfl (fun ls hl => ?_)
          refine lv_goto (tgt := 23) hx hb dL_law_1147 (by decide) ?_
          have hF9 : V 0 = V1 0 := (congrFun hR 0).symm
          have hN9 : ∀ j, 0 ≤ V1 0 j ∧ V1 0 j < 32003 := by
            rw [← hF9]
            exact hN
          exact kk V1 G k 2 w H locs ls (by omega) hN9 hG (lX_F hP hF9) hMo hS (lv_sub hl [3, 4, 5, 6, 0] rfl)
        · exfalso
          omega
      · exfalso
        omega
  · have f1 := dgZ_rng (V 0) a1 a2 9
    refine lv_aload_n hx hb dL_law_796 rfl (lv_at hl 1 rfl) ?_
    refine lv_aload_n hx hb dL_law_797 rfl (lv_at hl 0 rfl) ?_
    refine lv_iload hx hb dL_law_798 (lv_at hl 4 rfl) ?_
    refine zi_const hx hb 1 dL_law_800 ?_
    refine zi_add hx hb dL_law_801 ?_
    refine lw_ld hx hb hX hbl hbA hS (by omega) ea1 dL_law_802 ?_
    refine lv_aload_n hx hb dL_law_803 rfl (lv_at hl 0 rfl) ?_
    refine lv_iload hx hb dL_law_804 (lv_at hl 4 rfl) ?_
    refine zi_const hx hb 2 dL_law_806 ?_
    refine zi_add hx hb dL_law_807 ?_
    refine lw_ld hx hb hX hbl hbA hS (by omega) ea2 dL_law_808 ?_
    refine lv_aload_n hx hb dL_law_809 rfl (lv_at hl 3 rfl) ?_
    refine hl_S (As := [.ref o, .int (iZ a1), .int (iZ a2), .ref bo]) (rest := []) (st1 := [.int (iZ 1)]) S (hl_degree_tO l hl0 D o q1 q2 cI cJ tE tL (V 0) G k bo w hdl a1 a2 (by omega) (by omega) (by omega) (by omega)) tb_360 tb_361 tb_0 tb_362 hd_L_degree ⟨rfl, rfl, by decide, by decide⟩ hP hK hs ht hnc hS hA hAn rfl hl.1 rfl (Nat.le_of_ble_eq_true rfl) dL_law_810 ⟨show cells + 1 ≤ 1043 from by omega, show slots + 6 ≤ 17677 from by omega⟩ rfl (fun H locs hP hS hz hkp => ?_)
    have hMo := mX_kept hMo hkp hcr
    refine lv_istore (lv' := [(5, .int (iZ 1)), (0, .ref b), (1, .ref o), (2, .ref mo), (3, .ref bo), (4, .int (iZ i))]) hx hb dL_law_813 hl (by decide) rfl (fun ls hl => ?_)
    refine lv_aload_n hx hb dL_law_815 rfl (lv_at hl 3 rfl) ?_
    refine lv_aload_n hx hb dL_law_816 rfl (lv_at hl 1 rfl) ?_
    refine lv_iload hx hb dL_law_817 (lv_at hl 5 rfl) ?_
    refine zi_const hx hb 1 dL_law_819 ?_
    refine zi_add hx hb dL_law_820 ?_
    refine lw_ld hx hb hX hbl hbA hS (by omega) ea1 dL_law_821 ?_
    refine lv_aload_n hx hb dL_law_822 rfl (lv_at hl 1 rfl) ?_
    refine lv_iload hx hb dL_law_823 (lv_at hl 5 rfl) ?_
    refine zi_const hx hb 2 dL_law_825 ?_
    refine zi_add hx hb dL_law_826 ?_
    refine lw_ld hx hb hX hbl hbA hS (by omega) ea2 dL_law_827 ?_
    refine wm_V (As := [.int (iZ a1), .int (iZ a2)]) (rest := []) (st1 := [.int (iZ 0)]) (c1 := 1) (k1 := k) S (kO_X1_degree l D mo na cI cJ c0 k V a1 a2 hdm (by omega) (by omega) (by omega) (by omega)) tb_528 tb_529 tb_530 tb_2 tb_531 hd_X1_degree ⟨rfl, rfl, by decide, by decide⟩ hMo hK hS hMA hAn rfl hl.1 rfl (Nat.le_of_ble_eq_true rfl) dL_law_828 ⟨show cells + 1 ≤ 1043 from by omega, show slots + 6 ≤ 17677 from by omega⟩ rfl (fun V1 H locs hR hMo hS hz hkp => ?_)
    have hP := lX_kept hP hkp hcr
    refine lv_istore (lv' := [(6, .int (iZ 0)), (5, .int (iZ 1)), (0, .ref b), (1, .ref o), (2, .ref mo), (3, .ref bo), (4, .int (iZ i))]) hx hb dL_law_831 hl (by decide) rfl (fun ls hl => ?_)
    refine lv_aload_n hx hb dL_law_833 rfl (lv_at hl 4 rfl) ?_
    refine rd_V (As := []) (rest := []) (st1 := [.int (iZ 1)]) S (k_X1_thrown l D mo na cI cJ 1 k V1) tb_428 tb_429 tb_430 tb_2 tb_431 hd_X1_thrown ⟨rfl, rfl, by decide, by decide⟩ rM_bl (rM_mv hMo hK) (va_recv hK hMo (ci := 1) (q0 := 0) rfl rfl) rfl hl.1 rfl (Nat.le_of_ble_eq_true rfl) dL_law_834 ⟨show cells + 1 ≤ 1043 from by omega, show slots + 6 ≤ 17677 from by omega⟩ rfl ?_
    refine lv_iload hx hb dL_law_837 (lv_at hl 1 rfl) ?_
    refine zi_ceq (tgt := 844) hx hb dL_law_839 (by decide) (by omega) (by omega) (fun hc839 => ?_) (fun hc839 => ?_)
    · refine lv_iload hx hb dL_law_844 (lv_at hl 1 rfl) ?_
      refine zi_fne (tgt := 861) hx hb dL_law_846 (by decide) (by omega) (fun hc846 => ?_) (fun hc846 => ?_)
      · refine lv_goto (tgt := 1144) hx hb dL_law_861 (by decide) ?_
        refine zi_inc (lv' := [(4, .int (iZ (i + 8))), (6, .int (iZ 0)), (5, .int (iZ 1)), (0, .ref b), (1, .ref o), (2, .ref mo), (3, .ref bo)]) hx hb dL_law_1144 hl (k := 6) rfl (by decide) rfl (fun ls hl => ?_)
        refine lv_goto (tgt := 23) hx hb dL_law_1147 (by decide) ?_
        have hF9 : V 0 = V1 0 := (congrFun hR 0).symm
        have hN9 : ∀ j, 0 ≤ V1 0 j ∧ V1 0 j < 32003 := by
          rw [← hF9]
          exact hN
        exact kk V1 G k 1 w H locs ls (by omega) hN9 hG (lX_F hP hF9) hMo hS (lv_sub hl [3, 4, 5, 6, 0] rfl)
      · exfalso
        omega
    · exfalso
      omega
set_option maxHeartbeats 4000000 in
set_option maxRecDepth 100000 in
theorem lc_value (l : Launch) (hl0 : l.stackTraces = false) {p : Program} {e : Env} {s : State} {m : MethodId} {below : List Frame} {meth : Method} {c : Code} {b L : Nat} {xs : Nat → Int32} {A : Nat → Prop} {D : va_G} {o q1 q2 : Nat} {cI cJ : ClassId} {tE tL bo mo : Nat} {na : Nat → Nat} {Q : State → Prop} (E9 : lawE p s m c b L xs A D o q1 q2 cI cJ tE tL bo mo na) {H : Heap} {locs : List Loc} {cells slots : Nat} {ls : Array Slot} (V : Nat → Nat → Int) (G : Nat → Int) (k c0 : Int) (w : Nat → Int) (i : Int) (hk : 0 ≤ k ∧ k ≤ 60) (hN : ∀ j, 0 ≤ V 0 j ∧ V 0 j < 32003) (hG : ∀ j, 0 ≤ G j ∧ G j < 32003) (hP : va_P D vwCl (lX o q1 q2 cI cJ (V 0) G k bo w) H) (hMo : va_P D vwCl (mX mo na cI cJ c0 k V) H) (hS : va_S A s.heap H locs) (hi : 0 ≤ i ∧ i + 8 ≤ L) (hcs : cells + 1 ≤ 1043 ∧ slots + 6 ≤ 17677) (hl : lv_has ls 7 [(0, .ref b), (1, .ref o), (2, .ref mo), (3, .ref bo), (4, .int (iZ i))]) (kk : ∀ (V : Nat → Nat → Int) (G : Nat → Int) (k c0 : Int) (w : Nat → Int) (H : Heap) (locs : List Loc) (ls : Array Slot), 0 ≤ k ∧ k ≤ 60 → (∀ j, 0 ≤ V 0 j ∧ V 0 j < 32003) → (∀ j, 0 ≤ G j ∧ G j < 32003) → va_P D vwCl (lX o q1 q2 cI cJ (V 0) G k bo w) H → va_P D vwCl (mX mo na cI cJ c0 k V) H → va_S A s.heap H locs → lv_has ls 7 [(0, .ref b), (1, .ref o), (2, .ref mo), (3, .ref bo), (4, .int (iZ (i + 8)))] → W p l e room_1 s m #[Value.ref b] below meth c H locs (cells + 1) (slots + 6) Q (F0 m 23 ls [])) : W p l e room_1 s m #[Value.ref b] below meth c H locs cells slots Q (F0 m 864 ls []) := by
  obtain ⟨S, hX, hbl, hbA, hAn, hK, hs, ht, hnc, hA, hMA, hdl, hdm, hcr, hL⟩ := id E9
  obtain ⟨hx, hb, hml, hown, hT⟩ := id S
  obtain ⟨a1, ea1⟩ : ∃ a : Int, a = xZ xs (i + 1) := ⟨_, rfl⟩
  have ra1 := xZ_rng xs (i + 1)
  rw [← ea1] at ra1
  obtain ⟨a2, ea2⟩ : ∃ a : Int, a = xZ xs (i + 2) := ⟨_, rfl⟩
  have ra2 := xZ_rng xs (i + 2)
  rw [← ea2] at ra2
  obtain ⟨a3, ea3⟩ : ∃ a : Int, a = xZ xs (i + 3) := ⟨_, rfl⟩
  have ra3 := xZ_rng xs (i + 3)
  rw [← ea3] at ra3
  obtain ⟨a4, ea4⟩ : ∃ a : Int, a = xZ xs (i + 4) := ⟨_, rfl⟩
  have ra4 := xZ_rng xs (i + 4)
  rw [← ea4] at ra4
  obtain ⟨a5, ea5⟩ : ∃ a : Int, a = xZ xs (i + 5) := ⟨_, rfl⟩
  have ra5 := xZ_rng xs (i + 5)
  rw [← ea5] at ra5
  obtain ⟨a6, ea6⟩ : ∃ a : Int, a = xZ xs (i + 6) := ⟨_, rfl⟩
  have ra6 := xZ_rng xs (i + 6)
  rw [← ea6] at ra6
  obtain ⟨a7, ea7⟩ : ∃ a : Int, a = xZ xs (i + 7) := ⟨_, rfl⟩
  have ra7 := xZ_rng xs (i + 7)
  rw [← ea7] at ra7
  have hv2 := orZ_rng (shZ a2) (anZ a3 4294967295)
  have hv4 := orZ_rng (shZ a4) (anZ a5 4294967295)
  have hv6 := orZ_rng (shZ a6) (anZ a7 4294967295)
  by_cases g2 : 0 ≤ a1 ∧ a1 < k
  · have f1 := vlZ_rng (V 0) a1 (orZ (shZ a2) (anZ a3 4294967295)) (orZ (shZ a4) (anZ a5 4294967295)) (orZ (shZ a6) (anZ a7 4294967295))
    refine lv_aload_n hx hb dL_law_864 rfl (lv_at hl 1 rfl) ?_
    refine lv_aload_n hx hb dL_law_865 rfl (lv_at hl 0 rfl) ?_
    refine lv_iload hx hb dL_law_866 (lv_at hl 4 rfl) ?_
    refine zi_const hx hb 1 dL_law_868 ?_
    refine zi_add hx hb dL_law_869 ?_
    refine lw_ld hx hb hX hbl hbA hS (by omega) ea1 dL_law_870 ?_
    refine lv_aload_n hx hb dL_law_871 rfl (lv_at hl 0 rfl) ?_
    refine lv_iload hx hb dL_law_872 (lv_at hl 4 rfl) ?_
    refine zi_const hx hb 2 dL_law_874 ?_
    refine zi_add hx hb dL_law_875 ?_
    refine lw_ld hx hb hX hbl hbA hS (by omega) ea2 dL_law_876 ?_
    refine zi_i2l hx hb dL_law_877 (by omega) ?_
    refine zi_bi hx hb 32 dL_law_878 (by decide) ?_
    refine zl_shl hx hb dL_law_880 ?_
    refine lv_aload_n hx hb dL_law_881 rfl (lv_at hl 0 rfl) ?_
    refine lv_iload hx hb dL_law_882 (lv_at hl 4 rfl) ?_
    refine zi_const hx hb 3 dL_law_884 ?_
    refine zi_add hx hb dL_law_885 ?_
    refine lw_ld hx hb hX hbl hbA hS (by omega) ea3 dL_law_886 ?_
    refine zi_i2l hx hb dL_law_887 (by omega) ?_
    refine zl_ldc hx hb 4294967295 hown (hT _ tb_547) (by decide) dL_law_888 ?_
    refine zl_and hx hb dL_law_891 ?_
    refine zl_or hx hb dL_law_892 ?_
    refine lv_aload_n hx hb dL_law_893 rfl (lv_at hl 0 rfl) ?_
    refine lv_iload hx hb dL_law_894 (lv_at hl 4 rfl) ?_
    refine zi_const hx hb 4 dL_law_896 ?_
    refine zi_add hx hb dL_law_897 ?_
    refine lw_ld hx hb hX hbl hbA hS (by omega) ea4 dL_law_898 ?_
    refine zi_i2l hx hb dL_law_899 (by omega) ?_
    refine zi_bi hx hb 32 dL_law_900 (by decide) ?_
    refine zl_shl hx hb dL_law_902 ?_
    refine lv_aload_n hx hb dL_law_903 rfl (lv_at hl 0 rfl) ?_
    refine lv_iload hx hb dL_law_904 (lv_at hl 4 rfl) ?_
    refine zi_const hx hb 5 dL_law_906 ?_
    refine zi_add hx hb dL_law_907 ?_
    refine lw_ld hx hb hX hbl hbA hS (by omega) ea5 dL_law_908 ?_
    refine zi_i2l hx hb dL_law_909 (by omega) ?_
    refine zl_ldc hx hb 4294967295 hown (hT _ tb_547) (by decide) dL_law_910 ?_
    refine zl_and hx hb dL_law_913 ?_
    refine zl_or hx hb dL_law_914 ?_
    refine lv_aload_n hx hb dL_law_915 rfl (lv_at hl 0 rfl) ?_
    refine lv_iload hx hb dL_law_916 (lv_at hl 4 rfl) ?_
    refine zi_bi hx hb 6 dL_law_918 (by decide) ?_
    refine zi_add hx hb dL_law_920 ?_
    refine lw_ld hx hb hX hbl hbA hS (by omega) ea6 dL_law_921 ?_
    refine zi_i2l hx hb dL_law_922 (by omega) ?_
    refine zi_bi hx hb 32 dL_law_923 (by decide) ?_
    refine zl_shl hx hb dL_law_925 ?_
    refine lv_aload_n hx hb dL_law_926 rfl (lv_at hl 0 rfl) ?_
    refine lv_iload hx hb dL_law_927 (lv_at hl 4 rfl) ?_
    refine zi_bi hx hb 7 dL_law_929 (by decide) ?_
    refine zi_add hx hb dL_law_931 ?_
    refine lw_ld hx hb hX hbl hbA hS (by omega) ea7 dL_law_932 ?_
    refine zi_i2l hx hb dL_law_933 (by omega) ?_
    refine zl_ldc hx hb 4294967295 hown (hT _ tb_547) (by decide) dL_law_934 ?_
    refine zl_and hx hb dL_law_937 ?_
    refine zl_or hx hb dL_law_938 ?_
    refine lv_aload_n hx hb dL_law_939 rfl (lv_at hl 3 rfl) ?_
    refine hl_S (As := [.ref o, .int (iZ a1), .long (lZ (orZ (shZ a2) (anZ a3 4294967295))), .long (lZ (orZ (shZ a4) (anZ a5 4294967295))), .long (lZ (orZ (shZ a6) (anZ a7 4294967295))), .ref bo]) (rest := []) (st1 := [.int (iZ 0)]) S (hl_value_k l D o q1 q2 cI cJ tE tL (V 0) G k bo w hdl a1 (orZ (shZ a2) (anZ a3 4294967295)) (orZ (shZ a4) (anZ a5 4294967295)) (orZ (shZ a6) (anZ a7 4294967295)) hN (by omega) (by omega) (by omega) (by omega)) tb_367 tb_368 tb_0 tb_369 hd_L_value ⟨rfl, rfl, by decide, by decide⟩ hP hK hs ht hnc hS hA hAn rfl hl.1 rfl (Nat.le_of_ble_eq_true rfl) dL_law_940 ⟨show cells + 0 ≤ 1043 from by omega, show slots + 0 ≤ 17677 from by omega⟩ rfl (fun H locs hP hS hz hkp => ?_)
    have hMo := mX_kept hMo hkp hcr
    refine lv_istore (lv' := [(5, .int (iZ 0)), (0, .ref b), (1, .ref o), (2, .ref mo), (3, .ref bo), (4, .int (iZ i))]) hx hb dL_law_943 hl (by decide) rfl (fun ls hl => ?_)
    refine lv_aload_n hx hb dL_law_945 rfl (lv_at hl 3 rfl) ?_
    refine lv_aload_n hx hb dL_law_946 rfl (lv_at hl 1 rfl) ?_
    refine lv_iload hx hb dL_law_947 (lv_at hl 5 rfl) ?_
    refine zi_const hx hb 1 dL_law_949 ?_
    refine zi_add hx hb dL_law_950 ?_
    refine lw_ld hx hb hX hbl hbA hS (by omega) ea1 dL_law_951 ?_
    refine lv_aload_n hx hb dL_law_952 rfl (lv_at hl 1 rfl) ?_
    refine lv_iload hx hb dL_law_953 (lv_at hl 5 rfl) ?_
    refine zi_const hx hb 2 dL_law_955 ?_
    refine zi_add hx hb dL_law_956 ?_
    refine lw_ld hx hb hX hbl hbA hS (by omega) ea2 dL_law_957 ?_
    refine zi_i2l hx hb dL_law_958 (by omega) ?_
    refine zi_bi hx hb 32 dL_law_959 (by decide) ?_
    refine zl_shl hx hb dL_law_961 ?_
    refine lv_aload_n hx hb dL_law_962 rfl (lv_at hl 1 rfl) ?_
    refine lv_iload hx hb dL_law_963 (lv_at hl 5 rfl) ?_
    refine zi_const hx hb 3 dL_law_965 ?_
    refine zi_add hx hb dL_law_966 ?_
    refine lw_ld hx hb hX hbl hbA hS (by omega) ea3 dL_law_967 ?_
    refine zi_i2l hx hb dL_law_968 (by omega) ?_
    refine zl_ldc hx hb 4294967295 hown (hT _ tb_547) (by decide) dL_law_969 ?_
    refine zl_and hx hb dL_law_972 ?_
    refine zl_or hx hb dL_law_973 ?_
    refine lv_aload_n hx hb dL_law_974 rfl (lv_at hl 1 rfl) ?_
    refine lv_iload hx hb dL_law_975 (lv_at hl 5 rfl) ?_
    refine zi_const hx hb 4 dL_law_977 ?_
    refine zi_add hx hb dL_law_978 ?_
    refine lw_ld hx hb hX hbl hbA hS (by omega) ea4 dL_law_979 ?_
    refine zi_i2l hx hb dL_law_980 (by omega) ?_
    refine zi_bi hx hb 32 dL_law_981 (by decide) ?_
    refine zl_shl hx hb dL_law_983 ?_
    refine lv_aload_n hx hb dL_law_984 rfl (lv_at hl 1 rfl) ?_
    refine lv_iload hx hb dL_law_985 (lv_at hl 5 rfl) ?_
    refine zi_const hx hb 5 dL_law_987 ?_
    refine zi_add hx hb dL_law_988 ?_
    refine lw_ld hx hb hX hbl hbA hS (by omega) ea5 dL_law_989 ?_
    refine zi_i2l hx hb dL_law_990 (by omega) ?_
    refine zl_ldc hx hb 4294967295 hown (hT _ tb_547) (by decide) dL_law_991 ?_
    refine zl_and hx hb dL_law_994 ?_
    refine zl_or hx hb dL_law_995 ?_
    refine lv_aload_n hx hb dL_law_996 rfl (lv_at hl 1 rfl) ?_
    refine lv_iload hx hb dL_law_997 (lv_at hl 5 rfl) ?_
    refine zi_bi hx hb 6 dL_law_999 (by decide) ?_
    refine zi_add hx hb dL_law_1001 ?_
    refine lw_ld hx hb hX hbl hbA hS (by omega) ea6 dL_law_1002 ?_
    refine zi_i2l hx hb dL_law_1003 (by omega) ?_
    refine zi_bi hx hb 32 dL_law_1004 (by decide) ?_
    refine zl_shl hx hb dL_law_1006 ?_
    refine lv_aload_n hx hb dL_law_1007 rfl (lv_at hl 1 rfl) ?_
    refine lv_iload hx hb dL_law_1008 (lv_at hl 5 rfl) ?_
    refine zi_bi hx hb 7 dL_law_1010 (by decide) ?_
    refine zi_add hx hb dL_law_1012 ?_
    refine lw_ld hx hb hX hbl hbA hS (by omega) ea7 dL_law_1013 ?_
    refine zi_i2l hx hb dL_law_1014 (by omega) ?_
    refine zl_ldc hx hb 4294967295 hown (hT _ tb_547) (by decide) dL_law_1015 ?_
    refine zl_and hx hb dL_law_1018 ?_
    refine zl_or hx hb dL_law_1019 ?_
    refine wm_V (As := [.int (iZ a1), .long (lZ (orZ (shZ a2) (anZ a3 4294967295))), .long (lZ (orZ (shZ a4) (anZ a5 4294967295))), .long (lZ (orZ (shZ a6) (anZ a7 4294967295)))]) (rest := []) (st1 := [.int (iZ (vlZ (V 0) a1 (orZ (shZ a2) (anZ a3 4294967295)) (orZ (shZ a4) (anZ a5 4294967295)) (orZ (shZ a6) (anZ a7 4294967295))))]) (c1 := 0) (k1 := k) S (k_X1_value l D mo na cI cJ c0 k V a1 (orZ (shZ a2) (anZ a3 4294967295)) (orZ (shZ a4) (anZ a5 4294967295)) (orZ (shZ a6) (anZ a7 4294967295)) hdm hN (by omega) (by omega) (by omega) (by omega) (by omega)) tb_532 tb_533 tb_534 tb_2 tb_535 hd_X1_value ⟨rfl, rfl, by decide, by decide⟩ hMo hK hS hMA hAn rfl hl.1 rfl (Nat.le_of_ble_eq_true rfl) dL_law_1020 ⟨show cells ≤ 1043 from by omega, show slots ≤ 17677 from by omega⟩ rfl (fun V1 H locs hR hMo hS hz hkp => ?_)
    have hP := lX_kept hP hkp hcr
    refine zi_top (fun v1 ev1 => ?_)
    refine lv_istore (lv' := [(6, .int (iZ v1)), (5, .int (iZ 0)), (0, .ref b), (1, .ref o), (2, .ref mo), (3, .ref bo), (4, .int (iZ i))]) hx hb dL_law_1023 hl (by decide) rfl (fun ls hl => ?_)
    refine lv_aload_n hx hb dL_law_1025 rfl (lv_at hl 4 rfl) ?_
    refine rd_V (As := []) (rest := []) (st1 := [.int (iZ 0)]) S (k_X1_thrown l D mo na cI cJ 0 k V1) tb_428 tb_429 tb_430 tb_2 tb_431 hd_X1_thrown ⟨rfl, rfl, by decide, by decide⟩ rM_bl (rM_mv hMo hK) (va_recv hK hMo (ci := 1) (q0 := 0) rfl rfl) rfl hl.1 rfl (Nat.le_of_ble_eq_true rfl) dL_law_1026 ⟨show cells ≤ 1043 from by omega, show slots ≤ 17677 from by omega⟩ rfl ?_
    refine lv_iload hx hb dL_law_1029 (lv_at hl 1 rfl) ?_
    refine zi_ceq (tgt := 1036) hx hb dL_law_1031 (by decide) (by omega) (by omega) (fun hc1031 => ?_) (fun hc1031 => ?_)
    · refine lv_iload hx hb dL_law_1036 (lv_at hl 1 rfl) ?_
      refine zi_fne (tgt := 1053) hx hb dL_law_1038 (by decide) (by omega) (fun hc1038 => ?_) (fun hc1038 => ?_)
      · exfalso
        omega
      · refine lv_aload_n hx hb dL_law_1041 rfl (lv_at hl 5 rfl) ?_
        refine zi_const hx hb 0 dL_law_1042 ?_
        refine lw_ot hx hb hK hP (a := vlZ (V 0) a1 (orZ (shZ a2) (anZ a3 4294967295)) (orZ (shZ a4) (anZ a5 4294967295)) (orZ (shZ a6) (anZ a7 4294967295))) rfl dL_law_1043 ?_
        refine lv_iload hx hb dL_law_1044 (lv_at hl 0 rfl) ?_
        refine zi_i2l hx hb dL_law_1046 (by omega) ?_
        refine zl_ceq (tgt := 1053) hx hb dL_law_1047 dL_law_1048 (by decide) (by omega) (by omega) (fun hc1047 => ?_) (fun hc1047 => ?_)
        · refine lv_goto (tgt := 1144) hx hb dL_law_1053 (by decide) ?_
          refine zi_inc (lv' := [(4, .int (iZ (i + 8))), (6, .int (iZ v1)), (5, .int (iZ 0)), (0, .ref b), (1, .ref o), (2, .ref mo), (3, .ref bo)]) hx hb dL_law_1144 hl (k := 6) rfl (by decide) rfl (fun ls hl => ?_)
          refine lv_goto (tgt := 23) hx hb dL_law_1147 (by decide) ?_
          have hF9 : V 0 = V1 0 := (congrFun hR 0).symm
          have hN9 : ∀ j, 0 ≤ V1 0 j ∧ V1 0 j < 32003 := by
            rw [← hF9]
            exact hN
          refine W.widen (k := cells + 1) (n := slots + 6) (by omega) (by omega) ?_
          exact kk V1 G k 0 (uZ w 0 (vlZ (V 0) a1 (orZ (shZ a2) (anZ a3 4294967295)) (orZ (shZ a4) (anZ a5 4294967295)) (orZ (shZ a6) (anZ a7 4294967295)))) H locs ls (by omega) hN9 hG (lX_F hP hF9) hMo hS (lv_sub hl [3, 4, 5, 6, 0] rfl)
        · refine zi_const hx hb 0 dL_law_1051 ?_
          exfalso
          omega
    · exfalso
      omega
  · have f1 := vlZ_rng (V 0) a1 (orZ (shZ a2) (anZ a3 4294967295)) (orZ (shZ a4) (anZ a5 4294967295)) (orZ (shZ a6) (anZ a7 4294967295))
    refine lv_aload_n hx hb dL_law_864 rfl (lv_at hl 1 rfl) ?_
    refine lv_aload_n hx hb dL_law_865 rfl (lv_at hl 0 rfl) ?_
    refine lv_iload hx hb dL_law_866 (lv_at hl 4 rfl) ?_
    refine zi_const hx hb 1 dL_law_868 ?_
    refine zi_add hx hb dL_law_869 ?_
    refine lw_ld hx hb hX hbl hbA hS (by omega) ea1 dL_law_870 ?_
    refine lv_aload_n hx hb dL_law_871 rfl (lv_at hl 0 rfl) ?_
    refine lv_iload hx hb dL_law_872 (lv_at hl 4 rfl) ?_
    refine zi_const hx hb 2 dL_law_874 ?_
    refine zi_add hx hb dL_law_875 ?_
    refine lw_ld hx hb hX hbl hbA hS (by omega) ea2 dL_law_876 ?_
    refine zi_i2l hx hb dL_law_877 (by omega) ?_
    refine zi_bi hx hb 32 dL_law_878 (by decide) ?_
    refine zl_shl hx hb dL_law_880 ?_
    refine lv_aload_n hx hb dL_law_881 rfl (lv_at hl 0 rfl) ?_
    refine lv_iload hx hb dL_law_882 (lv_at hl 4 rfl) ?_
    refine zi_const hx hb 3 dL_law_884 ?_
    refine zi_add hx hb dL_law_885 ?_
    refine lw_ld hx hb hX hbl hbA hS (by omega) ea3 dL_law_886 ?_
    refine zi_i2l hx hb dL_law_887 (by omega) ?_
    refine zl_ldc hx hb 4294967295 hown (hT _ tb_547) (by decide) dL_law_888 ?_
    refine zl_and hx hb dL_law_891 ?_
    refine zl_or hx hb dL_law_892 ?_
    refine lv_aload_n hx hb dL_law_893 rfl (lv_at hl 0 rfl) ?_
    refine lv_iload hx hb dL_law_894 (lv_at hl 4 rfl) ?_
    refine zi_const hx hb 4 dL_law_896 ?_
    refine zi_add hx hb dL_law_897 ?_
    refine lw_ld hx hb hX hbl hbA hS (by omega) ea4 dL_law_898 ?_
    refine zi_i2l hx hb dL_law_899 (by omega) ?_
    refine zi_bi hx hb 32 dL_law_900 (by decide) ?_
    refine zl_shl hx hb dL_law_902 ?_
    refine lv_aload_n hx hb dL_law_903 rfl (lv_at hl 0 rfl) ?_
    refine lv_iload hx hb dL_law_904 (lv_at hl 4 rfl) ?_
    refine zi_const hx hb 5 dL_law_906 ?_
    refine zi_add hx hb dL_law_907 ?_
    refine lw_ld hx hb hX hbl hbA hS (by omega) ea5 dL_law_908 ?_
    refine zi_i2l hx hb dL_law_909 (by omega) ?_
    refine zl_ldc hx hb 4294967295 hown (hT _ tb_547) (by decide) dL_law_910 ?_
    refine zl_and hx hb dL_law_913 ?_
    refine zl_or hx hb dL_law_914 ?_
    refine lv_aload_n hx hb dL_law_915 rfl (lv_at hl 0 rfl) ?_
    refine lv_iload hx hb dL_law_916 (lv_at hl 4 rfl) ?_
    refine zi_bi hx hb 6 dL_law_918 (by decide) ?_
    refine zi_add hx hb dL_law_920 ?_
    refine lw_ld hx hb hX hbl hbA hS (by omega) ea6 dL_law_921 ?_
    refine zi_i2l hx hb dL_law_922 (by omega) ?_
    refine zi_bi hx hb 32 dL_law_923 (by decide) ?_
    refine zl_shl hx hb dL_law_925 ?_
    refine lv_aload_n hx hb dL_law_926 rfl (lv_at hl 0 rfl) ?_
    refine lv_iload hx hb dL_law_927 (lv_at hl 4 rfl) ?_
    refine zi_bi hx hb 7 dL_law_929 (by decide) ?_
    refine zi_add hx hb dL_law_931 ?_
    refine lw_ld hx hb hX hbl hbA hS (by omega) ea7 dL_law_932 ?_
    refine zi_i2l hx hb dL_law_933 (by omega) ?_
    refine zl_ldc hx hb 4294967295 hown (hT _ tb_547) (by decide) dL_law_934 ?_
    refine zl_and hx hb dL_law_937 ?_
    refine zl_or hx hb dL_law_938 ?_
    refine lv_aload_n hx hb dL_law_939 rfl (lv_at hl 3 rfl) ?_
    refine hl_S (As := [.ref o, .int (iZ a1), .long (lZ (orZ (shZ a2) (anZ a3 4294967295))), .long (lZ (orZ (shZ a4) (anZ a5 4294967295))), .long (lZ (orZ (shZ a6) (anZ a7 4294967295))), .ref bo]) (rest := []) (st1 := [.int (iZ 1)]) S (hl_value_tO l hl0 D o q1 q2 cI cJ tE tL (V 0) G k bo w hdl a1 (orZ (shZ a2) (anZ a3 4294967295)) (orZ (shZ a4) (anZ a5 4294967295)) (orZ (shZ a6) (anZ a7 4294967295)) (by omega) (by omega) (by omega)) tb_367 tb_368 tb_0 tb_369 hd_L_value ⟨rfl, rfl, by decide, by decide⟩ hP hK hs ht hnc hS hA hAn rfl hl.1 rfl (Nat.le_of_ble_eq_true rfl) dL_law_940 ⟨show cells + 1 ≤ 1043 from by omega, show slots + 6 ≤ 17677 from by omega⟩ rfl (fun H locs hP hS hz hkp => ?_)
    have hMo := mX_kept hMo hkp hcr
    refine lv_istore (lv' := [(5, .int (iZ 1)), (0, .ref b), (1, .ref o), (2, .ref mo), (3, .ref bo), (4, .int (iZ i))]) hx hb dL_law_943 hl (by decide) rfl (fun ls hl => ?_)
    refine lv_aload_n hx hb dL_law_945 rfl (lv_at hl 3 rfl) ?_
    refine lv_aload_n hx hb dL_law_946 rfl (lv_at hl 1 rfl) ?_
    refine lv_iload hx hb dL_law_947 (lv_at hl 5 rfl) ?_
    refine zi_const hx hb 1 dL_law_949 ?_
    refine zi_add hx hb dL_law_950 ?_
    refine lw_ld hx hb hX hbl hbA hS (by omega) ea1 dL_law_951 ?_
    refine lv_aload_n hx hb dL_law_952 rfl (lv_at hl 1 rfl) ?_
    refine lv_iload hx hb dL_law_953 (lv_at hl 5 rfl) ?_
    refine zi_const hx hb 2 dL_law_955 ?_
    refine zi_add hx hb dL_law_956 ?_
    refine lw_ld hx hb hX hbl hbA hS (by omega) ea2 dL_law_957 ?_
    refine zi_i2l hx hb dL_law_958 (by omega) ?_
    refine zi_bi hx hb 32 dL_law_959 (by decide) ?_
    refine zl_shl hx hb dL_law_961 ?_
    refine lv_aload_n hx hb dL_law_962 rfl (lv_at hl 1 rfl) ?_
    refine lv_iload hx hb dL_law_963 (lv_at hl 5 rfl) ?_
    refine zi_const hx hb 3 dL_law_965 ?_
    refine zi_add hx hb dL_law_966 ?_
    refine lw_ld hx hb hX hbl hbA hS (by omega) ea3 dL_law_967 ?_
    refine zi_i2l hx hb dL_law_968 (by omega) ?_
    refine zl_ldc hx hb 4294967295 hown (hT _ tb_547) (by decide) dL_law_969 ?_
    refine zl_and hx hb dL_law_972 ?_
    refine zl_or hx hb dL_law_973 ?_
    refine lv_aload_n hx hb dL_law_974 rfl (lv_at hl 1 rfl) ?_
    refine lv_iload hx hb dL_law_975 (lv_at hl 5 rfl) ?_
    refine zi_const hx hb 4 dL_law_977 ?_
    refine zi_add hx hb dL_law_978 ?_
    refine lw_ld hx hb hX hbl hbA hS (by omega) ea4 dL_law_979 ?_
    refine zi_i2l hx hb dL_law_980 (by omega) ?_
    refine zi_bi hx hb 32 dL_law_981 (by decide) ?_
    refine zl_shl hx hb dL_law_983 ?_
    refine lv_aload_n hx hb dL_law_984 rfl (lv_at hl 1 rfl) ?_
    refine lv_iload hx hb dL_law_985 (lv_at hl 5 rfl) ?_
    refine zi_const hx hb 5 dL_law_987 ?_
    refine zi_add hx hb dL_law_988 ?_
    refine lw_ld hx hb hX hbl hbA hS (by omega) ea5 dL_law_989 ?_
    refine zi_i2l hx hb dL_law_990 (by omega) ?_
    refine zl_ldc hx hb 4294967295 hown (hT _ tb_547) (by decide) dL_law_991 ?_
    refine zl_and hx hb dL_law_994 ?_
    refine zl_or hx hb dL_law_995 ?_
    refine lv_aload_n hx hb dL_law_996 rfl (lv_at hl 1 rfl) ?_
    refine lv_iload hx hb dL_law_997 (lv_at hl 5 rfl) ?_
    refine zi_bi hx hb 6 dL_law_999 (by decide) ?_
    refine zi_add hx hb dL_law_1001 ?_
    refine lw_ld hx hb hX hbl hbA hS (by omega) ea6 dL_law_1002 ?_
    refine zi_i2l hx hb dL_law_1003 (by omega) ?_
    refine zi_bi hx hb 32 dL_law_1004 (by decide) ?_
    refine zl_shl hx hb dL_law_1006 ?_
    refine lv_aload_n hx hb dL_law_1007 rfl (lv_at hl 1 rfl) ?_
    refine lv_iload hx hb dL_law_1008 (lv_at hl 5 rfl) ?_
    refine zi_bi hx hb 7 dL_law_1010 (by decide) ?_
    refine zi_add hx hb dL_law_1012 ?_
    refine lw_ld hx hb hX hbl hbA hS (by omega) ea7 dL_law_1013 ?_
    refine zi_i2l hx hb dL_law_1014 (by omega) ?_
    refine zl_ldc hx hb 4294967295 hown (hT _ tb_547) (by decide) dL_law_1015 ?_
    refine zl_and hx hb dL_law_1018 ?_
    refine zl_or hx hb dL_law_1019 ?_
    refine wm_V (As := [.int (iZ a1), .long (lZ (orZ (shZ a2) (anZ a3 4294967295))), .long (lZ (orZ (shZ a4) (anZ a5 4294967295))), .long (lZ (orZ (shZ a6) (anZ a7 4294967295)))]) (rest := []) (st1 := [.int (iZ 0)]) (c1 := 1) (k1 := k) S (kO_X1_value l D mo na cI cJ c0 k V a1 (orZ (shZ a2) (anZ a3 4294967295)) (orZ (shZ a4) (anZ a5 4294967295)) (orZ (shZ a6) (anZ a7 4294967295)) hdm (by omega) (by omega) (by omega)) tb_532 tb_533 tb_534 tb_2 tb_535 hd_X1_value ⟨rfl, rfl, by decide, by decide⟩ hMo hK hS hMA hAn rfl hl.1 rfl (Nat.le_of_ble_eq_true rfl) dL_law_1020 ⟨show cells + 1 ≤ 1043 from by omega, show slots + 6 ≤ 17677 from by omega⟩ rfl (fun V1 H locs hR hMo hS hz hkp => ?_)
    have hP := lX_kept hP hkp hcr
    refine lv_istore (lv' := [(6, .int (iZ 0)), (5, .int (iZ 1)), (0, .ref b), (1, .ref o), (2, .ref mo), (3, .ref bo), (4, .int (iZ i))]) hx hb dL_law_1023 hl (by decide) rfl (fun ls hl => ?_)
    refine lv_aload_n hx hb dL_law_1025 rfl (lv_at hl 4 rfl) ?_
    refine rd_V (As := []) (rest := []) (st1 := [.int (iZ 1)]) S (k_X1_thrown l D mo na cI cJ 1 k V1) tb_428 tb_429 tb_430 tb_2 tb_431 hd_X1_thrown ⟨rfl, rfl, by decide, by decide⟩ rM_bl (rM_mv hMo hK) (va_recv hK hMo (ci := 1) (q0 := 0) rfl rfl) rfl hl.1 rfl (Nat.le_of_ble_eq_true rfl) dL_law_1026 ⟨show cells + 1 ≤ 1043 from by omega, show slots + 6 ≤ 17677 from by omega⟩ rfl ?_
    refine lv_iload hx hb dL_law_1029 (lv_at hl 1 rfl) ?_
    refine zi_ceq (tgt := 1036) hx hb dL_law_1031 (by decide) (by omega) (by omega) (fun hc1031 => ?_) (fun hc1031 => ?_)
    · refine lv_iload hx hb dL_law_1036 (lv_at hl 1 rfl) ?_
      refine zi_fne (tgt := 1053) hx hb dL_law_1038 (by decide) (by omega) (fun hc1038 => ?_) (fun hc1038 => ?_)
      · refine lv_goto (tgt := 1144) hx hb dL_law_1053 (by decide) ?_
        refine zi_inc (lv' := [(4, .int (iZ (i + 8))), (6, .int (iZ 0)), (5, .int (iZ 1)), (0, .ref b), (1, .ref o), (2, .ref mo), (3, .ref bo)]) hx hb dL_law_1144 hl (k := 6) rfl (by decide) rfl (fun ls hl => ?_)
        refine lv_goto (tgt := 23) hx hb dL_law_1147 (by decide) ?_
        have hF9 : V 0 = V1 0 := (congrFun hR 0).symm
        have hN9 : ∀ j, 0 ≤ V1 0 j ∧ V1 0 j < 32003 := by
          rw [← hF9]
          exact hN
        exact kk V1 G k 1 w H locs ls (by omega) hN9 hG (lX_F hP hF9) hMo hS (lv_sub hl [3, 4, 5, 6, 0] rfl)
      · exfalso
        omega
    · exfalso
      omega
set_option maxHeartbeats 4000000 in
set_option maxRecDepth 100000 in
theorem lc_same (l : Launch) (hl0 : l.stackTraces = false) {p : Program} {e : Env} {s : State} {m : MethodId} {below : List Frame} {meth : Method} {c : Code} {b L : Nat} {xs : Nat → Int32} {A : Nat → Prop} {D : va_G} {o q1 q2 : Nat} {cI cJ : ClassId} {tE tL bo mo : Nat} {na : Nat → Nat} {Q : State → Prop} (E9 : lawE p s m c b L xs A D o q1 q2 cI cJ tE tL bo mo na) {H : Heap} {locs : List Loc} {cells slots : Nat} {ls : Array Slot} (V : Nat → Nat → Int) (G : Nat → Int) (k c0 : Int) (w : Nat → Int) (i : Int) (hk : 0 ≤ k ∧ k ≤ 60) (hN : ∀ j, 0 ≤ V 0 j ∧ V 0 j < 32003) (hG : ∀ j, 0 ≤ G j ∧ G j < 32003) (hP : va_P D vwCl (lX o q1 q2 cI cJ (V 0) G k bo w) H) (hMo : va_P D vwCl (mX mo na cI cJ c0 k V) H) (hS : va_S A s.heap H locs) (hi : 0 ≤ i ∧ i + 8 ≤ L) (hcs : cells + 1 ≤ 1043 ∧ slots + 6 ≤ 17677) (hl : lv_has ls 7 [(0, .ref b), (1, .ref o), (2, .ref mo), (3, .ref bo), (4, .int (iZ i))]) (kk : ∀ (V : Nat → Nat → Int) (G : Nat → Int) (k c0 : Int) (w : Nat → Int) (H : Heap) (locs : List Loc) (ls : Array Slot), 0 ≤ k ∧ k ≤ 60 → (∀ j, 0 ≤ V 0 j ∧ V 0 j < 32003) → (∀ j, 0 ≤ G j ∧ G j < 32003) → va_P D vwCl (lX o q1 q2 cI cJ (V 0) G k bo w) H → va_P D vwCl (mX mo na cI cJ c0 k V) H → va_S A s.heap H locs → lv_has ls 7 [(0, .ref b), (1, .ref o), (2, .ref mo), (3, .ref bo), (4, .int (iZ (i + 8)))] → W p l e room_1 s m #[Value.ref b] below meth c H locs (cells + 1) (slots + 6) Q (F0 m 23 ls [])) : W p l e room_1 s m #[Value.ref b] below meth c H locs cells slots Q (F0 m 1056 ls []) := by
  obtain ⟨S, hX, hbl, hbA, hAn, hK, hs, ht, hnc, hA, hMA, hdl, hdm, hcr, hL⟩ := id E9
  obtain ⟨hx, hb, hml, hown, hT⟩ := id S
  obtain ⟨a1, ea1⟩ : ∃ a : Int, a = xZ xs (i + 1) := ⟨_, rfl⟩
  have ra1 := xZ_rng xs (i + 1)
  rw [← ea1] at ra1
  obtain ⟨a2, ea2⟩ : ∃ a : Int, a = xZ xs (i + 2) := ⟨_, rfl⟩
  have ra2 := xZ_rng xs (i + 2)
  rw [← ea2] at ra2
  obtain ⟨a3, ea3⟩ : ∃ a : Int, a = xZ xs (i + 3) := ⟨_, rfl⟩
  have ra3 := xZ_rng xs (i + 3)
  rw [← ea3] at ra3
  obtain ⟨a4, ea4⟩ : ∃ a : Int, a = xZ xs (i + 4) := ⟨_, rfl⟩
  have ra4 := xZ_rng xs (i + 4)
  rw [← ea4] at ra4
  obtain ⟨a5, ea5⟩ : ∃ a : Int, a = xZ xs (i + 5) := ⟨_, rfl⟩
  have ra5 := xZ_rng xs (i + 5)
  rw [← ea5] at ra5
  obtain ⟨a6, ea6⟩ : ∃ a : Int, a = xZ xs (i + 6) := ⟨_, rfl⟩
  have ra6 := xZ_rng xs (i + 6)
  rw [← ea6] at ra6
  obtain ⟨a7, ea7⟩ : ∃ a : Int, a = xZ xs (i + 7) := ⟨_, rfl⟩
  have ra7 := xZ_rng xs (i + 7)
  rw [← ea7] at ra7
  by_cases g2 : (0 ≤ a1 ∧ a1 < k) ∧ (0 ≤ a2 ∧ a2 < k)
  · have f1 := smZ_or (V 0) a1 a2
    refine lv_aload_n hx hb dL_law_1056 rfl (lv_at hl 1 rfl) ?_
    refine lv_aload_n hx hb dL_law_1057 rfl (lv_at hl 0 rfl) ?_
    refine lv_iload hx hb dL_law_1058 (lv_at hl 4 rfl) ?_
    refine zi_const hx hb 1 dL_law_1060 ?_
    refine zi_add hx hb dL_law_1061 ?_
    refine lw_ld hx hb hX hbl hbA hS (by omega) ea1 dL_law_1062 ?_
    refine lv_aload_n hx hb dL_law_1063 rfl (lv_at hl 0 rfl) ?_
    refine lv_iload hx hb dL_law_1064 (lv_at hl 4 rfl) ?_
    refine zi_const hx hb 2 dL_law_1066 ?_
    refine zi_add hx hb dL_law_1067 ?_
    refine lw_ld hx hb hX hbl hbA hS (by omega) ea2 dL_law_1068 ?_
    refine lv_aload_n hx hb dL_law_1069 rfl (lv_at hl 3 rfl) ?_
    refine hl_S (As := [.ref o, .int (iZ a1), .int (iZ a2), .ref bo]) (rest := []) (st1 := [.int (iZ 0)]) S (hl_same_k l D o q1 q2 cI cJ tE tL (V 0) G k bo w hdl a1 a2 hN (by omega) (by omega)) tb_389 tb_390 tb_0 tb_391 hd_L_same ⟨rfl, rfl, by decide, by decide⟩ hP hK hs ht hnc hS hA hAn rfl hl.1 rfl (Nat.le_of_ble_eq_true rfl) dL_law_1070 ⟨show cells + 0 ≤ 1043 from by omega, show slots + 0 ≤ 17677 from by omega⟩ rfl (fun H locs hP hS hz hkp => ?_)
    have hMo := mX_kept hMo hkp hcr
    refine lv_istore (lv' := [(5, .int (iZ 0)), (0, .ref b), (1, .ref o), (2, .ref mo), (3, .ref bo), (4, .int (iZ i))]) hx hb dL_law_1073 hl (by decide) rfl (fun ls hl => ?_)
    refine lv_aload_n hx hb dL_law_1075 rfl (lv_at hl 3 rfl) ?_
    refine lv_aload_n hx hb dL_law_1076 rfl (lv_at hl 1 rfl) ?_
    refine lv_iload hx hb dL_law_1077 (lv_at hl 5 rfl) ?_
    refine zi_const hx hb 1 dL_law_1079 ?_
    refine zi_add hx hb dL_law_1080 ?_
    refine lw_ld hx hb hX hbl hbA hS (by omega) ea1 dL_law_1081 ?_
    refine lv_aload_n hx hb dL_law_1082 rfl (lv_at hl 1 rfl) ?_
    refine lv_iload hx hb dL_law_1083 (lv_at hl 5 rfl) ?_
    refine zi_const hx hb 2 dL_law_1085 ?_
    refine zi_add hx hb dL_law_1086 ?_
    refine lw_ld hx hb hX hbl hbA hS (by omega) ea2 dL_law_1087 ?_
    refine wm_V (As := [.int (iZ a1), .int (iZ a2)]) (rest := []) (st1 := [.int (iZ (smZ (V 0) a1 a2))]) (c1 := 0) (k1 := k) S (k_X1_same l D mo na cI cJ c0 k V a1 a2 hdm hN (by omega) (by omega) (by omega)) tb_539 tb_540 tb_541 tb_2 tb_542 hd_X1_same ⟨rfl, rfl, by decide, by decide⟩ hMo hK hS hMA hAn rfl hl.1 rfl (Nat.le_of_ble_eq_true rfl) dL_law_1088 ⟨show cells ≤ 1043 from by omega, show slots ≤ 17677 from by omega⟩ rfl (fun V1 H locs hR hMo hS hz hkp => ?_)
    have hP := lX_kept hP hkp hcr
    refine zi_top (fun v1 ev1 => ?_)
    refine lv_istore (lv' := [(6, .int (iZ v1)), (5, .int (iZ 0)), (0, .ref b), (1, .ref o), (2, .ref mo), (3, .ref bo), (4, .int (iZ i))]) hx hb dL_law_1091 hl (by decide) rfl (fun ls hl => ?_)
    refine lv_aload_n hx hb dL_law_1093 rfl (lv_at hl 4 rfl) ?_
    refine rd_V (As := []) (rest := []) (st1 := [.int (iZ 0)]) S (k_X1_thrown l D mo na cI cJ 0 k V1) tb_428 tb_429 tb_430 tb_2 tb_431 hd_X1_thrown ⟨rfl, rfl, by decide, by decide⟩ rM_bl (rM_mv hMo hK) (va_recv hK hMo (ci := 1) (q0 := 0) rfl rfl) rfl hl.1 rfl (Nat.le_of_ble_eq_true rfl) dL_law_1094 ⟨show cells ≤ 1043 from by omega, show slots ≤ 17677 from by omega⟩ rfl ?_
    refine lv_iload hx hb dL_law_1097 (lv_at hl 1 rfl) ?_
    refine zi_ceq (tgt := 1104) hx hb dL_law_1099 (by decide) (by omega) (by omega) (fun hc1099 => ?_) (fun hc1099 => ?_)
    · refine lv_iload hx hb dL_law_1104 (lv_at hl 1 rfl) ?_
      refine zi_fne (tgt := 1128) hx hb dL_law_1106 (by decide) (by omega) (fun hc1106 => ?_) (fun hc1106 => ?_)
      · exfalso
        omega
      · refine lv_aload_n hx hb dL_law_1109 rfl (lv_at hl 5 rfl) ?_
        refine zi_const hx hb 0 dL_law_1110 ?_
        refine lw_ot hx hb hK hP (a := smZ (V 0) a1 a2) rfl dL_law_1111 ?_
        refine lv_iload hx hb dL_law_1112 (lv_at hl 0 rfl) ?_
        refine zi_feq (tgt := 1121) hx hb dL_law_1114 (by decide) (by omega) (fun hc1114 => ?_) (fun hc1114 => ?_)
        · refine zl_const hx hb 0 dL_law_1121 (by decide) ?_
          refine zl_ceq (tgt := 1128) hx hb dL_law_1122 dL_law_1123 (by decide) (by omega) (by omega) (fun hc1122 => ?_) (fun hc1122 => ?_)
          · refine lv_goto (tgt := 1144) hx hb dL_law_1128 (by decide) ?_
            refine zi_inc (lv' := [(4, .int (iZ (i + 8))), (6, .int (iZ v1)), (5, .int (iZ 0)), (0, .ref b), (1, .ref o), (2, .ref mo), (3, .ref bo)]) hx hb dL_law_1144 hl (k := 6) rfl (by decide) rfl (fun ls hl => ?_)
            refine lv_goto (tgt := 23) hx hb dL_law_1147 (by decide) ?_
            have hF9 : V 0 = V1 0 := (congrFun hR 0).symm
            have hN9 : ∀ j, 0 ≤ V1 0 j ∧ V1 0 j < 32003 := by
              rw [← hF9]
              exact hN
            refine W.widen (k := cells + 1) (n := slots + 6) (by omega) (by omega) ?_
            exact kk V1 G k 0 (uZ w 0 (smZ (V 0) a1 a2)) H locs ls (by omega) hN9 hG (lX_F hP hF9) hMo hS (lv_sub hl [3, 4, 5, 6, 0] rfl)
          · refine zi_const hx hb 0 dL_law_1126 ?_
            exfalso
            omega
        · refine zl_const hx hb 1 dL_law_1117 (by decide) ?_
          refine lv_goto (tgt := 1122) hx hb dL_law_1118 (by decide) ?_
          refine zl_ceq (tgt := 1128) hx hb dL_law_1122 dL_law_1123 (by decide) (by omega) (by omega) (fun hc1122 => ?_) (fun hc1122 => ?_)
          · refine lv_goto (tgt := 1144) hx hb dL_law_1128 (by decide) ?_
            refine zi_inc (lv' := [(4, .int (iZ (i + 8))), (6, .int (iZ v1)), (5, .int (iZ 0)), (0, .ref b), (1, .ref o), (2, .ref mo), (3, .ref bo)]) hx hb dL_law_1144 hl (k := 6) rfl (by decide) rfl (fun ls hl => ?_)
            refine lv_goto (tgt := 23) hx hb dL_law_1147 (by decide) ?_
            have hF9 : V 0 = V1 0 := (congrFun hR 0).symm
            have hN9 : ∀ j, 0 ≤ V1 0 j ∧ V1 0 j < 32003 := by
              rw [← hF9]
              exact hN
            refine W.widen (k := cells + 1) (n := slots + 6) (by omega) (by omega) ?_
            exact kk V1 G k 0 (uZ w 0 (smZ (V 0) a1 a2)) H locs ls (by omega) hN9 hG (lX_F hP hF9) hMo hS (lv_sub hl [3, 4, 5, 6, 0] rfl)
          · refine zi_const hx hb 0 dL_law_1126 ?_
            exfalso
            omega
    · exfalso
      omega
  · have f1 := smZ_or (V 0) a1 a2
    refine lv_aload_n hx hb dL_law_1056 rfl (lv_at hl 1 rfl) ?_
    refine lv_aload_n hx hb dL_law_1057 rfl (lv_at hl 0 rfl) ?_
    refine lv_iload hx hb dL_law_1058 (lv_at hl 4 rfl) ?_
    refine zi_const hx hb 1 dL_law_1060 ?_
    refine zi_add hx hb dL_law_1061 ?_
    refine lw_ld hx hb hX hbl hbA hS (by omega) ea1 dL_law_1062 ?_
    refine lv_aload_n hx hb dL_law_1063 rfl (lv_at hl 0 rfl) ?_
    refine lv_iload hx hb dL_law_1064 (lv_at hl 4 rfl) ?_
    refine zi_const hx hb 2 dL_law_1066 ?_
    refine zi_add hx hb dL_law_1067 ?_
    refine lw_ld hx hb hX hbl hbA hS (by omega) ea2 dL_law_1068 ?_
    refine lv_aload_n hx hb dL_law_1069 rfl (lv_at hl 3 rfl) ?_
    refine hl_S (As := [.ref o, .int (iZ a1), .int (iZ a2), .ref bo]) (rest := []) (st1 := [.int (iZ 1)]) S (hl_same_tO l hl0 D o q1 q2 cI cJ tE tL (V 0) G k bo w hdl a1 a2 (by omega) (by omega) (by omega) (by omega)) tb_389 tb_390 tb_0 tb_391 hd_L_same ⟨rfl, rfl, by decide, by decide⟩ hP hK hs ht hnc hS hA hAn rfl hl.1 rfl (Nat.le_of_ble_eq_true rfl) dL_law_1070 ⟨show cells + 1 ≤ 1043 from by omega, show slots + 6 ≤ 17677 from by omega⟩ rfl (fun H locs hP hS hz hkp => ?_)
    have hMo := mX_kept hMo hkp hcr
    refine lv_istore (lv' := [(5, .int (iZ 1)), (0, .ref b), (1, .ref o), (2, .ref mo), (3, .ref bo), (4, .int (iZ i))]) hx hb dL_law_1073 hl (by decide) rfl (fun ls hl => ?_)
    refine lv_aload_n hx hb dL_law_1075 rfl (lv_at hl 3 rfl) ?_
    refine lv_aload_n hx hb dL_law_1076 rfl (lv_at hl 1 rfl) ?_
    refine lv_iload hx hb dL_law_1077 (lv_at hl 5 rfl) ?_
    refine zi_const hx hb 1 dL_law_1079 ?_
    refine zi_add hx hb dL_law_1080 ?_
    refine lw_ld hx hb hX hbl hbA hS (by omega) ea1 dL_law_1081 ?_
    refine lv_aload_n hx hb dL_law_1082 rfl (lv_at hl 1 rfl) ?_
    refine lv_iload hx hb dL_law_1083 (lv_at hl 5 rfl) ?_
    refine zi_const hx hb 2 dL_law_1085 ?_
    refine zi_add hx hb dL_law_1086 ?_
    refine lw_ld hx hb hX hbl hbA hS (by omega) ea2 dL_law_1087 ?_
    refine wm_V (As := [.int (iZ a1), .int (iZ a2)]) (rest := []) (st1 := [.int (iZ 0)]) (c1 := 1) (k1 := k) S (kO_X1_same l D mo na cI cJ c0 k V a1 a2 hdm (by omega) (by omega) (by omega) (by omega)) tb_539 tb_540 tb_541 tb_2 tb_542 hd_X1_same ⟨rfl, rfl, by decide, by decide⟩ hMo hK hS hMA hAn rfl hl.1 rfl (Nat.le_of_ble_eq_true rfl) dL_law_1088 ⟨show cells + 1 ≤ 1043 from by omega, show slots + 6 ≤ 17677 from by omega⟩ rfl (fun V1 H locs hR hMo hS hz hkp => ?_)
    have hP := lX_kept hP hkp hcr
    refine lv_istore (lv' := [(6, .int (iZ 0)), (5, .int (iZ 1)), (0, .ref b), (1, .ref o), (2, .ref mo), (3, .ref bo), (4, .int (iZ i))]) hx hb dL_law_1091 hl (by decide) rfl (fun ls hl => ?_)
    refine lv_aload_n hx hb dL_law_1093 rfl (lv_at hl 4 rfl) ?_
    refine rd_V (As := []) (rest := []) (st1 := [.int (iZ 1)]) S (k_X1_thrown l D mo na cI cJ 1 k V1) tb_428 tb_429 tb_430 tb_2 tb_431 hd_X1_thrown ⟨rfl, rfl, by decide, by decide⟩ rM_bl (rM_mv hMo hK) (va_recv hK hMo (ci := 1) (q0 := 0) rfl rfl) rfl hl.1 rfl (Nat.le_of_ble_eq_true rfl) dL_law_1094 ⟨show cells + 1 ≤ 1043 from by omega, show slots + 6 ≤ 17677 from by omega⟩ rfl ?_
    refine lv_iload hx hb dL_law_1097 (lv_at hl 1 rfl) ?_
    refine zi_ceq (tgt := 1104) hx hb dL_law_1099 (by decide) (by omega) (by omega) (fun hc1099 => ?_) (fun hc1099 => ?_)
    · refine lv_iload hx hb dL_law_1104 (lv_at hl 1 rfl) ?_
      refine zi_fne (tgt := 1128) hx hb dL_law_1106 (by decide) (by omega) (fun hc1106 => ?_) (fun hc1106 => ?_)
      · refine lv_goto (tgt := 1144) hx hb dL_law_1128 (by decide) ?_
        refine zi_inc (lv' := [(4, .int (iZ (i + 8))), (6, .int (iZ 0)), (5, .int (iZ 1)), (0, .ref b), (1, .ref o), (2, .ref mo), (3, .ref bo)]) hx hb dL_law_1144 hl (k := 6) rfl (by decide) rfl (fun ls hl => ?_)
        refine lv_goto (tgt := 23) hx hb dL_law_1147 (by decide) ?_
        have hF9 : V 0 = V1 0 := (congrFun hR 0).symm
        have hN9 : ∀ j, 0 ≤ V1 0 j ∧ V1 0 j < 32003 := by
          rw [← hF9]
          exact hN
        exact kk V1 G k 1 w H locs ls (by omega) hN9 hG (lX_F hP hF9) hMo hS (lv_sub hl [3, 4, 5, 6, 0] rfl)
      · exfalso
        omega
    · exfalso
      omega
set_option maxHeartbeats 4000000 in
set_option maxRecDepth 100000 in
theorem lc_count (l : Launch) (hl0 : l.stackTraces = false) {p : Program} {e : Env} {s : State} {m : MethodId} {below : List Frame} {meth : Method} {c : Code} {b L : Nat} {xs : Nat → Int32} {A : Nat → Prop} {D : va_G} {o q1 q2 : Nat} {cI cJ : ClassId} {tE tL bo mo : Nat} {na : Nat → Nat} {Q : State → Prop} (E9 : lawE p s m c b L xs A D o q1 q2 cI cJ tE tL bo mo na) {H : Heap} {locs : List Loc} {cells slots : Nat} {ls : Array Slot} (V : Nat → Nat → Int) (G : Nat → Int) (k c0 : Int) (w : Nat → Int) (i : Int) (hk : 0 ≤ k ∧ k ≤ 60) (hN : ∀ j, 0 ≤ V 0 j ∧ V 0 j < 32003) (hG : ∀ j, 0 ≤ G j ∧ G j < 32003) (hP : va_P D vwCl (lX o q1 q2 cI cJ (V 0) G k bo w) H) (hMo : va_P D vwCl (mX mo na cI cJ c0 k V) H) (hS : va_S A s.heap H locs) (hi : 0 ≤ i ∧ i + 8 ≤ L) (hcs : cells + 1 ≤ 1043 ∧ slots + 6 ≤ 17677) (hl : lv_has ls 7 [(0, .ref b), (1, .ref o), (2, .ref mo), (3, .ref bo), (4, .int (iZ i))]) (kk : ∀ (V : Nat → Nat → Int) (G : Nat → Int) (k c0 : Int) (w : Nat → Int) (H : Heap) (locs : List Loc) (ls : Array Slot), 0 ≤ k ∧ k ≤ 60 → (∀ j, 0 ≤ V 0 j ∧ V 0 j < 32003) → (∀ j, 0 ≤ G j ∧ G j < 32003) → va_P D vwCl (lX o q1 q2 cI cJ (V 0) G k bo w) H → va_P D vwCl (mX mo na cI cJ c0 k V) H → va_S A s.heap H locs → lv_has ls 7 [(0, .ref b), (1, .ref o), (2, .ref mo), (3, .ref bo), (4, .int (iZ (i + 8)))] → W p l e room_1 s m #[Value.ref b] below meth c H locs (cells + 1) (slots + 6) Q (F0 m 23 ls [])) : W p l e room_1 s m #[Value.ref b] below meth c H locs cells slots Q (F0 m 1131 ls []) := by
  obtain ⟨S, hX, hbl, hbA, hAn, hK, hs, ht, hnc, hA, hMA, hdl, hdm, hcr, hL⟩ := id E9
  obtain ⟨hx, hb, hml, hown, hT⟩ := id S
  obtain ⟨a1, ea1⟩ : ∃ a : Int, a = xZ xs (i + 1) := ⟨_, rfl⟩
  have ra1 := xZ_rng xs (i + 1)
  rw [← ea1] at ra1
  obtain ⟨a2, ea2⟩ : ∃ a : Int, a = xZ xs (i + 2) := ⟨_, rfl⟩
  have ra2 := xZ_rng xs (i + 2)
  rw [← ea2] at ra2
  obtain ⟨a3, ea3⟩ : ∃ a : Int, a = xZ xs (i + 3) := ⟨_, rfl⟩
  have ra3 := xZ_rng xs (i + 3)
  rw [← ea3] at ra3
  obtain ⟨a4, ea4⟩ : ∃ a : Int, a = xZ xs (i + 4) := ⟨_, rfl⟩
  have ra4 := xZ_rng xs (i + 4)
  rw [← ea4] at ra4
  obtain ⟨a5, ea5⟩ : ∃ a : Int, a = xZ xs (i + 5) := ⟨_, rfl⟩
  have ra5 := xZ_rng xs (i + 5)
  rw [← ea5] at ra5
  obtain ⟨a6, ea6⟩ : ∃ a : Int, a = xZ xs (i + 6) := ⟨_, rfl⟩
  have ra6 := xZ_rng xs (i + 6)
  rw [← ea6] at ra6
  obtain ⟨a7, ea7⟩ : ∃ a : Int, a = xZ xs (i + 7) := ⟨_, rfl⟩
  have ra7 := xZ_rng xs (i + 7)
  rw [← ea7] at ra7
  refine lv_aload_n hx hb dL_law_1131 rfl (lv_at hl 1 rfl) ?_
  refine rd_V (As := []) (rest := []) (st1 := [.int (iZ k)]) S (k_X0_count l D o q1 q2 cI tE tL (V 0) G k) tb_29 tb_30 tb_31 tb_1 tb_32 hd_X0_count ⟨rfl, rfl, by decide, by decide⟩ rX_bl (rX_w (lX_x hP) hK rfl hs hS) (va_recv hK (lX_x hP) (ci := 0) (q0 := 0) rfl rfl) rfl hl.1 rfl (Nat.le_of_ble_eq_true rfl) dL_law_1132 ⟨show cells ≤ 1043 from by omega, show slots ≤ 17677 from by omega⟩ rfl ?_
  refine lv_aload_n hx hb dL_law_1135 rfl (lv_at hl 2 rfl) ?_
  refine wm_V (As := []) (rest := [.int (iZ k)]) (st1 := [.int (iZ k), .int (iZ k)]) (c1 := 0) (k1 := k) S (k_X1_count l D mo na cI cJ c0 k V hdm) tb_543 tb_544 tb_545 tb_2 tb_546 hd_X1_count ⟨rfl, rfl, by decide, by decide⟩ hMo hK hS hMA hAn rfl hl.1 rfl (Nat.le_of_ble_eq_true rfl) dL_law_1136 ⟨show cells ≤ 1043 from by omega, show slots ≤ 17677 from by omega⟩ rfl (fun V1 H locs hR hMo hS hz hkp => ?_)
  have hP := lX_kept hP hkp hcr
  refine zi_ceq (tgt := 1144) hx hb dL_law_1139 (by decide) (by omega) (by omega) (fun hc1139 => ?_) (fun hc1139 => ?_)
  · refine zi_inc (lv' := [(4, .int (iZ (i + 8))), (0, .ref b), (1, .ref o), (2, .ref mo), (3, .ref bo)]) hx hb dL_law_1144 hl (k := 4) rfl (by decide) rfl (fun ls hl => ?_)
    refine lv_goto (tgt := 23) hx hb dL_law_1147 (by decide) ?_
    have hF9 : V 0 = V1 0 := (congrFun hR 0).symm
    have hN9 : ∀ j, 0 ≤ V1 0 j ∧ V1 0 j < 32003 := by
      rw [← hF9]
      exact hN
    refine W.widen (k := cells + 1) (n := slots + 6) (by omega) (by omega) ?_
    exact kk V1 G k 0 w H locs ls (by omega) hN9 hG (lX_F hP hF9) hMo hS (lv_sub hl [1, 2, 3, 4, 0] rfl)
  · refine zi_const hx hb 0 dL_law_1142 ?_
    exfalso
    omega
set_option maxHeartbeats 4000000 in
set_option maxRecDepth 100000 in
theorem lc_none (l : Launch) (hl0 : l.stackTraces = false) {p : Program} {e : Env} {s : State} {m : MethodId} {below : List Frame} {meth : Method} {c : Code} {b L : Nat} {xs : Nat → Int32} {A : Nat → Prop} {D : va_G} {o q1 q2 : Nat} {cI cJ : ClassId} {tE tL bo mo : Nat} {na : Nat → Nat} {Q : State → Prop} (E9 : lawE p s m c b L xs A D o q1 q2 cI cJ tE tL bo mo na) {H : Heap} {locs : List Loc} {cells slots : Nat} {ls : Array Slot} (V : Nat → Nat → Int) (G : Nat → Int) (k c0 : Int) (w : Nat → Int) (i : Int) (hk : 0 ≤ k ∧ k ≤ 60) (hN : ∀ j, 0 ≤ V 0 j ∧ V 0 j < 32003) (hG : ∀ j, 0 ≤ G j ∧ G j < 32003) (hP : va_P D vwCl (lX o q1 q2 cI cJ (V 0) G k bo w) H) (hMo : va_P D vwCl (mX mo na cI cJ c0 k V) H) (hS : va_S A s.heap H locs) (hi : 0 ≤ i ∧ i + 8 ≤ L) (hcs : cells + 1 ≤ 1043 ∧ slots + 6 ≤ 17677) (hl : lv_has ls 7 [(0, .ref b), (1, .ref o), (2, .ref mo), (3, .ref bo), (4, .int (iZ i))]) (kk : ∀ (V : Nat → Nat → Int) (G : Nat → Int) (k c0 : Int) (w : Nat → Int) (H : Heap) (locs : List Loc) (ls : Array Slot), 0 ≤ k ∧ k ≤ 60 → (∀ j, 0 ≤ V 0 j ∧ V 0 j < 32003) → (∀ j, 0 ≤ G j ∧ G j < 32003) → va_P D vwCl (lX o q1 q2 cI cJ (V 0) G k bo w) H → va_P D vwCl (mX mo na cI cJ c0 k V) H → va_S A s.heap H locs → lv_has ls 7 [(0, .ref b), (1, .ref o), (2, .ref mo), (3, .ref bo), (4, .int (iZ (i + 8)))] → W p l e room_1 s m #[Value.ref b] below meth c H locs (cells + 1) (slots + 6) Q (F0 m 23 ls [])) : W p l e room_1 s m #[Value.ref b] below meth c H locs cells slots Q (F0 m 1144 ls []) := by
  obtain ⟨S, hX, hbl, hbA, hAn, hK, hs, ht, hnc, hA, hMA, hdl, hdm, hcr, hL⟩ := id E9
  obtain ⟨hx, hb, hml, hown, hT⟩ := id S
  obtain ⟨a1, ea1⟩ : ∃ a : Int, a = xZ xs (i + 1) := ⟨_, rfl⟩
  have ra1 := xZ_rng xs (i + 1)
  rw [← ea1] at ra1
  obtain ⟨a2, ea2⟩ : ∃ a : Int, a = xZ xs (i + 2) := ⟨_, rfl⟩
  have ra2 := xZ_rng xs (i + 2)
  rw [← ea2] at ra2
  obtain ⟨a3, ea3⟩ : ∃ a : Int, a = xZ xs (i + 3) := ⟨_, rfl⟩
  have ra3 := xZ_rng xs (i + 3)
  rw [← ea3] at ra3
  obtain ⟨a4, ea4⟩ : ∃ a : Int, a = xZ xs (i + 4) := ⟨_, rfl⟩
  have ra4 := xZ_rng xs (i + 4)
  rw [← ea4] at ra4
  obtain ⟨a5, ea5⟩ : ∃ a : Int, a = xZ xs (i + 5) := ⟨_, rfl⟩
  have ra5 := xZ_rng xs (i + 5)
  rw [← ea5] at ra5
  obtain ⟨a6, ea6⟩ : ∃ a : Int, a = xZ xs (i + 6) := ⟨_, rfl⟩
  have ra6 := xZ_rng xs (i + 6)
  rw [← ea6] at ra6
  obtain ⟨a7, ea7⟩ : ∃ a : Int, a = xZ xs (i + 7) := ⟨_, rfl⟩
  have ra7 := xZ_rng xs (i + 7)
  rw [← ea7] at ra7
  refine zi_inc (lv' := [(4, .int (iZ (i + 8))), (0, .ref b), (1, .ref o), (2, .ref mo), (3, .ref bo)]) hx hb dL_law_1144 hl (k := 4) rfl (by decide) rfl (fun ls hl => ?_)
  refine lv_goto (tgt := 23) hx hb dL_law_1147 (by decide) ?_
  have hF9 : V 0 = V 0 := rfl
  have hN9 : ∀ j, 0 ≤ V 0 j ∧ V 0 j < 32003 := by
    rw [← hF9]
    exact hN
  refine W.widen (k := cells + 1) (n := slots + 6) (by omega) (by omega) ?_
  exact kk V G k c0 w H locs ls (by omega) hN9 hG (lX_F hP hF9) hMo hS (lv_sub hl [1, 2, 3, 4, 0] rfl)
