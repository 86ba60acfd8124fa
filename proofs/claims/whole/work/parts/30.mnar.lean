/-- the wide rows after the two that hold E to the 0 are one -/
def nwZ (M : Nat → Int) (j : Nat) : Int := if j < 19 then (M j + M (209 + j)) % 32003 else if 209 ≤ j ∧ j < 228 then 0 else M j
theorem nwZ_rng {M : Nat → Int} (h : ∀ j : Nat, j < 304 → 0 ≤ M j ∧ M j < 32003) {j : Nat} (hj : j < 304) : 0 ≤ nwZ M j ∧ nwZ M j < 32003 := by
  unfold nwZ
  split
  · omega
  · split
    · omega
    · exact h j hj
theorem nw_step {g M : Nat → Int} {i x : Int} (hi : 0 ≤ i ∧ i < 19) (h : ∀ j : Nat, j < 304 → g j = if (j : Int) < i ∨ (209 ≤ (j : Int) ∧ (j : Int) < 209 + i) then nwZ M j else M j) (hx : x = (M i.toNat + M (209 + i).toNat) % 32003) : ∀ j : Nat, j < 304 → uZ (uZ g i.toNat x) (209 + i).toNat 0 j = if (j : Int) < i + 1 ∨ (209 ≤ (j : Int) ∧ (j : Int) < 209 + (i + 1)) then nwZ M j else M j := by
  intro j hj
  unfold uZ
  by_cases h1 : j = (209 + i).toNat
  · rw [if_pos h1, if_pos (by omega)]
    unfold nwZ
    rw [if_neg (by omega), if_pos (by omega)]
  · rw [if_neg h1]
    by_cases h2 : j = i.toNat
    · rw [if_pos h2, if_pos (by omega), hx]
      unfold nwZ
      rw [if_pos (by omega), h2, show 209 + i.toNat = (209 + i).toNat by omega]
    · rw [if_neg h2, h j hj]
      by_cases h3 : (j : Int) < i ∨ (209 ≤ (j : Int) ∧ (j : Int) < 209 + i)
      · rw [if_pos h3, if_pos (by omega)]
      · rw [if_neg h3, if_neg (by omega)]
theorem nw_all {g M : Nat → Int} {i : Int} (hi : 19 ≤ i ∧ i ≤ 19) (h : ∀ j : Nat, j < 304 → g j = if (j : Int) < i ∨ (209 ≤ (j : Int) ∧ (j : Int) < 209 + i) then nwZ M j else M j) : ∀ j : Nat, j < 304 → g j = nwZ M j := by
  intro j hj
  rw [h j hj]
  split
  · rfl
  · unfold nwZ
    rw [if_neg (by omega), if_neg (by omega)]
def okJ (M : Nat → Int) (j : Nat) : Prop := nwZ M j ≠ 0 → ((j / 19 < 4 ∨ (8 < j / 19 ∧ j / 19 < 14)) ∧ 5 ≤ j % 19 ∧ j % 19 ≤ 13)
def okN (M : Nat → Int) : Prop := ∀ j : Nat, j < 304 → okJ M j
theorem ok_ext {M : Nat → Int} {r n : Int} (hr : 0 ≤ r) (hn : -9 ≤ n ∧ n ≤ 9) (h : ∀ j : Nat, (j : Int) < r * 19 + n + 9 → okJ M j) (h1 : nwZ M (19 * r + n + 9).toNat = 0 ∨ ((r < 4 ∨ (8 < r ∧ r < 14)) ∧ -4 ≤ n ∧ n ≤ 4)) : ∀ j : Nat, (j : Int) < r * 19 + (n + 1) + 9 → okJ M j := by
  intro j hj
  by_cases h2 : (j : Int) < r * 19 + n + 9
  · exact h j h2
  · have h3 : j = (19 * r + n + 9).toNat := by omega
    intro h4
    rw [← h3] at h1
    rcases h1 with h1 | h1
    · exact absurd h1 h4
    · omega
theorem ok_not {M : Nat → Int} {r n : Int} (hr : 0 ≤ r ∧ r < 16) (hn : -9 ≤ n ∧ n ≤ 9) (h : okN M) (h0 : nwZ M (19 * r + n + 9).toNat ≠ 0) (h1 : ¬ ((r < 4 ∨ (8 < r ∧ r < 14)) ∧ -4 ≤ n ∧ n ≤ 4)) : False := by
  have := h (19 * r + n + 9).toNat (by omega) h0
  omega
theorem ro_rng (z : Int) (hz : 0 ≤ z ∧ z < 8) : 0 ≤ roZ z ∧ roZ z ≤ 13 := by
  obtain ⟨k, rfl⟩ : ∃ k : Nat, z = k := ⟨z.toNat, by omega⟩
  exact (show ∀ k : Nat, k < 8 → 0 ≤ roZ k ∧ roZ k ≤ 13 by decide) k (by omega)
set_option maxHeartbeats 4000000 in
set_option maxRecDepth 100000 in
theorem k_X1_narrow (l : Launch) (D : va_G) (mo : Nat) (na : Nat → Nat) (cI cJ : ClassId) (c0 k : Int) (V : Nat → Nat → Int)  (hd : dM mo na) (hk : 0 ≤ k ∧ k < 60) (hW : ∀ j : Nat, j < 304 → 0 ≤ V 4 j ∧ V 4 j < 32003) (hok : okN (V 4)) : wm_M l yX1_narrow cX1_narrow 4 (some .int) ({ frames := 2, cells := 0, slots := 0, locals := 40 }) [] D mo na cI cJ c0 k V (some (.int (iZ k))) 0 (k + 1) (fun Z => (∀ j : Nat, j < 72 → Z 0 ((k * 72).toNat + j) = nwZ (V 4) (19 * roZ (jC j) + jN j + 9).toNat) ∧ ∀ j : Nat, (j : Int) < k * 72 ∨ k * 72 + 72 ≤ (j : Int) → Z 0 j = V 0 j) := by
  refine wm_of (by decide) rfl (Nat.le_of_ble_eq_true rfl) ?_
  intro p e s m below meth c A hAe S hr hlk hP hK hA hAn hS ls hl
  obtain ⟨hx, hb, hml, hown, hT⟩ := id S
  have hl : lv_has ls 4 [(0, .ref mo)] := hl
  refine zi_const hx hb 0 dX1_narrow_0 ?_
  refine lv_istore_n (lv' := [(1, .int (iZ 0)), (0, .ref mo)]) hx hb dX1_narrow_1 rfl hl (by decide) rfl (fun ls hl => ?_)
  refine lp_goM (nL := 4) (α := (Nat → Nat → Int) × Int) (fun z => [(0, .ref mo), (1, .int (iZ z.2))]) (fun _ => c0) (fun _ => k) (fun z => z.1) (fun m2 z => 0 ≤ z.2 ∧ z.2 ≤ 19 ∧ z.2 + (m2 : Int) = 19 ∧ (∀ j : Nat, j < 304 → z.1 4 j = if (j : Int) < z.2 ∨ (209 ≤ (j : Int) ∧ (j : Int) < 209 + z.2) then nwZ (V 4) j else V 4 j) ∧ ∀ b, b ≠ 4 → z.1 b = V b) ?_ 19 (V, (0 : Int)) (by (try dsimp only); exact ⟨by omega, by omega, by omega, fun j hj => (by rw [if_neg (by omega)]), fun b _ => rfl⟩) _ _ hP hS ls (lv_sub hl [1, 0] rfl)
  intro m2 z1 hI2 ih2 H locs hP hS ls hl
  obtain ⟨Y, i⟩ := z1
  have hl : lv_has ls 4 [(0, .ref mo), (1, .int (iZ i))] := hl
  have hI2 : 0 ≤ i ∧ i ≤ 19 ∧ i + (m2 : Int) = 19 ∧ (∀ j : Nat, j < 304 → Y 4 j = if (j : Int) < i ∨ (209 ≤ (j : Int) ∧ (j : Int) < 209 + i) then nwZ (V 4) j else V 4 j) ∧ ∀ b, b ≠ 4 → Y b = V b := hI2
  have hP : va_P D vwCl (mX mo na cI cJ c0 k Y) H := hP
  refine lv_iload_n hx hb dX1_narrow_2 rfl (lv_at hl 1 rfl) ?_
  refine zi_bi hx hb 19 dX1_narrow_3 (by decide) ?_
  refine zi_cge (tgt := 52) hx hb dX1_narrow_5 (by decide) (by omega) (by omega) (fun hc5 => ?_) (fun hc5 => ?_)
  · refine zi_const hx hb 0 dX1_narrow_52 ?_
    refine lv_istore_n (lv' := [(1, .int (iZ 0)), (0, .ref mo)]) hx hb dX1_narrow_53 rfl hl (by decide) rfl (fun ls hl => ?_)
    have hna := nw_all (by omega) hI2.2.2.2.1
    refine lp_go (nL := 4) (α := Int) (fun z => [(0, .ref mo), (1, .int (iZ z))]) (fun m54 z => 0 ≤ z ∧ z + (m54 : Int) = 16 ∧ ∀ j : Nat, (j : Int) < z * 19 → okJ (V 4) j) ?_ 16 ((0 : Int)) (by (try dsimp only); exact ⟨by omega, by omega, fun j hj => by omega⟩) ls (lv_sub hl [1, 0] rfl)
    intro m54 z2 hI54 ih54 ls hl
    obtain ⟨r, rfl⟩ : ∃ y : Int, y = z2 := ⟨_, rfl⟩
    have hl : lv_has ls 4 [(0, .ref mo), (1, .int (iZ r))] := hl
    have hI54 : 0 ≤ r ∧ r + (m54 : Int) = 16 ∧ ∀ j : Nat, (j : Int) < r * 19 → okJ (V 4) j := hI54
    refine lv_iload_n hx hb dX1_narrow_54 rfl (lv_at hl 1 rfl) ?_
    refine zi_bi hx hb 16 dX1_narrow_55 (by decide) ?_
    refine zi_cge (tgt := 147) hx hb dX1_narrow_57 (by decide) (by omega) (by omega) (fun hc57 => ?_) (fun hc57 => ?_)
    · refine zi_const hx hb 0 dX1_narrow_147 ?_
      refine lv_istore_n (lv' := [(1, .int (iZ 0)), (0, .ref mo)]) hx hb dX1_narrow_148 rfl hl (by decide) rfl (fun ls hl => ?_)
      refine lp_goM (nL := 4) (α := (Nat → Nat → Int) × Int) (fun z => [(0, .ref mo), (1, .int (iZ z.2))]) (fun _ => c0) (fun _ => k) (fun z => z.1) (fun m149 z => 0 ≤ z.2 ∧ z.2 + (m149 : Int) = 8 ∧ (∀ j : Nat, (j : Int) < z.2 * 9 → z.1 1 j = nwZ (V 4) (19 * roZ (jC j) + jN j + 9).toNat) ∧ z.1 4 = Y 4 ∧ z.1 0 = V 0) ?_ 8 (Y, (0 : Int)) (by (try dsimp only); exact ⟨by omega, by omega, fun j hj => by omega, rfl, hI2.2.2.2.2 0 (by decide)⟩) _ _ hP hS ls (lv_sub hl [1, 0] rfl)
      intro m149 z3 hI149 ih149 H locs hP hS ls hl
      obtain ⟨T, c1⟩ := z3
      have hl : lv_has ls 4 [(0, .ref mo), (1, .int (iZ c1))] := hl
      have hI149 : 0 ≤ c1 ∧ c1 + (m149 : Int) = 8 ∧ (∀ j : Nat, (j : Int) < c1 * 9 → T 1 j = nwZ (V 4) (19 * roZ (jC j) + jN j + 9).toNat) ∧ T 4 = Y 4 ∧ T 0 = V 0 := hI149
      have hP : va_P D vwCl (mX mo na cI cJ c0 k T) H := hP
      refine lv_iload_n hx hb dX1_narrow_149 rfl (lv_at hl 1 rfl) ?_
      refine zi_bi hx hb 8 dX1_narrow_150 (by decide) ?_
      refine zi_cge (tgt := 202) hx hb dX1_narrow_152 (by decide) (by omega) (by omega) (fun hc152 => ?_) (fun hc152 => ?_)
      · refine lv_aload_n hx hb dX1_narrow_202 rfl (lv_at hl 0 rfl) ?_
        refine wm_V (As := []) (rest := []) (st1 := [.int (iZ k)]) (c1 := 0) (k1 := k + 1) S (k_X1_keep l D mo na cI cJ c0 k T  hd (by omega)) tb_449 tb_451 ts_X1_keep tb_2 tb_452 hd_X1_keep ⟨rfl, rfl, by decide, by decide⟩ hP hK hS hA hAn rfl hl.1 rfl (Nat.le_of_ble_eq_true rfl) dX1_narrow_203 ⟨Nat.zero_le _, Nat.zero_le _⟩ rfl (fun V4 H locs hRV4 hP hS _ _ => ?_)
        exact wm_iret hx hb hr hlk hP (⟨fun j hj => by rw [hRV4.1 j hj]; exact hI149.2.2.1 j (by omega), fun j hj => by rw [hRV4.2 j hj]; exact congrFun hI149.2.2.2.2 j⟩) rfl rfl hS (congrArg (fun z => some (Value.int (iZ z))) (show (k : Int) = k from rfl)) dX1_narrow_206
      · refine zi_bi hx hb (-4) dX1_narrow_155 (by decide) ?_
        refine lv_istore_n (lv' := [(2, .int (iZ (-4))), (0, .ref mo), (1, .int (iZ c1))]) hx hb dX1_narrow_157 rfl hl (by decide) rfl (fun ls hl => ?_)
        refine lp_goM (nL := 4) (α := (Nat → Nat → Int) × Int) (fun z => [(0, .ref mo), (1, .int (iZ c1)), (2, .int (iZ z.2))]) (fun _ => c0) (fun _ => k) (fun z => z.1) (fun m158 z => -4 ≤ z.2 ∧ z.2 + (m158 : Int) = 5 ∧ (∀ j : Nat, (j : Int) < c1 * 9 + z.2 + 4 → z.1 1 j = nwZ (V 4) (19 * roZ (jC j) + jN j + 9).toNat) ∧ z.1 4 = Y 4 ∧ z.1 0 = V 0) ?_ 9 (T, ((-4) : Int)) (by (try dsimp only); exact ⟨by omega, by omega, fun j hj => hI149.2.2.1 j (by omega), hI149.2.2.2⟩) _ _ hP hS ls (lv_sub hl [1, 2, 0] rfl)
        intro m158 z5 hI158 ih158 H locs hP hS ls hl
        obtain ⟨U, n⟩ := z5
        have hl : lv_has ls 4 [(0, .ref mo), (1, .int (iZ c1)), (2, .int (iZ n))] := hl
        have hI158 : -4 ≤ n ∧ n + (m158 : Int) = 5 ∧ (∀ j : Nat, (j : Int) < c1 * 9 + n + 4 → U 1 j = nwZ (V 4) (19 * roZ (jC j) + jN j + 9).toNat) ∧ U 4 = Y 4 ∧ U 0 = V 0 := hI158
        have hP : va_P D vwCl (mX mo na cI cJ c0 k U) H := hP
        refine lv_iload_n hx hb dX1_narrow_158 rfl (lv_at hl 2 rfl) ?_
        refine zi_const hx hb 4 dX1_narrow_159 ?_
        refine zi_cgt (tgt := 196) hx hb dX1_narrow_160 (by decide) (by omega) (by omega) (fun hc160 => ?_) (fun hc160 => ?_)
        · refine zi_inc (lv' := [(1, .int (iZ (c1 + 1))), (0, .ref mo), (2, .int (iZ n))]) hx hb dX1_narrow_196 hl (k := 1) rfl (by decide) rfl (fun ls hl => ?_)
          refine lv_goto (tgt := 149) hx hb dX1_narrow_199 (by decide) ?_
          exact ih149 (m149 - 1) (U, c1 + 1) (by omega) (by (try dsimp only); exact ⟨by omega, by omega, fun j hj => hI158.2.2.1 j (by omega), hI158.2.2.2⟩) _ _ hP hS ls (lv_sub hl [1, 0] rfl)
        · refine lv_aload_n hx hb dX1_narrow_163 rfl (lv_at hl 0 rfl) ?_
          refine va_get (D := D) (ci := 1) (C := RX1) (T := TX1) (N := 8) hx hb hT inX1 hown hK hP 0 rfl rfl 3 (by decide) (hT _ tb_405) (fun _ h9 => h9) rfl dX1_narrow_164 ?_
          refine lv_iload_n hx hb dX1_narrow_167 rfl (lv_at hl 1 rfl) ?_
          refine lv_iload_n hx hb dX1_narrow_168 rfl (lv_at hl 2 rfl) ?_
          refine rd_S (As := [.int (iZ c1), .int (iZ n)]) (rest := [.ref (na 1)]) (st1 := [.int (iZ (c1 * 9 + n + 4)), .ref (na 1)]) S (k_X1_place l c1 n) tb_442 tb_443 tb_2 tb_444 hd_X1_place ⟨rfl, rfl, by decide, by decide⟩ bl_T (fun _ _ _ => trivial) rfl hl.1 rfl (Nat.le_of_ble_eq_true rfl) dX1_narrow_169 ⟨Nat.zero_le _, Nat.zero_le _⟩ rfl ?_
          refine lv_aload_n hx hb dX1_narrow_172 rfl (lv_at hl 0 rfl) ?_
          refine va_get (D := D) (ci := 1) (C := RX1) (T := TX1) (N := 8) hx hb hT inX1 hown hK hP 0 rfl rfl 6 (by decide) (hT _ tb_408) (fun _ h9 => h9) rfl dX1_narrow_173 ?_
          refine zi_bi hx hb 19 dX1_narrow_176 (by decide) ?_
          refine lv_iload_n hx hb dX1_narrow_178 rfl (lv_at hl 1 rfl) ?_
          refine rd_S (As := [.int (iZ c1)]) (rest := [.int (iZ 19), .ref (na 4), .int (iZ (c1 * 9 + n + 4)), .ref (na 1)]) (st1 := [.int (iZ (roZ c1)), .int (iZ 19), .ref (na 4), .int (iZ (c1 * 9 + n + 4)), .ref (na 1)]) S (k_X1_rowOf l c1 (by omega)) tb_498 tb_499 tb_2 tb_500 hd_X1_rowOf ⟨rfl, rfl, by decide, by decide⟩ bl_T (fun _ _ _ => trivial) rfl hl.1 rfl (Nat.le_of_ble_eq_true rfl) dX1_narrow_179 ⟨Nat.zero_le _, Nat.zero_le _⟩ rfl ?_
          have hro := ro_rng c1 (by omega)
          refine zi_mul hx hb dX1_narrow_182 ?_
          refine lv_iload_n hx hb dX1_narrow_183 rfl (lv_at hl 2 rfl) ?_
          refine zi_add hx hb dX1_narrow_184 ?_
          refine zi_bi hx hb 9 dX1_narrow_185 (by decide) ?_
          refine zi_add hx hb dX1_narrow_187 ?_
          refine va_lald hx hb hK hP 5 1 rfl rfl (iZ_in (by omega) (by omega) (by decide)) dX1_narrow_188 ?_
          refine zl_as (a := U 4 ((((19 * (roZ c1)) + n) + 9).toNat)) (by rw [iZ_cl (by omega) (by omega)]) ?_
          have hxx : (U 4 (((19 * (roZ c1)) + n) + 9).toNat : Int) = nwZ (V 4) (19 * roZ (jC (c1 * 9 + n + 4).toNat) + jN (c1 * 9 + n + 4).toNat + 9).toNat := by
            rw [hI158.2.2.2.1, jC_at (by omega) (by omega), jN_at (by omega) (by omega)]
            exact hna _ (by omega)
          refine mm_l hx hb hK hP hd hA hS 1 72 rfl (fun g => rfl) (by omega) dX1_narrow_189 (fun H locs hP hS => ?_)
          obtain ⟨V6, eV6⟩ : ∃ Z : Nat → Nat → Int, Z = sV U 1 (uZ (U 1) (c1 * 9 + n + 4).toNat (U 4 (((19 * (roZ c1)) + n) + 9).toNat)) := ⟨_, rfl⟩
          rw [← eV6] at hP
          refine zi_inc (lv' := [(2, .int (iZ (n + 1))), (0, .ref mo), (1, .int (iZ c1))]) hx hb dX1_narrow_190 hl (k := 2) rfl (by decide) rfl (fun ls hl => ?_)
          refine lv_goto (tgt := 158) hx hb dX1_narrow_193 (by decide) ?_
          exact ih158 (m158 - 1) (V6, n + 1) (by omega) (by (try dsimp only); exact ⟨by omega, by omega, fun j hj => (by rw [eV6, sV_a]; exact st_lt (P := fun j => nwZ (V 4) (19 * roZ (jC j) + jN j + 9).toNat) hI158.2.2.1 (by omega) hxx j (by omega)), by rw [eV6, sV_b (by decide)]; exact hI158.2.2.2.1, by rw [eV6, sV_b (by decide)]; exact hI158.2.2.2.2⟩) _ _ hP hS ls (lv_sub hl [1, 2, 0] rfl)
    · refine lv_iload_n hx hb dX1_narrow_60 rfl (lv_at hl 1 rfl) ?_
      refine zi_const hx hb 4 dX1_narrow_61 ?_
      refine zi_clt (tgt := 77) hx hb dX1_narrow_62 (by decide) (by omega) (by omega) (fun hc62 => ?_) (fun hc62 => ?_)
      · refine zi_const hx hb 1 dX1_narrow_77 ?_
        refine lv_goto (tgt := 82) hx hb dX1_narrow_78 (by decide) ?_
        refine lv_istore_n (lv' := [(2, .int (iZ 1)), (0, .ref mo), (1, .int (iZ r))]) hx hb dX1_narrow_82 rfl hl (by decide) rfl (fun ls hl => ?_)
        refine zi_bi hx hb (-9) dX1_narrow_83 (by decide) ?_
        refine lv_istore_n (lv' := [(3, .int (iZ (-9))), (2, .int (iZ 1)), (0, .ref mo), (1, .int (iZ r))]) hx hb dX1_narrow_85 rfl hl (by decide) rfl (fun ls hl => ?_)
        refine lp_go (nL := 4) (α := Int) (fun z => [(0, .ref mo), (1, .int (iZ r)), (2, .int (iZ 1)), (3, .int (iZ z))]) (fun m86 z => -9 ≤ z ∧ z + (m86 : Int) = 10 ∧ ∀ j : Nat, (j : Int) < r * 19 + z + 9 → okJ (V 4) j) ?_ 19 (((-9) : Int)) (by (try dsimp only); exact ⟨by omega, by omega, fun j hj => hI54.2.2 j (by omega)⟩) ls (lv_sub hl [2, 3, 1, 0] rfl)
        intro m86 z7 hI86 ih86 ls hl
        obtain ⟨n, rfl⟩ : ∃ y : Int, y = z7 := ⟨_, rfl⟩
        have hl : lv_has ls 4 [(0, .ref mo), (1, .int (iZ r)), (2, .int (iZ 1)), (3, .int (iZ n))] := hl
        have hI86 : -9 ≤ n ∧ n + (m86 : Int) = 10 ∧ ∀ j : Nat, (j : Int) < r * 19 + n + 9 → okJ (V 4) j := hI86
        refine lv_iload_n hx hb dX1_narrow_86 rfl (lv_at hl 3 rfl) ?_
        refine zi_bi hx hb 10 dX1_narrow_87 (by decide) ?_
        refine zi_cge (tgt := 141) hx hb dX1_narrow_89 (by decide) (by omega) (by omega) (fun hc89 => ?_) (fun hc89 => ?_)
        · refine zi_inc (lv' := [(1, .int (iZ (r + 1))), (0, .ref mo), (2, .int (iZ 1)), (3, .int (iZ n))]) hx hb dX1_narrow_141 hl (k := 1) rfl (by decide) rfl (fun ls hl => ?_)
          refine lv_goto (tgt := 54) hx hb dX1_narrow_144 (by decide) ?_
          exact ih54 (m54 - 1) (r + 1) (by omega) (by (try dsimp only); exact ⟨by omega, by omega, fun j hj => hI86.2.2 j (by omega)⟩) ls (lv_sub hl [1, 0] rfl)
        · have hyj : Y 4 (19 * r + n + 9).toNat = nwZ (V 4) (19 * r + n + 9).toNat := hna _ (by omega)
          have hyr := nwZ_rng hW (j := (19 * r + n + 9).toNat) (by omega)
          rw [← hyj] at hyr
          refine lv_aload_n hx hb dX1_narrow_92 rfl (lv_at hl 0 rfl) ?_
          refine va_get (D := D) (ci := 1) (C := RX1) (T := TX1) (N := 8) hx hb hT inX1 hown hK hP 0 rfl rfl 6 (by decide) (hT _ tb_408) (fun _ h9 => h9) rfl dX1_narrow_93 ?_
          refine zi_bi hx hb 19 dX1_narrow_96 (by decide) ?_
          refine lv_iload_n hx hb dX1_narrow_98 rfl (lv_at hl 1 rfl) ?_
          refine zi_mul hx hb dX1_narrow_99 ?_
          refine lv_iload_n hx hb dX1_narrow_100 rfl (lv_at hl 3 rfl) ?_
          refine zi_add hx hb dX1_narrow_101 ?_
          refine zi_bi hx hb 9 dX1_narrow_102 (by decide) ?_
          refine zi_add hx hb dX1_narrow_104 ?_
          refine va_lald hx hb hK hP 5 1 rfl rfl (iZ_in (by omega) (by omega) (by decide)) dX1_narrow_105 ?_
          refine zl_as (a := Y 4 ((((19 * r) + n) + 9).toNat)) (by rw [iZ_cl (by omega) (by omega)]) ?_
          refine zl_const hx hb 0 dX1_narrow_106 (by decide) ?_
          refine zl_ceq (tgt := 135) hx hb dX1_narrow_107 dX1_narrow_108 (by decide) (by omega) (by omega) (fun hc107 => ?_) (fun hc107 => ?_)
          · refine zi_inc (lv' := [(3, .int (iZ (n + 1))), (0, .ref mo), (1, .int (iZ r)), (2, .int (iZ 1))]) hx hb dX1_narrow_135 hl (k := 3) rfl (by decide) rfl (fun ls hl => ?_)
            refine lv_goto (tgt := 86) hx hb dX1_narrow_138 (by decide) ?_
            exact ih86 (m86 - 1) (n + 1) (by omega) (by (try dsimp only); exact ⟨by omega, by omega, ok_ext (by omega) (by omega) hI86.2.2 (by rw [← hyj]; omega)⟩) ls (lv_sub hl [1, 2, 3, 0] rfl)
          · refine lv_iload_n hx hb dX1_narrow_111 rfl (lv_at hl 2 rfl) ?_
            refine zi_feq (tgt := 129) hx hb dX1_narrow_112 (by decide) (by omega) (fun hc112 => ?_) (fun hc112 => ?_)
            · exfalso
              omega
            · refine lv_iload_n hx hb dX1_narrow_115 rfl (lv_at hl 3 rfl) ?_
              refine zi_i2l hx hb dX1_narrow_116 (by omega) ?_
              refine zl_ldc hx hb (-4) hown (hT _ tb_440) (by decide) dX1_narrow_117 ?_
              refine zl_ldc hx hb 4 hown (hT _ tb_441) (by decide) dX1_narrow_120 ?_
              refine rd_S (As := [.long (lZ n), .long (lZ (-4)), .long (lZ 4)]) (rest := []) (st1 := [.int (iZ (inZ n (-4) 4))]) S (k_X1_in l n (-4) 4 (by omega) (by omega) (by omega)) tb_437 tb_438 tb_2 tb_439 hd_X1_in ⟨rfl, rfl, by decide, by decide⟩ bl_T (fun _ _ _ => trivial) rfl hl.1 rfl (Nat.le_of_ble_eq_true rfl) dX1_narrow_123 ⟨Nat.zero_le _, Nat.zero_le _⟩ rfl ?_
              have hi126 := inZ_or n (-4) 4
              refine zi_fne (tgt := 135) hx hb dX1_narrow_126 (by decide) (by omega) (fun hc126 => ?_) (fun hc126 => ?_)
              · refine zi_inc (lv' := [(3, .int (iZ (n + 1))), (0, .ref mo), (1, .int (iZ r)), (2, .int (iZ 1))]) hx hb dX1_narrow_135 hl (k := 3) rfl (by decide) rfl (fun ls hl => ?_)
                refine lv_goto (tgt := 86) hx hb dX1_narrow_138 (by decide) ?_
                exact ih86 (m86 - 1) (n + 1) (by omega) (by (try dsimp only); exact ⟨by omega, by omega, ok_ext (by omega) (by omega) hI86.2.2 (by rw [← hyj]; omega)⟩) ls (lv_sub hl [1, 2, 3, 0] rfl)
              · exact (ok_not (r := r) (n := n) (by omega) (by omega) hok (by rw [← hyj]; omega) (by omega)).elim
      · refine lv_iload_n hx hb dX1_narrow_65 rfl (lv_at hl 1 rfl) ?_
        refine zi_bi hx hb 8 dX1_narrow_66 (by decide) ?_
        refine zi_cle (tgt := 81) hx hb dX1_narrow_68 (by decide) (by omega) (by omega) (fun hc68 => ?_) (fun hc68 => ?_)
        · refine zi_const hx hb 0 dX1_narrow_81 ?_
          refine lv_istore_n (lv' := [(2, .int (iZ 0)), (0, .ref mo), (1, .int (iZ r))]) hx hb dX1_narrow_82 rfl hl (by decide) rfl (fun ls hl => ?_)
          refine zi_bi hx hb (-9) dX1_narrow_83 (by decide) ?_
          refine lv_istore_n (lv' := [(3, .int (iZ (-9))), (2, .int (iZ 0)), (0, .ref mo), (1, .int (iZ r))]) hx hb dX1_narrow_85 rfl hl (by decide) rfl (fun ls hl => ?_)
          refine lp_go (nL := 4) (α := Int) (fun z => [(0, .ref mo), (1, .int (iZ r)), (2, .int (iZ 0)), (3, .int (iZ z))]) (fun m86 z => -9 ≤ z ∧ z + (m86 : Int) = 10 ∧ ∀ j : Nat, (j : Int) < r * 19 + z + 9 → okJ (V 4) j) ?_ 19 (((-9) : Int)) (by (try dsimp only); exact ⟨by omega, by omega, fun j hj => hI54.2.2 j (by omega)⟩) ls (lv_sub hl [2, 3, 1, 0] rfl)
          intro m86 z8 hI86 ih86 ls hl
          obtain ⟨n, rfl⟩ : ∃ y : Int, y = z8 := ⟨_, rfl⟩
          have hl : lv_has ls 4 [(0, .ref mo), (1, .int (iZ r)), (2, .int (iZ 0)), (3, .int (iZ n))] := hl
          have hI86 : -9 ≤ n ∧ n + (m86 : Int) = 10 ∧ ∀ j : Nat, (j : Int) < r * 19 + n + 9 → okJ (V 4) j := hI86
          refine lv_iload_n hx hb dX1_narrow_86 rfl (lv_at hl 3 rfl) ?_
          refine zi_bi hx hb 10 dX1_narrow_87 (by decide) ?_
          refine zi_cge (tgt := 141) hx hb dX1_narrow_89 (by decide) (by omega) (by omega) (fun hc89 => ?_) (fun hc89 => ?_)
          · refine zi_inc (lv' := [(1, .int (iZ (r + 1))), (0, .ref mo), (2, .int (iZ 0)), (3, .int (iZ n))]) hx hb dX1_narrow_141 hl (k := 1) rfl (by decide) rfl (fun ls hl => ?_)
            refine lv_goto (tgt := 54) hx hb dX1_narrow_144 (by decide) ?_
            exact ih54 (m54 - 1) (r + 1) (by omega) (by (try dsimp only); exact ⟨by omega, by omega, fun j hj => hI86.2.2 j (by omega)⟩) ls (lv_sub hl [1, 0] rfl)
          · have hyj : Y 4 (19 * r + n + 9).toNat = nwZ (V 4) (19 * r + n + 9).toNat := hna _ (by omega)
            have hyr := nwZ_rng hW (j := (19 * r + n + 9).toNat) (by omega)
            rw [← hyj] at hyr
            refine lv_aload_n hx hb dX1_narrow_92 rfl (lv_at hl 0 rfl) ?_
            refine va_get (D := D) (ci := 1) (C := RX1) (T := TX1) (N := 8) hx hb hT inX1 hown hK hP 0 rfl rfl 6 (by decide) (hT _ tb_408) (fun _ h9 => h9) rfl dX1_narrow_93 ?_
            refine zi_bi hx hb 19 dX1_narrow_96 (by decide) ?_
            refine lv_iload_n hx hb dX1_narrow_98 rfl (lv_at hl 1 rfl) ?_
            refine zi_mul hx hb dX1_narrow_99 ?_
            refine lv_iload_n hx hb dX1_narrow_100 rfl (lv_at hl 3 rfl) ?_
            refine zi_add hx hb dX1_narrow_101 ?_
            refine zi_bi hx hb 9 dX1_narrow_102 (by decide) ?_
            refine zi_add hx hb dX1_narrow_104 ?_
            refine va_lald hx hb hK hP 5 1 rfl rfl (iZ_in (by omega) (by omega) (by decide)) dX1_narrow_105 ?_
            refine zl_as (a := Y 4 ((((19 * r) + n) + 9).toNat)) (by rw [iZ_cl (by omega) (by omega)]) ?_
            refine zl_const hx hb 0 dX1_narrow_106 (by decide) ?_
            refine zl_ceq (tgt := 135) hx hb dX1_narrow_107 dX1_narrow_108 (by decide) (by omega) (by omega) (fun hc107 => ?_) (fun hc107 => ?_)
            · refine zi_inc (lv' := [(3, .int (iZ (n + 1))), (0, .ref mo), (1, .int (iZ r)), (2, .int (iZ 0))]) hx hb dX1_narrow_135 hl (k := 3) rfl (by decide) rfl (fun ls hl => ?_)
              refine lv_goto (tgt := 86) hx hb dX1_narrow_138 (by decide) ?_
              exact ih86 (m86 - 1) (n + 1) (by omega) (by (try dsimp only); exact ⟨by omega, by omega, ok_ext (by omega) (by omega) hI86.2.2 (by rw [← hyj]; omega)⟩) ls (lv_sub hl [1, 2, 3, 0] rfl)
            · refine lv_iload_n hx hb dX1_narrow_111 rfl (lv_at hl 2 rfl) ?_
              refine zi_feq (tgt := 129) hx hb dX1_narrow_112 (by decide) (by omega) (fun hc112 => ?_) (fun hc112 => ?_)
              · exact (ok_not (r := r) (n := n) (by omega) (by omega) hok (by rw [← hyj]; omega) (by omega)).elim
              · exfalso
                omega
        · refine lv_iload_n hx hb dX1_narrow_71 rfl (lv_at hl 1 rfl) ?_
          refine zi_bi hx hb 14 dX1_narrow_72 (by decide) ?_
          refine zi_cge (tgt := 81) hx hb dX1_narrow_74 (by decide) (by omega) (by omega) (fun hc74 => ?_) (fun hc74 => ?_)
          · refine zi_const hx hb 0 dX1_narrow_81 ?_
            refine lv_istore_n (lv' := [(2, .int (iZ 0)), (0, .ref mo), (1, .int (iZ r))]) hx hb dX1_narrow_82 rfl hl (by decide) rfl (fun ls hl => ?_)
            refine zi_bi hx hb (-9) dX1_narrow_83 (by decide) ?_
            refine lv_istore_n (lv' := [(3, .int (iZ (-9))), (2, .int (iZ 0)), (0, .ref mo), (1, .int (iZ r))]) hx hb dX1_narrow_85 rfl hl (by decide) rfl (fun ls hl => ?_)
            refine lp_go (nL := 4) (α := Int) (fun z => [(0, .ref mo), (1, .int (iZ r)), (2, .int (iZ 0)), (3, .int (iZ z))]) (fun m86 z => -9 ≤ z ∧ z + (m86 : Int) = 10 ∧ ∀ j : Nat, (j : Int) < r * 19 + z + 9 → okJ (V 4) j) ?_ 19 (((-9) : Int)) (by (try dsimp only); exact ⟨by omega, by omega, fun j hj => hI54.2.2 j (by omega)⟩) ls (lv_sub hl [2, 3, 1, 0] rfl)
            intro m86 z9 hI86 ih86 ls hl
            obtain ⟨n, rfl⟩ : ∃ y : Int, y = z9 := ⟨_, rfl⟩
            have hl : lv_has ls 4 [(0, .ref mo), (1, .int (iZ r)), (2, .int (iZ 0)), (3, .int (iZ n))] := hl
            have hI86 : -9 ≤ n ∧ n + (m86 : Int) = 10 ∧ ∀ j : Nat, (j : Int) < r * 19 + n + 9 → okJ (V 4) j := hI86
            refine lv_iload_n hx hb dX1_narrow_86 rfl (lv_at hl 3 rfl) ?_
            refine zi_bi hx hb 10 dX1_narrow_87 (by decide) ?_
            refine zi_cge (tgt := 141) hx hb dX1_narrow_89 (by decide) (by omega) (by omega) (fun hc89 => ?_) (fun hc89 => ?_)
            · refine zi_inc (lv' := [(1, .int (iZ (r + 1))), (0, .ref mo), (2, .int (iZ 0)), (3, .int (iZ n))]) hx hb dX1_narrow_141 hl (k := 1) rfl (by decide) rfl (fun ls hl => ?_)
              refine lv_goto (tgt := 54) hx hb dX1_narrow_144 (by decide) ?_
              exact ih54 (m54 - 1) (r + 1) (by omega) (by (try dsimp only); exact ⟨by omega, by omega, fun j hj => hI86.2.2 j (by omega)⟩) ls (lv_sub hl [1, 0] rfl)
            · have hyj : Y 4 (19 * r + n + 9).toNat = nwZ (V 4) (19 * r + n + 9).toNat := hna _ (by omega)
              have hyr := nwZ_rng hW (j := (19 * r + n + 9).toNat) (by omega)
              rw [← hyj] at hyr
              refine lv_aload_n hx hb dX1_narrow_92 rfl (lv_at hl 0 rfl) ?_
              refine va_get (D := D) (ci := 1) (C := RX1) (T := TX1) (N := 8) hx hb hT inX1 hown hK hP 0 rfl rfl 6 (by decide) (hT _ tb_408) (fun _ h9 => h9) rfl dX1_narrow_93 ?_
              refine zi_bi hx hb 19 dX1_narrow_96 (by decide) ?_
              refine lv_iload_n hx hb dX1_narrow_98 rfl (lv_at hl 1 rfl) ?_
              refine zi_mul hx hb dX1_narrow_99 ?_
              refine lv_iload_n hx hb dX1_narrow_100 rfl (lv_at hl 3 rfl) ?_
              refine zi_add hx hb dX1_narrow_101 ?_
              refine zi_bi hx hb 9 dX1_narrow_102 (by decide) ?_
              refine zi_add hx hb dX1_narrow_104 ?_
              refine va_lald hx hb hK hP 5 1 rfl rfl (iZ_in (by omega) (by omega) (by decide)) dX1_narrow_105 ?_
              refine zl_as (a := Y 4 ((((19 * r) + n) + 9).toNat)) (by rw [iZ_cl (by omega) (by omega)]) ?_
              refine zl_const hx hb 0 dX1_narrow_106 (by decide) ?_
              refine zl_ceq (tgt := 135) hx hb dX1_narrow_107 dX1_narrow_108 (by decide) (by omega) (by omega) (fun hc107 => ?_) (fun hc107 => ?_)
              · refine zi_inc (lv' := [(3, .int (iZ (n + 1))), (0, .ref mo), (1, .int (iZ r)), (2, .int (iZ 0))]) hx hb dX1_narrow_135 hl (k := 3) rfl (by decide) rfl (fun ls hl => ?_)
                refine lv_goto (tgt := 86) hx hb dX1_narrow_138 (by decide) ?_
                exact ih86 (m86 - 1) (n + 1) (by omega) (by (try dsimp only); exact ⟨by omega, by omega, ok_ext (by omega) (by omega) hI86.2.2 (by rw [← hyj]; omega)⟩) ls (lv_sub hl [1, 2, 3, 0] rfl)
              · refine lv_iload_n hx hb dX1_narrow_111 rfl (lv_at hl 2 rfl) ?_
                refine zi_feq (tgt := 129) hx hb dX1_narrow_112 (by decide) (by omega) (fun hc112 => ?_) (fun hc112 => ?_)
                · exact (ok_not (r := r) (n := n) (by omega) (by omega) hok (by rw [← hyj]; omega) (by omega)).elim
                · exfalso
                  omega
          · refine zi_const hx hb 1 dX1_narrow_77 ?_
            refine lv_goto (tgt := 82) hx hb dX1_narrow_78 (by decide) ?_
            refine lv_istore_n (lv' := [(2, .int (iZ 1)), (0, .ref mo), (1, .int (iZ r))]) hx hb dX1_narrow_82 rfl hl (by decide) rfl (fun ls hl => ?_)
            refine zi_bi hx hb (-9) dX1_narrow_83 (by decide) ?_
            refine lv_istore_n (lv' := [(3, .int (iZ (-9))), (2, .int (iZ 1)), (0, .ref mo), (1, .int (iZ r))]) hx hb dX1_narrow_85 rfl hl (by decide) rfl (fun ls hl => ?_)
            refine lp_go (nL := 4) (α := Int) (fun z => [(0, .ref mo), (1, .int (iZ r)), (2, .int (iZ 1)), (3, .int (iZ z))]) (fun m86 z => -9 ≤ z ∧ z + (m86 : Int) = 10 ∧ ∀ j : Nat, (j : Int) < r * 19 + z + 9 → okJ (V 4) j) ?_ 19 (((-9) : Int)) (by (try dsimp only); exact ⟨by omega, by omega, fun j hj => hI54.2.2 j (by omega)⟩) ls (lv_sub hl [2, 3, 1, 0] rfl)
            intro m86 z10 hI86 ih86 ls hl
            obtain ⟨n, rfl⟩ : ∃ y : Int, y = z10 := ⟨_, rfl⟩
            have hl : lv_has ls 4 [(0, .ref mo), (1, .int (iZ r)), (2, .int (iZ 1)), (3, .int (iZ n))] := hl
            have hI86 : -9 ≤ n ∧ n + (m86 : Int) = 10 ∧ ∀ j : Nat, (j : Int) < r * 19 + n + 9 → okJ (V 4) j := hI86
            refine lv_iload_n hx hb dX1_narrow_86 rfl (lv_at hl 3 rfl) ?_
            refine zi_bi hx hb 10 dX1_narrow_87 (by decide) ?_
            refine zi_cge (tgt := 141) hx hb dX1_narrow_89 (by decide) (by omega) (by omega) (fun hc89 => ?_) (fun hc89 => ?_)
            · refine zi_inc (lv' := [(1, .int (iZ (r + 1))), (0, .ref mo), (2, .int (iZ 1)), (3, .int (iZ n))]) hx hb dX1_narrow_141 hl (k := 1) rfl (by decide) rfl (fun ls hl => ?_)
              refine lv_goto (tgt := 54) hx hb dX1_narrow_144 (by decide) ?_
              exact ih54 (m54 - 1) (r + 1) (by omega) (by (try dsimp only); exact ⟨by omega, by omega, fun j hj => hI86.2.2 j (by omega)⟩) ls (lv_sub hl [1, 0] rfl)
            · have hyj : Y 4 (19 * r + n + 9).toNat = nwZ (V 4) (19 * r + n + 9).toNat := hna _ (by omega)
              have hyr := nwZ_rng hW (j := (19 * r + n + 9).toNat) (by omega)
              rw [← hyj] at hyr
              refine lv_aload_n hx hb dX1_narrow_92 rfl (lv_at hl 0 rfl) ?_
              refine va_get (D := D) (ci := 1) (C := RX1) (T := TX1) (N := 8) hx hb hT inX1 hown hK hP 0 rfl rfl 6 (by decide) (hT _ tb_408) (fun _ h9 => h9) rfl dX1_narrow_93 ?_
              refine zi_bi hx hb 19 dX1_narrow_96 (by decide) ?_
              refine lv_iload_n hx hb dX1_narrow_98 rfl (lv_at hl 1 rfl) ?_
              refine zi_mul hx hb dX1_narrow_99 ?_
              refine lv_iload_n hx hb dX1_narrow_100 rfl (lv_at hl 3 rfl) ?_
              refine zi_add hx hb dX1_narrow_101 ?_
              refine zi_bi hx hb 9 dX1_narrow_102 (by decide) ?_
              refine zi_add hx hb dX1_narrow_104 ?_
              refine va_lald hx hb hK hP 5 1 rfl rfl (iZ_in (by omega) (by omega) (by decide)) dX1_narrow_105 ?_
              refine zl_as (a := Y 4 ((((19 * r) + n) + 9).toNat)) (by rw [iZ_cl (by omega) (by omega)]) ?_
              refine zl_const hx hb 0 dX1_narrow_106 (by decide) ?_
              refine zl_ceq (tgt := 135) hx hb dX1_narrow_107 dX1_narrow_108 (by decide) (by omega) (by omega) (fun hc107 => ?_) (fun hc107 => ?_)
              · refine zi_inc (lv' := [(3, .int (iZ (n + 1))), (0, .ref mo), (1, .int (iZ r)), (2, .int (iZ 1))]) hx hb dX1_narrow_135 hl (k := 3) rfl (by decide) rfl (fun ls hl => ?_)
                refine lv_goto (tgt := 86) hx hb dX1_narrow_138 (by decide) ?_
                exact ih86 (m86 - 1) (n + 1) (by omega) (by (try dsimp only); exact ⟨by omega, by omega, ok_ext (by omega) (by omega) hI86.2.2 (by rw [← hyj]; omega)⟩) ls (lv_sub hl [1, 2, 3, 0] rfl)
              · refine lv_iload_n hx hb dX1_narrow_111 rfl (lv_at hl 2 rfl) ?_
                refine zi_feq (tgt := 129) hx hb dX1_narrow_112 (by decide) (by omega) (fun hc112 => ?_) (fun hc112 => ?_)
                · exfalso
                  omega
                · refine lv_iload_n hx hb dX1_narrow_115 rfl (lv_at hl 3 rfl) ?_
                  refine zi_i2l hx hb dX1_narrow_116 (by omega) ?_
                  refine zl_ldc hx hb (-4) hown (hT _ tb_440) (by decide) dX1_narrow_117 ?_
                  refine zl_ldc hx hb 4 hown (hT _ tb_441) (by decide) dX1_narrow_120 ?_
                  refine rd_S (As := [.long (lZ n), .long (lZ (-4)), .long (lZ 4)]) (rest := []) (st1 := [.int (iZ (inZ n (-4) 4))]) S (k_X1_in l n (-4) 4 (by omega) (by omega) (by omega)) tb_437 tb_438 tb_2 tb_439 hd_X1_in ⟨rfl, rfl, by decide, by decide⟩ bl_T (fun _ _ _ => trivial) rfl hl.1 rfl (Nat.le_of_ble_eq_true rfl) dX1_narrow_123 ⟨Nat.zero_le _, Nat.zero_le _⟩ rfl ?_
                  have hi126 := inZ_or n (-4) 4
                  refine zi_fne (tgt := 135) hx hb dX1_narrow_126 (by decide) (by omega) (fun hc126 => ?_) (fun hc126 => ?_)
                  · refine zi_inc (lv' := [(3, .int (iZ (n + 1))), (0, .ref mo), (1, .int (iZ r)), (2, .int (iZ 1))]) hx hb dX1_narrow_135 hl (k := 3) rfl (by decide) rfl (fun ls hl => ?_)
                    refine lv_goto (tgt := 86) hx hb dX1_narrow_138 (by decide) ?_
                    exact ih86 (m86 - 1) (n + 1) (by omega) (by (try dsimp only); exact ⟨by omega, by omega, ok_ext (by omega) (by omega) hI86.2.2 (by rw [← hyj]; omega)⟩) ls (lv_sub hl [1, 2, 3, 0] rfl)
                  · exact (ok_not (r := r) (n := n) (by omega) (by omega) hok (by rw [← hyj]; omega) (by omega)).elim
  · have ha1 : Y 4 i.toNat = V 4 i.toNat := by
      rw [hI2.2.2.2.1 _ (by omega), if_neg (by omega)]
    have ha2 : Y 4 (209 + i).toNat = V 4 (209 + i).toNat := by
      rw [hI2.2.2.2.1 _ (by omega), if_neg (by omega)]
    have hw1 := hW i.toNat (by omega)
    have hw2 := hW (209 + i).toNat (by omega)
    refine lv_aload_n hx hb dX1_narrow_8 rfl (lv_at hl 0 rfl) ?_
    refine va_get (D := D) (ci := 1) (C := RX1) (T := TX1) (N := 8) hx hb hT inX1 hown hK hP 0 rfl rfl 6 (by decide) (hT _ tb_408) (fun _ h9 => h9) rfl dX1_narrow_9 ?_
    refine lv_iload_n hx hb dX1_narrow_12 rfl (lv_at hl 1 rfl) ?_
    refine lv_aload_n hx hb dX1_narrow_13 rfl (lv_at hl 0 rfl) ?_
    refine va_get (D := D) (ci := 1) (C := RX1) (T := TX1) (N := 8) hx hb hT inX1 hown hK hP 0 rfl rfl 6 (by decide) (hT _ tb_408) (fun _ h9 => h9) rfl dX1_narrow_14 ?_
    refine lv_iload_n hx hb dX1_narrow_17 rfl (lv_at hl 1 rfl) ?_
    refine va_lald hx hb hK hP 5 1 rfl rfl (iZ_in (by omega) (by omega) (by decide)) dX1_narrow_18 ?_
    refine zl_as (a := Y 4 ((i).toNat)) (by rw [iZ_cl (by omega) (by omega)]) ?_
    refine lv_aload_n hx hb dX1_narrow_19 rfl (lv_at hl 0 rfl) ?_
    refine va_get (D := D) (ci := 1) (C := RX1) (T := TX1) (N := 8) hx hb hT inX1 hown hK hP 0 rfl rfl 6 (by decide) (hT _ tb_408) (fun _ h9 => h9) rfl dX1_narrow_20 ?_
    refine zi_si hx hb 209 dX1_narrow_23 (by decide) ?_
    refine lv_iload_n hx hb dX1_narrow_26 rfl (lv_at hl 1 rfl) ?_
    refine zi_add hx hb dX1_narrow_27 ?_
    refine va_lald hx hb hK hP 5 1 rfl rfl (iZ_in (by omega) (by omega) (by decide)) dX1_narrow_28 ?_
    refine zl_as (a := Y 4 ((209 + i).toNat)) (by rw [iZ_cl (by omega) (by omega)]) ?_
    refine zl_add hx hb dX1_narrow_29 ?_
    refine zl_ldc hx hb 32003 hown (hT _ tb_448) (by decide) dX1_narrow_30 ?_
    refine zl_rem hx hb dX1_narrow_33 (by omega) (by omega) ?_
    have hxx : (Int.tmod ((Y 4 (i).toNat) + (Y 4 (209 + i).toNat)) 32003 : Int) = (V 4 i.toNat + V 4 (209 + i).toNat) % 32003 := by
      rw [ha1, ha2]
      exact tmP (by omega)
    refine mm_l hx hb hK hP hd hA hS 4 304 rfl (fun g => rfl) (by omega) dX1_narrow_34 (fun H locs hP hS => ?_)
    obtain ⟨V11, eV11⟩ : ∃ Z : Nat → Nat → Int, Z = sV Y 4 (uZ (Y 4) (i).toNat (Int.tmod ((Y 4 (i).toNat) + (Y 4 (209 + i).toNat)) 32003)) := ⟨_, rfl⟩
    rw [← eV11] at hP
    refine lv_aload_n hx hb dX1_narrow_35 rfl (lv_at hl 0 rfl) ?_
    refine va_get (D := D) (ci := 1) (C := RX1) (T := TX1) (N := 8) hx hb hT inX1 hown hK hP 0 rfl rfl 6 (by decide) (hT _ tb_408) (fun _ h9 => h9) rfl dX1_narrow_36 ?_
    refine zi_si hx hb 209 dX1_narrow_39 (by decide) ?_
    refine lv_iload_n hx hb dX1_narrow_42 rfl (lv_at hl 1 rfl) ?_
    refine zi_add hx hb dX1_narrow_43 ?_
    refine zl_const hx hb 0 dX1_narrow_44 (by decide) ?_
    refine mm_l hx hb hK hP hd hA hS 4 304 rfl (fun g => rfl) (by omega) dX1_narrow_45 (fun H locs hP hS => ?_)
    obtain ⟨V12, eV12⟩ : ∃ Z : Nat → Nat → Int, Z = sV V11 4 (uZ (V11 4) (209 + i).toNat 0) := ⟨_, rfl⟩
    rw [← eV12] at hP
    refine zi_inc (lv' := [(1, .int (iZ (i + 1))), (0, .ref mo)]) hx hb dX1_narrow_46 hl (k := 1) rfl (by decide) rfl (fun ls hl => ?_)
    refine lv_goto (tgt := 2) hx hb dX1_narrow_49 (by decide) ?_
    exact ih2 (m2 - 1) (V12, i + 1) (by omega) (by (try dsimp only); exact ⟨by omega, by omega, by omega, by rw [eV12, sV_a, eV11, sV_a]; exact nw_step (by omega) hI2.2.2.2.1 hxx, fun b hb9 => by rw [eV12, sV_b hb9, eV11, sV_b hb9]; exact hI2.2.2.2.2 b hb9⟩) _ _ hP hS ls (lv_sub hl [1, 0] rfl)
set_option maxHeartbeats 4000000 in
set_option maxRecDepth 100000 in
theorem kF_X1_narrow (l : Launch) (D : va_G) (mo : Nat) (na : Nat → Nat) (cI cJ : ClassId) (c0 k : Int) (V : Nat → Nat → Int)  (hd : dM mo na) (hk : 0 ≤ k ∧ k < 60) (hW : ∀ j : Nat, j < 304 → 0 ≤ V 4 j ∧ V 4 j < 32003) (hno : ¬ okN (V 4)) : wm_M l yX1_narrow cX1_narrow 4 (some .int) ({ frames := 2, cells := 0, slots := 0, locals := 40 }) [] D mo na cI cJ c0 k V (some (.int (iZ 0))) 2 k (fun Z => Z 0 = V 0) := by
  refine wm_of (by decide) rfl (Nat.le_of_ble_eq_true rfl) ?_
  intro p e s m below meth c A hAe S hr hlk hP hK hA hAn hS ls hl
  obtain ⟨hx, hb, hml, hown, hT⟩ := id S
  have hl : lv_has ls 4 [(0, .ref mo)] := hl
  refine zi_const hx hb 0 dX1_narrow_0 ?_
  refine lv_istore_n (lv' := [(1, .int (iZ 0)), (0, .ref mo)]) hx hb dX1_narrow_1 rfl hl (by decide) rfl (fun ls hl => ?_)
  refine lp_goM (nL := 4) (α := (Nat → Nat → Int) × Int) (fun z => [(0, .ref mo), (1, .int (iZ z.2))]) (fun _ => c0) (fun _ => k) (fun z => z.1) (fun m2 z => 0 ≤ z.2 ∧ z.2 ≤ 19 ∧ z.2 + (m2 : Int) = 19 ∧ (∀ j : Nat, j < 304 → z.1 4 j = if (j : Int) < z.2 ∨ (209 ≤ (j : Int) ∧ (j : Int) < 209 + z.2) then nwZ (V 4) j else V 4 j) ∧ ∀ b, b ≠ 4 → z.1 b = V b) ?_ 19 (V, (0 : Int)) (by (try dsimp only); exact ⟨by omega, by omega, by omega, fun j hj => (by rw [if_neg (by omega)]), fun b _ => rfl⟩) _ _ hP hS ls (lv_sub hl [1, 0] rfl)
  intro m2 z1 hI2 ih2 H locs hP hS ls hl
  obtain ⟨Y, i⟩ := z1
  have hl : lv_has ls 4 [(0, .ref mo), (1, .int (iZ i))] := hl
  have hI2 : 0 ≤ i ∧ i ≤ 19 ∧ i + (m2 : Int) = 19 ∧ (∀ j : Nat, j < 304 → Y 4 j = if (j : Int) < i ∨ (209 ≤ (j : Int) ∧ (j : Int) < 209 + i) then nwZ (V 4) j else V 4 j) ∧ ∀ b, b ≠ 4 → Y b = V b := hI2
  have hP : va_P D vwCl (mX mo na cI cJ c0 k Y) H := hP
  refine lv_iload_n hx hb dX1_narrow_2 rfl (lv_at hl 1 rfl) ?_
  refine zi_bi hx hb 19 dX1_narrow_3 (by decide) ?_
  refine zi_cge (tgt := 52) hx hb dX1_narrow_5 (by decide) (by omega) (by omega) (fun hc5 => ?_) (fun hc5 => ?_)
  · refine zi_const hx hb 0 dX1_narrow_52 ?_
    refine lv_istore_n (lv' := [(1, .int (iZ 0)), (0, .ref mo)]) hx hb dX1_narrow_53 rfl hl (by decide) rfl (fun ls hl => ?_)
    have hna := nw_all (by omega) hI2.2.2.2.1
    refine lp_go (nL := 4) (α := Int) (fun z => [(0, .ref mo), (1, .int (iZ z))]) (fun m54 z => 0 ≤ z ∧ z + (m54 : Int) = 16 ∧ ∀ j : Nat, (j : Int) < z * 19 → okJ (V 4) j) ?_ 16 ((0 : Int)) (by (try dsimp only); exact ⟨by omega, by omega, fun j hj => by omega⟩) ls (lv_sub hl [1, 0] rfl)
    intro m54 z2 hI54 ih54 ls hl
    obtain ⟨r, rfl⟩ : ∃ y : Int, y = z2 := ⟨_, rfl⟩
    have hl : lv_has ls 4 [(0, .ref mo), (1, .int (iZ r))] := hl
    have hI54 : 0 ≤ r ∧ r + (m54 : Int) = 16 ∧ ∀ j : Nat, (j : Int) < r * 19 → okJ (V 4) j := hI54
    refine lv_iload_n hx hb dX1_narrow_54 rfl (lv_at hl 1 rfl) ?_
    refine zi_bi hx hb 16 dX1_narrow_55 (by decide) ?_
    refine zi_cge (tgt := 147) hx hb dX1_narrow_57 (by decide) (by omega) (by omega) (fun hc57 => ?_) (fun hc57 => ?_)
    · exact (hno (fun j hj => hI54.2.2 j (by omega))).elim
    · refine lv_iload_n hx hb dX1_narrow_60 rfl (lv_at hl 1 rfl) ?_
      refine zi_const hx hb 4 dX1_narrow_61 ?_
      refine zi_clt (tgt := 77) hx hb dX1_narrow_62 (by decide) (by omega) (by omega) (fun hc62 => ?_) (fun hc62 => ?_)
      · refine zi_const hx hb 1 dX1_narrow_77 ?_
        refine lv_goto (tgt := 82) hx hb dX1_narrow_78 (by decide) ?_
        refine lv_istore_n (lv' := [(2, .int (iZ 1)), (0, .ref mo), (1, .int (iZ r))]) hx hb dX1_narrow_82 rfl hl (by decide) rfl (fun ls hl => ?_)
        refine zi_bi hx hb (-9) dX1_narrow_83 (by decide) ?_
        refine lv_istore_n (lv' := [(3, .int (iZ (-9))), (2, .int (iZ 1)), (0, .ref mo), (1, .int (iZ r))]) hx hb dX1_narrow_85 rfl hl (by decide) rfl (fun ls hl => ?_)
        refine lp_go (nL := 4) (α := Int) (fun z => [(0, .ref mo), (1, .int (iZ r)), (2, .int (iZ 1)), (3, .int (iZ z))]) (fun m86 z => -9 ≤ z ∧ z + (m86 : Int) = 10 ∧ ∀ j : Nat, (j : Int) < r * 19 + z + 9 → okJ (V 4) j) ?_ 19 (((-9) : Int)) (by (try dsimp only); exact ⟨by omega, by omega, fun j hj => hI54.2.2 j (by omega)⟩) ls (lv_sub hl [2, 3, 1, 0] rfl)
        intro m86 z3 hI86 ih86 ls hl
        obtain ⟨n, rfl⟩ : ∃ y : Int, y = z3 := ⟨_, rfl⟩
        have hl : lv_has ls 4 [(0, .ref mo), (1, .int (iZ r)), (2, .int (iZ 1)), (3, .int (iZ n))] := hl
        have hI86 : -9 ≤ n ∧ n + (m86 : Int) = 10 ∧ ∀ j : Nat, (j : Int) < r * 19 + n + 9 → okJ (V 4) j := hI86
        refine lv_iload_n hx hb dX1_narrow_86 rfl (lv_at hl 3 rfl) ?_
        refine zi_bi hx hb 10 dX1_narrow_87 (by decide) ?_
        refine zi_cge (tgt := 141) hx hb dX1_narrow_89 (by decide) (by omega) (by omega) (fun hc89 => ?_) (fun hc89 => ?_)
        · refine zi_inc (lv' := [(1, .int (iZ (r + 1))), (0, .ref mo), (2, .int (iZ 1)), (3, .int (iZ n))]) hx hb dX1_narrow_141 hl (k := 1) rfl (by decide) rfl (fun ls hl => ?_)
          refine lv_goto (tgt := 54) hx hb dX1_narrow_144 (by decide) ?_
          exact ih54 (m54 - 1) (r + 1) (by omega) (by (try dsimp only); exact ⟨by omega, by omega, fun j hj => hI86.2.2 j (by omega)⟩) ls (lv_sub hl [1, 0] rfl)
        · have hyj : Y 4 (19 * r + n + 9).toNat = nwZ (V 4) (19 * r + n + 9).toNat := hna _ (by omega)
          have hyr := nwZ_rng hW (j := (19 * r + n + 9).toNat) (by omega)
          rw [← hyj] at hyr
          refine lv_aload_n hx hb dX1_narrow_92 rfl (lv_at hl 0 rfl) ?_
          refine va_get (D := D) (ci := 1) (C := RX1) (T := TX1) (N := 8) hx hb hT inX1 hown hK hP 0 rfl rfl 6 (by decide) (hT _ tb_408) (fun _ h9 => h9) rfl dX1_narrow_93 ?_
          refine zi_bi hx hb 19 dX1_narrow_96 (by decide) ?_
          refine lv_iload_n hx hb dX1_narrow_98 rfl (lv_at hl 1 rfl) ?_
          refine zi_mul hx hb dX1_narrow_99 ?_
          refine lv_iload_n hx hb dX1_narrow_100 rfl (lv_at hl 3 rfl) ?_
          refine zi_add hx hb dX1_narrow_101 ?_
          refine zi_bi hx hb 9 dX1_narrow_102 (by decide) ?_
          refine zi_add hx hb dX1_narrow_104 ?_
          refine va_lald hx hb hK hP 5 1 rfl rfl (iZ_in (by omega) (by omega) (by decide)) dX1_narrow_105 ?_
          refine zl_as (a := Y 4 ((((19 * r) + n) + 9).toNat)) (by rw [iZ_cl (by omega) (by omega)]) ?_
          refine zl_const hx hb 0 dX1_narrow_106 (by decide) ?_
          refine zl_ceq (tgt := 135) hx hb dX1_narrow_107 dX1_narrow_108 (by decide) (by omega) (by omega) (fun hc107 => ?_) (fun hc107 => ?_)
          · refine zi_inc (lv' := [(3, .int (iZ (n + 1))), (0, .ref mo), (1, .int (iZ r)), (2, .int (iZ 1))]) hx hb dX1_narrow_135 hl (k := 3) rfl (by decide) rfl (fun ls hl => ?_)
            refine lv_goto (tgt := 86) hx hb dX1_narrow_138 (by decide) ?_
            exact ih86 (m86 - 1) (n + 1) (by omega) (by (try dsimp only); exact ⟨by omega, by omega, ok_ext (by omega) (by omega) hI86.2.2 (by rw [← hyj]; omega)⟩) ls (lv_sub hl [1, 2, 3, 0] rfl)
          · refine lv_iload_n hx hb dX1_narrow_111 rfl (lv_at hl 2 rfl) ?_
            refine zi_feq (tgt := 129) hx hb dX1_narrow_112 (by decide) (by omega) (fun hc112 => ?_) (fun hc112 => ?_)
            · exfalso
              omega
            · refine lv_iload_n hx hb dX1_narrow_115 rfl (lv_at hl 3 rfl) ?_
              refine zi_i2l hx hb dX1_narrow_116 (by omega) ?_
              refine zl_ldc hx hb (-4) hown (hT _ tb_440) (by decide) dX1_narrow_117 ?_
              refine zl_ldc hx hb 4 hown (hT _ tb_441) (by decide) dX1_narrow_120 ?_
              refine rd_S (As := [.long (lZ n), .long (lZ (-4)), .long (lZ 4)]) (rest := []) (st1 := [.int (iZ (inZ n (-4) 4))]) S (k_X1_in l n (-4) 4 (by omega) (by omega) (by omega)) tb_437 tb_438 tb_2 tb_439 hd_X1_in ⟨rfl, rfl, by decide, by decide⟩ bl_T (fun _ _ _ => trivial) rfl hl.1 rfl (Nat.le_of_ble_eq_true rfl) dX1_narrow_123 ⟨Nat.zero_le _, Nat.zero_le _⟩ rfl ?_
              have hi126 := inZ_or n (-4) 4
              refine zi_fne (tgt := 135) hx hb dX1_narrow_126 (by decide) (by omega) (fun hc126 => ?_) (fun hc126 => ?_)
              · refine zi_inc (lv' := [(3, .int (iZ (n + 1))), (0, .ref mo), (1, .int (iZ r)), (2, .int (iZ 1))]) hx hb dX1_narrow_135 hl (k := 3) rfl (by decide) rfl (fun ls hl => ?_)
                refine lv_goto (tgt := 86) hx hb dX1_narrow_138 (by decide) ?_
                exact ih86 (m86 - 1) (n + 1) (by omega) (by (try dsimp only); exact ⟨by omega, by omega, ok_ext (by omega) (by omega) hI86.2.2 (by rw [← hyj]; omega)⟩) ls (lv_sub hl [1, 2, 3, 0] rfl)
              · refine lv_aload_n hx hb dX1_narrow_129 rfl (lv_at hl 0 rfl) ?_
                refine zi_const hx hb 2 dX1_narrow_130 ?_
                refine wm_V (As := [.int (iZ 2)]) (rest := []) (st1 := [.int (iZ 0)]) (c1 := 2) (k1 := k) S (k_X1_raise l D mo na cI cJ c0 k Y 2 hd ) tb_483 tb_485 ts_X1_raise tb_2 tb_486 hd_X1_raise ⟨rfl, rfl, by decide, by decide⟩ hP hK hS hA hAn rfl hl.1 rfl (Nat.le_of_ble_eq_true rfl) dX1_narrow_131 ⟨Nat.zero_le _, Nat.zero_le _⟩ rfl (fun V4 H locs hRV4 hP hS _ _ => ?_)
                exact wm_iret hx hb hr hlk hP ((show V4 0 = V 0 from (congrFun hRV4 0).trans (hI2.2.2.2.2 0 (by decide)))) rfl rfl hS (congrArg (fun z => some (Value.int (iZ z))) (show (0 : Int) = 0 from rfl)) dX1_narrow_134
      · refine lv_iload_n hx hb dX1_narrow_65 rfl (lv_at hl 1 rfl) ?_
        refine zi_bi hx hb 8 dX1_narrow_66 (by decide) ?_
        refine zi_cle (tgt := 81) hx hb dX1_narrow_68 (by decide) (by omega) (by omega) (fun hc68 => ?_) (fun hc68 => ?_)
        · refine zi_const hx hb 0 dX1_narrow_81 ?_
          refine lv_istore_n (lv' := [(2, .int (iZ 0)), (0, .ref mo), (1, .int (iZ r))]) hx hb dX1_narrow_82 rfl hl (by decide) rfl (fun ls hl => ?_)
          refine zi_bi hx hb (-9) dX1_narrow_83 (by decide) ?_
          refine lv_istore_n (lv' := [(3, .int (iZ (-9))), (2, .int (iZ 0)), (0, .ref mo), (1, .int (iZ r))]) hx hb dX1_narrow_85 rfl hl (by decide) rfl (fun ls hl => ?_)
          refine lp_go (nL := 4) (α := Int) (fun z => [(0, .ref mo), (1, .int (iZ r)), (2, .int (iZ 0)), (3, .int (iZ z))]) (fun m86 z => -9 ≤ z ∧ z + (m86 : Int) = 10 ∧ ∀ j : Nat, (j : Int) < r * 19 + z + 9 → okJ (V 4) j) ?_ 19 (((-9) : Int)) (by (try dsimp only); exact ⟨by omega, by omega, fun j hj => hI54.2.2 j (by omega)⟩) ls (lv_sub hl [2, 3, 1, 0] rfl)
          intro m86 z5 hI86 ih86 ls hl
          obtain ⟨n, rfl⟩ : ∃ y : Int, y = z5 := ⟨_, rfl⟩
          have hl : lv_has ls 4 [(0, .ref mo), (1, .int (iZ r)), (2, .int (iZ 0)), (3, .int (iZ n))] := hl
          have hI86 : -9 ≤ n ∧ n + (m86 : Int) = 10 ∧ ∀ j : Nat, (j : Int) < r * 19 + n + 9 → okJ (V 4) j := hI86
          refine lv_iload_n hx hb dX1_narrow_86 rfl (lv_at hl 3 rfl) ?_
          refine zi_bi hx hb 10 dX1_narrow_87 (by decide) ?_
          refine zi_cge (tgt := 141) hx hb dX1_narrow_89 (by decide) (by omega) (by omega) (fun hc89 => ?_) (fun hc89 => ?_)
          · refine zi_inc (lv' := [(1, .int (iZ (r + 1))), (0, .ref mo), (2, .int (iZ 0)), (3, .int (iZ n))]) hx hb dX1_narrow_141 hl (k := 1) rfl (by decide) rfl (fun ls hl => ?_)
            refine lv_goto (tgt := 54) hx hb dX1_narrow_144 (by decide) ?_
            exact ih54 (m54 - 1) (r + 1) (by omega) (by (try dsimp only); exact ⟨by omega, by omega, fun j hj => hI86.2.2 j (by omega)⟩) ls (lv_sub hl [1, 0] rfl)
          · have hyj : Y 4 (19 * r + n + 9).toNat = nwZ (V 4) (19 * r + n + 9).toNat := hna _ (by omega)
            have hyr := nwZ_rng hW (j := (19 * r + n + 9).toNat) (by omega)
            rw [← hyj] at hyr
            refine lv_aload_n hx hb dX1_narrow_92 rfl (lv_at hl 0 rfl) ?_
            refine va_get (D := D) (ci := 1) (C := RX1) (T := TX1) (N := 8) hx hb hT inX1 hown hK hP 0 rfl rfl 6 (by decide) (hT _ tb_408) (fun _ h9 => h9) rfl dX1_narrow_93 ?_
            refine zi_bi hx hb 19 dX1_narrow_96 (by decide) ?_
            refine lv_iload_n hx hb dX1_narrow_98 rfl (lv_at hl 1 rfl) ?_
            refine zi_mul hx hb dX1_narrow_99 ?_
            refine lv_iload_n hx hb dX1_narrow_100 rfl (lv_at hl 3 rfl) ?_
            refine zi_add hx hb dX1_narrow_101 ?_
            refine zi_bi hx hb 9 dX1_narrow_102 (by decide) ?_
            refine zi_add hx hb dX1_narrow_104 ?_
            refine va_lald hx hb hK hP 5 1 rfl rfl (iZ_in (by omega) (by omega) (by decide)) dX1_narrow_105 ?_
            refine zl_as (a := Y 4 ((((19 * r) + n) + 9).toNat)) (by rw [iZ_cl (by omega) (by omega)]) ?_
            refine zl_const hx hb 0 dX1_narrow_106 (by decide) ?_
            refine zl_ceq (tgt := 135) hx hb dX1_narrow_107 dX1_narrow_108 (by decide) (by omega) (by omega) (fun hc107 => ?_) (fun hc107 => ?_)
            · refine zi_inc (lv' := [(3, .int (iZ (n + 1))), (0, .ref mo), (1, .int (iZ r)), (2, .int (iZ 0))]) hx hb dX1_narrow_135 hl (k := 3) rfl (by decide) rfl (fun ls hl => ?_)
              refine lv_goto (tgt := 86) hx hb dX1_narrow_138 (by decide) ?_
              exact ih86 (m86 - 1) (n + 1) (by omega) (by (try dsimp only); exact ⟨by omega, by omega, ok_ext (by omega) (by omega) hI86.2.2 (by rw [← hyj]; omega)⟩) ls (lv_sub hl [1, 2, 3, 0] rfl)
            · refine lv_iload_n hx hb dX1_narrow_111 rfl (lv_at hl 2 rfl) ?_
              refine zi_feq (tgt := 129) hx hb dX1_narrow_112 (by decide) (by omega) (fun hc112 => ?_) (fun hc112 => ?_)
              · refine lv_aload_n hx hb dX1_narrow_129 rfl (lv_at hl 0 rfl) ?_
                refine zi_const hx hb 2 dX1_narrow_130 ?_
                refine wm_V (As := [.int (iZ 2)]) (rest := []) (st1 := [.int (iZ 0)]) (c1 := 2) (k1 := k) S (k_X1_raise l D mo na cI cJ c0 k Y 2 hd ) tb_483 tb_485 ts_X1_raise tb_2 tb_486 hd_X1_raise ⟨rfl, rfl, by decide, by decide⟩ hP hK hS hA hAn rfl hl.1 rfl (Nat.le_of_ble_eq_true rfl) dX1_narrow_131 ⟨Nat.zero_le _, Nat.zero_le _⟩ rfl (fun V6 H locs hRV6 hP hS _ _ => ?_)
                exact wm_iret hx hb hr hlk hP ((show V6 0 = V 0 from (congrFun hRV6 0).trans (hI2.2.2.2.2 0 (by decide)))) rfl rfl hS (congrArg (fun z => some (Value.int (iZ z))) (show (0 : Int) = 0 from rfl)) dX1_narrow_134
              · exfalso
                omega
        · refine lv_iload_n hx hb dX1_narrow_71 rfl (lv_at hl 1 rfl) ?_
          refine zi_bi hx hb 14 dX1_narrow_72 (by decide) ?_
          refine zi_cge (tgt := 81) hx hb dX1_narrow_74 (by decide) (by omega) (by omega) (fun hc74 => ?_) (fun hc74 => ?_)
          · refine zi_const hx hb 0 dX1_narrow_81 ?_
            refine lv_istore_n (lv' := [(2, .int (iZ 0)), (0, .ref mo), (1, .int (iZ r))]) hx hb dX1_narrow_82 rfl hl (by decide) rfl (fun ls hl => ?_)
            refine zi_bi hx hb (-9) dX1_narrow_83 (by decide) ?_
            refine lv_istore_n (lv' := [(3, .int (iZ (-9))), (2, .int (iZ 0)), (0, .ref mo), (1, .int (iZ r))]) hx hb dX1_narrow_85 rfl hl (by decide) rfl (fun ls hl => ?_)
            refine lp_go (nL := 4) (α := Int) (fun z => [(0, .ref mo), (1, .int (iZ r)), (2, .int (iZ 0)), (3, .int (iZ z))]) (fun m86 z => -9 ≤ z ∧ z + (m86 : Int) = 10 ∧ ∀ j : Nat, (j : Int) < r * 19 + z + 9 → okJ (V 4) j) ?_ 19 (((-9) : Int)) (by (try dsimp only); exact ⟨by omega, by omega, fun j hj => hI54.2.2 j (by omega)⟩) ls (lv_sub hl [2, 3, 1, 0] rfl)
            intro m86 z7 hI86 ih86 ls hl
            obtain ⟨n, rfl⟩ : ∃ y : Int, y = z7 := ⟨_, rfl⟩
            have hl : lv_has ls 4 [(0, .ref mo), (1, .int (iZ r)), (2, .int (iZ 0)), (3, .int (iZ n))] := hl
            have hI86 : -9 ≤ n ∧ n + (m86 : Int) = 10 ∧ ∀ j : Nat, (j : Int) < r * 19 + n + 9 → okJ (V 4) j := hI86
            refine lv_iload_n hx hb dX1_narrow_86 rfl (lv_at hl 3 rfl) ?_
            refine zi_bi hx hb 10 dX1_narrow_87 (by decide) ?_
            refine zi_cge (tgt := 141) hx hb dX1_narrow_89 (by decide) (by omega) (by omega) (fun hc89 => ?_) (fun hc89 => ?_)
            · refine zi_inc (lv' := [(1, .int (iZ (r + 1))), (0, .ref mo), (2, .int (iZ 0)), (3, .int (iZ n))]) hx hb dX1_narrow_141 hl (k := 1) rfl (by decide) rfl (fun ls hl => ?_)
              refine lv_goto (tgt := 54) hx hb dX1_narrow_144 (by decide) ?_
              exact ih54 (m54 - 1) (r + 1) (by omega) (by (try dsimp only); exact ⟨by omega, by omega, fun j hj => hI86.2.2 j (by omega)⟩) ls (lv_sub hl [1, 0] rfl)
            · have hyj : Y 4 (19 * r + n + 9).toNat = nwZ (V 4) (19 * r + n + 9).toNat := hna _ (by omega)
              have hyr := nwZ_rng hW (j := (19 * r + n + 9).toNat) (by omega)
              rw [← hyj] at hyr
              refine lv_aload_n hx hb dX1_narrow_92 rfl (lv_at hl 0 rfl) ?_
              refine va_get (D := D) (ci := 1) (C := RX1) (T := TX1) (N := 8) hx hb hT inX1 hown hK hP 0 rfl rfl 6 (by decide) (hT _ tb_408) (fun _ h9 => h9) rfl dX1_narrow_93 ?_
              refine zi_bi hx hb 19 dX1_narrow_96 (by decide) ?_
              refine lv_iload_n hx hb dX1_narrow_98 rfl (lv_at hl 1 rfl) ?_
              refine zi_mul hx hb dX1_narrow_99 ?_
              refine lv_iload_n hx hb dX1_narrow_100 rfl (lv_at hl 3 rfl) ?_
              refine zi_add hx hb dX1_narrow_101 ?_
              refine zi_bi hx hb 9 dX1_narrow_102 (by decide) ?_
              refine zi_add hx hb dX1_narrow_104 ?_
              refine va_lald hx hb hK hP 5 1 rfl rfl (iZ_in (by omega) (by omega) (by decide)) dX1_narrow_105 ?_
              refine zl_as (a := Y 4 ((((19 * r) + n) + 9).toNat)) (by rw [iZ_cl (by omega) (by omega)]) ?_
              refine zl_const hx hb 0 dX1_narrow_106 (by decide) ?_
              refine zl_ceq (tgt := 135) hx hb dX1_narrow_107 dX1_narrow_108 (by decide) (by omega) (by omega) (fun hc107 => ?_) (fun hc107 => ?_)
              · refine zi_inc (lv' := [(3, .int (iZ (n + 1))), (0, .ref mo), (1, .int (iZ r)), (2, .int (iZ 0))]) hx hb dX1_narrow_135 hl (k := 3) rfl (by decide) rfl (fun ls hl => ?_)
                refine lv_goto (tgt := 86) hx hb dX1_narrow_138 (by decide) ?_
                exact ih86 (m86 - 1) (n + 1) (by omega) (by (try dsimp only); exact ⟨by omega, by omega, ok_ext (by omega) (by omega) hI86.2.2 (by rw [← hyj]; omega)⟩) ls (lv_sub hl [1, 2, 3, 0] rfl)
              · refine lv_iload_n hx hb dX1_narrow_111 rfl (lv_at hl 2 rfl) ?_
                refine zi_feq (tgt := 129) hx hb dX1_narrow_112 (by decide) (by omega) (fun hc112 => ?_) (fun hc112 => ?_)
                · refine lv_aload_n hx hb dX1_narrow_129 rfl (lv_at hl 0 rfl) ?_
                  refine zi_const hx hb 2 dX1_narrow_130 ?_
                  refine wm_V (As := [.int (iZ 2)]) (rest := []) (st1 := [.int (iZ 0)]) (c1 := 2) (k1 := k) S (k_X1_raise l D mo na cI cJ c0 k Y 2 hd ) tb_483 tb_485 ts_X1_raise tb_2 tb_486 hd_X1_raise ⟨rfl, rfl, by decide, by decide⟩ hP hK hS hA hAn rfl hl.1 rfl (Nat.le_of_ble_eq_true rfl) dX1_narrow_131 ⟨Nat.zero_le _, Nat.zero_le _⟩ rfl (fun V8 H locs hRV8 hP hS _ _ => ?_)
                  exact wm_iret hx hb hr hlk hP ((show V8 0 = V 0 from (congrFun hRV8 0).trans (hI2.2.2.2.2 0 (by decide)))) rfl rfl hS (congrArg (fun z => some (Value.int (iZ z))) (show (0 : Int) = 0 from rfl)) dX1_narrow_134
                · exfalso
                  omega
          · refine zi_const hx hb 1 dX1_narrow_77 ?_
            refine lv_goto (tgt := 82) hx hb dX1_narrow_78 (by decide) ?_
            refine lv_istore_n (lv' := [(2, .int (iZ 1)), (0, .ref mo), (1, .int (iZ r))]) hx hb dX1_narrow_82 rfl hl (by decide) rfl (fun ls hl => ?_)
            refine zi_bi hx hb (-9) dX1_narrow_83 (by decide) ?_
            refine lv_istore_n (lv' := [(3, .int (iZ (-9))), (2, .int (iZ 1)), (0, .ref mo), (1, .int (iZ r))]) hx hb dX1_narrow_85 rfl hl (by decide) rfl (fun ls hl => ?_)
            refine lp_go (nL := 4) (α := Int) (fun z => [(0, .ref mo), (1, .int (iZ r)), (2, .int (iZ 1)), (3, .int (iZ z))]) (fun m86 z => -9 ≤ z ∧ z + (m86 : Int) = 10 ∧ ∀ j : Nat, (j : Int) < r * 19 + z + 9 → okJ (V 4) j) ?_ 19 (((-9) : Int)) (by (try dsimp only); exact ⟨by omega, by omega, fun j hj => hI54.2.2 j (by omega)⟩) ls (lv_sub hl [2, 3, 1, 0] rfl)
            intro m86 z9 hI86 ih86 ls hl
            obtain ⟨n, rfl⟩ : ∃ y : Int, y = z9 := ⟨_, rfl⟩
            have hl : lv_has ls 4 [(0, .ref mo), (1, .int (iZ r)), (2, .int (iZ 1)), (3, .int (iZ n))] := hl
            have hI86 : -9 ≤ n ∧ n + (m86 : Int) = 10 ∧ ∀ j : Nat, (j : Int) < r * 19 + n + 9 → okJ (V 4) j := hI86
            refine lv_iload_n hx hb dX1_narrow_86 rfl (lv_at hl 3 rfl) ?_
            refine zi_bi hx hb 10 dX1_narrow_87 (by decide) ?_
            refine zi_cge (tgt := 141) hx hb dX1_narrow_89 (by decide) (by omega) (by omega) (fun hc89 => ?_) (fun hc89 => ?_)
            · refine zi_inc (lv' := [(1, .int (iZ (r + 1))), (0, .ref mo), (2, .int (iZ 1)), (3, .int (iZ n))]) hx hb dX1_narrow_141 hl (k := 1) rfl (by decide) rfl (fun ls hl => ?_)
              refine lv_goto (tgt := 54) hx hb dX1_narrow_144 (by decide) ?_
              exact ih54 (m54 - 1) (r + 1) (by omega) (by (try dsimp only); exact ⟨by omega, by omega, fun j hj => hI86.2.2 j (by omega)⟩) ls (lv_sub hl [1, 0] rfl)
            · have hyj : Y 4 (19 * r + n + 9).toNat = nwZ (V 4) (19 * r + n + 9).toNat := hna _ (by omega)
              have hyr := nwZ_rng hW (j := (19 * r + n + 9).toNat) (by omega)
              rw [← hyj] at hyr
              refine lv_aload_n hx hb dX1_narrow_92 rfl (lv_at hl 0 rfl) ?_
              refine va_get (D := D) (ci := 1) (C := RX1) (T := TX1) (N := 8) hx hb hT inX1 hown hK hP 0 rfl rfl 6 (by decide) (hT _ tb_408) (fun _ h9 => h9) rfl dX1_narrow_93 ?_
              refine zi_bi hx hb 19 dX1_narrow_96 (by decide) ?_
              refine lv_iload_n hx hb dX1_narrow_98 rfl (lv_at hl 1 rfl) ?_
              refine zi_mul hx hb dX1_narrow_99 ?_
              refine lv_iload_n hx hb dX1_narrow_100 rfl (lv_at hl 3 rfl) ?_
              refine zi_add hx hb dX1_narrow_101 ?_
              refine zi_bi hx hb 9 dX1_narrow_102 (by decide) ?_
              refine zi_add hx hb dX1_narrow_104 ?_
              refine va_lald hx hb hK hP 5 1 rfl rfl (iZ_in (by omega) (by omega) (by decide)) dX1_narrow_105 ?_
              refine zl_as (a := Y 4 ((((19 * r) + n) + 9).toNat)) (by rw [iZ_cl (by omega) (by omega)]) ?_
              refine zl_const hx hb 0 dX1_narrow_106 (by decide) ?_
              refine zl_ceq (tgt := 135) hx hb dX1_narrow_107 dX1_narrow_108 (by decide) (by omega) (by omega) (fun hc107 => ?_) (fun hc107 => ?_)
              · refine zi_inc (lv' := [(3, .int (iZ (n + 1))), (0, .ref mo), (1, .int (iZ r)), (2, .int (iZ 1))]) hx hb dX1_narrow_135 hl (k := 3) rfl (by decide) rfl (fun ls hl => ?_)
                refine lv_goto (tgt := 86) hx hb dX1_narrow_138 (by decide) ?_
                exact ih86 (m86 - 1) (n + 1) (by omega) (by (try dsimp only); exact ⟨by omega, by omega, ok_ext (by omega) (by omega) hI86.2.2 (by rw [← hyj]; omega)⟩) ls (lv_sub hl [1, 2, 3, 0] rfl)
              · refine lv_iload_n hx hb dX1_narrow_111 rfl (lv_at hl 2 rfl) ?_
                refine zi_feq (tgt := 129) hx hb dX1_narrow_112 (by decide) (by omega) (fun hc112 => ?_) (fun hc112 => ?_)
                · exfalso
                  omega
                · refine lv_iload_n hx hb dX1_narrow_115 rfl (lv_at hl 3 rfl) ?_
                  refine zi_i2l hx hb dX1_narrow_116 (by omega) ?_
                  refine zl_ldc hx hb (-4) hown (hT _ tb_440) (by decide) dX1_narrow_117 ?_
                  refine zl_ldc hx hb 4 hown (hT _ tb_441) (by decide) dX1_narrow_120 ?_
                  refine rd_S (As := [.long (lZ n), .long (lZ (-4)), .long (lZ 4)]) (rest := []) (st1 := [.int (iZ (inZ n (-4) 4))]) S (k_X1_in l n (-4) 4 (by omega) (by omega) (by omega)) tb_437 tb_438 tb_2 tb_439 hd_X1_in ⟨rfl, rfl, by decide, by decide⟩ bl_T (fun _ _ _ => trivial) rfl hl.1 rfl (Nat.le_of_ble_eq_true rfl) dX1_narrow_123 ⟨Nat.zero_le _, Nat.zero_le _⟩ rfl ?_
                  have hi126 := inZ_or n (-4) 4
                  refine zi_fne (tgt := 135) hx hb dX1_narrow_126 (by decide) (by omega) (fun hc126 => ?_) (fun hc126 => ?_)
                  · refine zi_inc (lv' := [(3, .int (iZ (n + 1))), (0, .ref mo), (1, .int (iZ r)), (2, .int (iZ 1))]) hx hb dX1_narrow_135 hl (k := 3) rfl (by decide) rfl (fun ls hl => ?_)
                    refine lv_goto (tgt := 86) hx hb dX1_narrow_138 (by decide) ?_
                    exact ih86 (m86 - 1) (n + 1) (by omega) (by (try dsimp only); exact ⟨by omega, by omega, ok_ext (by omega) (by omega) hI86.2.2 (by rw [← hyj]; omega)⟩) ls (lv_sub hl [1, 2, 3, 0] rfl)
                  · refine lv_aload_n hx hb dX1_narrow_129 rfl (lv_at hl 0 rfl) ?_
                    refine zi_const hx hb 2 dX1_narrow_130 ?_
                    refine wm_V (As := [.int (iZ 2)]) (rest := []) (st1 := [.int (iZ 0)]) (c1 := 2) (k1 := k) S (k_X1_raise l D mo na cI cJ c0 k Y 2 hd ) tb_483 tb_485 ts_X1_raise tb_2 tb_486 hd_X1_raise ⟨rfl, rfl, by decide, by decide⟩ hP hK hS hA hAn rfl hl.1 rfl (Nat.le_of_ble_eq_true rfl) dX1_narrow_131 ⟨Nat.zero_le _, Nat.zero_le _⟩ rfl (fun V10 H locs hRV10 hP hS _ _ => ?_)
                    exact wm_iret hx hb hr hlk hP ((show V10 0 = V 0 from (congrFun hRV10 0).trans (hI2.2.2.2.2 0 (by decide)))) rfl rfl hS (congrArg (fun z => some (Value.int (iZ z))) (show (0 : Int) = 0 from rfl)) dX1_narrow_134
  · have ha1 : Y 4 i.toNat = V 4 i.toNat := by
      rw [hI2.2.2.2.1 _ (by omega), if_neg (by omega)]
    have ha2 : Y 4 (209 + i).toNat = V 4 (209 + i).toNat := by
      rw [hI2.2.2.2.1 _ (by omega), if_neg (by omega)]
    have hw1 := hW i.toNat (by omega)
    have hw2 := hW (209 + i).toNat (by omega)
    refine lv_aload_n hx hb dX1_narrow_8 rfl (lv_at hl 0 rfl) ?_
    refine va_get (D := D) (ci := 1) (C := RX1) (T := TX1) (N := 8) hx hb hT inX1 hown hK hP 0 rfl rfl 6 (by decide) (hT _ tb_408) (fun _ h9 => h9) rfl dX1_narrow_9 ?_
    refine lv_iload_n hx hb dX1_narrow_12 rfl (lv_at hl 1 rfl) ?_
    refine lv_aload_n hx hb dX1_narrow_13 rfl (lv_at hl 0 rfl) ?_
    refine va_get (D := D) (ci := 1) (C := RX1) (T := TX1) (N := 8) hx hb hT inX1 hown hK hP 0 rfl rfl 6 (by decide) (hT _ tb_408) (fun _ h9 => h9) rfl dX1_narrow_14 ?_
    refine lv_iload_n hx hb dX1_narrow_17 rfl (lv_at hl 1 rfl) ?_
    refine va_lald hx hb hK hP 5 1 rfl rfl (iZ_in (by omega) (by omega) (by decide)) dX1_narrow_18 ?_
    refine zl_as (a := Y 4 ((i).toNat)) (by rw [iZ_cl (by omega) (by omega)]) ?_
    refine lv_aload_n hx hb dX1_narrow_19 rfl (lv_at hl 0 rfl) ?_
    refine va_get (D := D) (ci := 1) (C := RX1) (T := TX1) (N := 8) hx hb hT inX1 hown hK hP 0 rfl rfl 6 (by decide) (hT _ tb_408) (fun _ h9 => h9) rfl dX1_narrow_20 ?_
    refine zi_si hx hb 209 dX1_narrow_23 (by decide) ?_
    refine lv_iload_n hx hb dX1_narrow_26 rfl (lv_at hl 1 rfl) ?_
    refine zi_add hx hb dX1_narrow_27 ?_
    refine va_lald hx hb hK hP 5 1 rfl rfl (iZ_in (by omega) (by omega) (by decide)) dX1_narrow_28 ?_
    refine zl_as (a := Y 4 ((209 + i).toNat)) (by rw [iZ_cl (by omega) (by omega)]) ?_
    refine zl_add hx hb dX1_narrow_29 ?_
    refine zl_ldc hx hb 32003 hown (hT _ tb_448) (by decide) dX1_narrow_30 ?_
    refine zl_rem hx hb dX1_narrow_33 (by omega) (by omega) ?_
    have hxx : (Int.tmod ((Y 4 (i).toNat) + (Y 4 (209 + i).toNat)) 32003 : Int) = (V 4 i.toNat + V 4 (209 + i).toNat) % 32003 := by
      rw [ha1, ha2]
      exact tmP (by omega)
    refine mm_l hx hb hK hP hd hA hS 4 304 rfl (fun g => rfl) (by omega) dX1_narrow_34 (fun H locs hP hS => ?_)
    obtain ⟨V11, eV11⟩ : ∃ Z : Nat → Nat → Int, Z = sV Y 4 (uZ (Y 4) (i).toNat (Int.tmod ((Y 4 (i).toNat) + (Y 4 (209 + i).toNat)) 32003)) := ⟨_, rfl⟩
    rw [← eV11] at hP
    refine lv_aload_n hx hb dX1_narrow_35 rfl (lv_at hl 0 rfl) ?_
    refine va_get (D := D) (ci := 1) (C := RX1) (T := TX1) (N := 8) hx hb hT inX1 hown hK hP 0 rfl rfl 6 (by decide) (hT _ tb_408) (fun _ h9 => h9) rfl dX1_narrow_36 ?_
    refine zi_si hx hb 209 dX1_narrow_39 (by decide) ?_
    refine lv_iload_n hx hb dX1_narrow_42 rfl (lv_at hl 1 rfl) ?_
    refine zi_add hx hb dX1_narrow_43 ?_
    refine zl_const hx hb 0 dX1_narrow_44 (by decide) ?_
    refine mm_l hx hb hK hP hd hA hS 4 304 rfl (fun g => rfl) (by omega) dX1_narrow_45 (fun H locs hP hS => ?_)
    obtain ⟨V12, eV12⟩ : ∃ Z : Nat → Nat → Int, Z = sV V11 4 (uZ (V11 4) (209 + i).toNat 0) := ⟨_, rfl⟩
    rw [← eV12] at hP
    refine zi_inc (lv' := [(1, .int (iZ (i + 1))), (0, .ref mo)]) hx hb dX1_narrow_46 hl (k := 1) rfl (by decide) rfl (fun ls hl => ?_)
    refine lv_goto (tgt := 2) hx hb dX1_narrow_49 (by decide) ?_
    exact ih2 (m2 - 1) (V12, i + 1) (by omega) (by (try dsimp only); exact ⟨by omega, by omega, by omega, by rw [eV12, sV_a, eV11, sV_a]; exact nw_step (by omega) hI2.2.2.2.1 hxx, fun b hb9 => by rw [eV12, sV_b hb9, eV11, sV_b hb9]; exact hI2.2.2.2.2 b hb9⟩) _ _ hP hS ls (lv_sub hl [1, 0] rfl)
