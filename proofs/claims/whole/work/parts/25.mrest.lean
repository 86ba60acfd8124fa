theorem pn_at {V : Nat → Nat → Int} {N : Nat → Int} {f a n : Int} (hf : 0 ≤ f ∧ f < 60) (hp : ∀ j : Nat, j < 72 → V 2 j = N ((f * 72).toNat + j)) (ha : 0 ≤ a ∧ a < 8) (hn : -4 ≤ n ∧ n ≤ 4) : V 2 (a * 9 + n + 4).toNat = nuZ N f a n := by
  rw [hp _ (by omega), nu_lin hf ha hn]
theorem se_st {N : Nat → Int} {f a n u e : Int} (hn : -4 ≤ n) (he : e = ePz a) (hu : u = seZ N f a (n + 4).toNat) : (nuZ N f a n - e * u) % 32003 * pwP ((n + 1) % 32003) 32001 % 32003 = seZ N f a (n + 5).toNat := by
  rw [show (n + 5).toNat = (n + 4).toNat + 1 by omega]
  show _ = dvZ (nuZ N f a ((((n + 4).toNat : Nat) : Int) - 4) - ePz a * seZ N f a (n + 4).toNat) ((((n + 4).toNat : Nat) : Int) - 3)
  rw [show (((n + 4).toNat : Nat) : Int) - 4 = n by omega, show (((n + 4).toNat : Nat) : Int) - 3 = n + 1 by omega, hu, he]
  rfl
theorem ex_st {N : Nat → Int} {f a n u e : Int} (hn : n ≤ 4) (he : e = ePz a) (hu : u = exZ N f a (4 - n).toNat) : (nuZ N f a n - (n + 1) * u) % 32003 * pwP (e % 32003) 32001 % 32003 = exZ N f a (5 - n).toNat := by
  rw [← ex_at hn hu, he]
  rfl
theorem up_5 {g h : Nat → Int} {n x : Int} (hn : 0 ≤ n + 3) (h1 : ∀ i : Int, n < i → i ≤ 4 → g (i + 3).toNat = h (5 - i).toNat) (hx : x = h (5 - n).toNat) : ∀ i : Int, n + -1 < i → i ≤ 4 → uZ g (n + 3).toNat x (i + 3).toNat = h (5 - i).toNat := by
  intro i hi h4
  unfold uZ
  by_cases h2 : i = n
  · rw [if_pos (by rw [h2]), hx, h2]
  · rw [if_neg (by omega)]
    exact h1 i (by omega) h4
theorem lo_3 {g h : Nat → Int} {z : Nat} {x : Int} (hz : 3 ≤ z) (h1 : ∀ m : Nat, m < 3 → g m = h m) : ∀ m : Nat, m < 3 → uZ g z x m = h m := by
  intro m hm
  unfold uZ
  rw [if_neg (by omega)]
  exact h1 m hm
theorem se_hi {g h : Nat → Int} {n x : Int} (h1 : ∀ m : Nat, (m : Int) < n + 4 → g m = h (m + 1)) (hn : -4 ≤ n) (hx : x = h (n + 5).toNat) : ∀ m : Nat, (m : Int) < n + 1 + 4 → uZ g (n + 4).toNat x m = h (m + 1) := by
  intro m hm
  unfold uZ
  by_cases h2 : (m : Int) = n + 4
  · rw [if_pos (by omega), hx]
    exact congrArg h (by omega)
  · rw [if_neg (by omega)]
    exact h1 m (by omega)
set_option maxHeartbeats 4000000 in
set_option maxRecDepth 100000 in
theorem k_X1_restOf (l : Launch) (D : va_G) (mo : Nat) (na : Nat → Nat) (cI cJ : ClassId) (c0 k : Int) (V : Nat → Nat → Int) (N : Nat → Int) (f : Int) (a : Int) (hd : dM mo na) (hNr : ∀ j, 0 ≤ N j ∧ N j < 32003) (hf : 0 ≤ f ∧ f < 60) (hp : ∀ j : Nat, j < 72 → V 2 j = N ((f * 72).toNat + j)) (ha : 4 ≤ a ∧ a < 8) : wm_M l yX1_restOf cX1_restOf 6 (some .long) ({ frames := 2, cells := 0, slots := 0, locals := 49 }) [.int (iZ a)] D mo na cI cJ c0 k V (some (.long (lZ (rsZ N f a)))) c0 k (fun Z => (∀ m : Nat, m < 3 → Z 5 m = seZ N f a (m + 1)) ∧ (∀ i : Int, -1 < i → i ≤ 4 → Z 5 (i + 3).toNat = exZ N f a (5 - i).toNat) ∧ ∀ b, b ≠ 5 → Z b = V b) := by
  refine wm_of (by decide) rfl (Nat.le_of_ble_eq_true rfl) ?_
  intro p e s m below meth c A hAe S hr hlk hP hK hA hAn hS ls hl
  obtain ⟨hx, hb, hml, hown, hT⟩ := id S
  have hl : lv_has ls 6 [(0, .ref mo), (1, .int (iZ a))] := hl
  have her := ePz_rng a
  refine lv_iload_n hx hb dX1_restOf_0 rfl (lv_at hl 1 rfl) ?_
  refine rd_S (As := [.int (iZ a)]) (rest := []) (st1 := [.int (iZ (xpZ a))]) S (k_X1_exponent l a (by omega)) tb_491 tb_492 tb_2 tb_493 hd_X1_exponent ⟨rfl, rfl, by decide, by decide⟩ bl_T (fun _ _ _ => trivial) rfl hl.1 rfl (Nat.le_of_ble_eq_true rfl) dX1_restOf_1 ⟨Nat.zero_le _, Nat.zero_le _⟩ rfl ?_
  have hxe4 : xpZ a = (if a < 4 then 0 else if a < 6 then a - 6 else a - 5) := rfl
  refine zi_top (fun v1 ev1 => ?_)
  refine lv_istore_n (lv' := [(2, .int (iZ v1)), (0, .ref mo), (1, .int (iZ a))]) hx hb dX1_restOf_4 rfl hl (by decide) rfl (fun ls hl => ?_)
  have hxe : v1 = ePz a := by
    rw [ev1]
    exact xp_ep (by omega)
  refine zi_const hx hb 0 dX1_restOf_5 ?_
  refine lv_istore_n (lv' := [(3, .int (iZ 0)), (2, .int (iZ v1)), (0, .ref mo), (1, .int (iZ a))]) hx hb dX1_restOf_6 rfl hl (by decide) rfl (fun ls hl => ?_)
  refine lp_goM (nL := 6) (α := (Nat → Nat → Int) × Int) (fun z => [(0, .ref mo), (1, .int (iZ a)), (2, .int (iZ v1)), (3, .int (iZ z.2))]) (fun _ => c0) (fun _ => k) (fun z => z.1) (fun m7 z => 0 ≤ z.2 ∧ z.2 + (m7 : Int) = 10 ∧ ∀ b, b ≠ 5 → z.1 b = V b) ?_ 10 (V, (0 : Int)) (by (try dsimp only); exact ⟨by omega, by omega, fun b _ => rfl⟩) _ _ hP hS ls (lv_sub hl [2, 3, 1, 0] rfl)
  intro m7 z2 hI7 ih7 H locs hP hS ls hl
  obtain ⟨Y, i⟩ := z2
  have hl : lv_has ls 6 [(0, .ref mo), (1, .int (iZ a)), (2, .int (iZ v1)), (3, .int (iZ i))] := hl
  have hI7 : 0 ≤ i ∧ i + (m7 : Int) = 10 ∧ ∀ b, b ≠ 5 → Y b = V b := hI7
  have hP : va_P D vwCl (mX mo na cI cJ c0 k Y) H := hP
  refine lv_iload_n hx hb dX1_restOf_7 rfl (lv_at hl 3 rfl) ?_
  refine zi_bi hx hb 10 dX1_restOf_8 (by decide) ?_
  refine zi_cge (tgt := 26) hx hb dX1_restOf_10 (by decide) (by omega) (by omega) (fun hc10 => ?_) (fun hc10 => ?_)
  · refine zi_bi hx hb (-4) dX1_restOf_26 (by decide) ?_
    refine lv_istore_n (lv' := [(3, .int (iZ (-4))), (0, .ref mo), (1, .int (iZ a)), (2, .int (iZ v1))]) hx hb dX1_restOf_28 rfl hl (by decide) rfl (fun ls hl => ?_)
    refine lp_goM (nL := 6) (α := (Nat → Nat → Int) × Int) (fun z => [(0, .ref mo), (1, .int (iZ a)), (2, .int (iZ v1)), (3, .int (iZ z.2))]) (fun _ => c0) (fun _ => k) (fun z => z.1) (fun m29 z => -4 ≤ z.2 ∧ z.2 + (m29 : Int) = -1 ∧ (∀ m : Nat, (m : Int) < z.2 + 4 → z.1 5 m = seZ N f a (m + 1)) ∧ ∀ b, b ≠ 5 → z.1 b = V b) ?_ 3 (Y, ((-4) : Int)) (by (try dsimp only); exact ⟨by omega, by omega, fun m hm => by omega, hI7.2.2⟩) _ _ hP hS ls (lv_sub hl [1, 2, 3, 0] rfl)
    intro m29 z3 hI29 ih29 H locs hP hS ls hl
    obtain ⟨X, n⟩ := z3
    have hl : lv_has ls 6 [(0, .ref mo), (1, .int (iZ a)), (2, .int (iZ v1)), (3, .int (iZ n))] := hl
    have hI29 : -4 ≤ n ∧ n + (m29 : Int) = -1 ∧ (∀ m : Nat, (m : Int) < n + 4 → X 5 m = seZ N f a (m + 1)) ∧ ∀ b, b ≠ 5 → X b = V b := hI29
    have hP : va_P D vwCl (mX mo na cI cJ c0 k X) H := hP
    refine lv_iload_n hx hb dX1_restOf_29 rfl (lv_at hl 3 rfl) ?_
    refine zi_const hx hb (-1) dX1_restOf_30 ?_
    refine zi_cge (tgt := 99) hx hb dX1_restOf_31 (by decide) (by omega) (by omega) (fun hc31 => ?_) (fun hc31 => ?_)
    · have hpx : X 2 (a * 9 + -1 + 4).toNat = nuZ N f a (-1) := by
        rw [hI29.2.2.2 2 (by decide)]
        exact pn_at hf hp (by omega) (by omega)
      have hq1 := nuZ_rng hNr f a (-1)
      rw [← hpx] at hq1
      have h52 : X 5 (2 : Int).toNat = seZ N f a 3 := hI29.2.2.1 2 (by omega)
      have hur := seZ_rng N f a 3
      rw [← h52] at hur
      have hsm := sm_mul (a := v1) (by omega) hur
      refine lv_aload_n hx hb dX1_restOf_99 rfl (lv_at hl 0 rfl) ?_
      refine va_get (D := D) (ci := 1) (C := RX1) (T := TX1) (N := 8) hx hb hT inX1 hown hK hP 0 rfl rfl 4 (by decide) (hT _ tb_406) (fun _ h9 => h9) rfl dX1_restOf_100 ?_
      refine lv_iload_n hx hb dX1_restOf_103 rfl (lv_at hl 1 rfl) ?_
      refine zi_const hx hb (-1) dX1_restOf_104 ?_
      refine rd_S (As := [.int (iZ a), .int (iZ (-1))]) (rest := [.ref (na 2)]) (st1 := [.int (iZ (a * 9 + (-1) + 4)), .ref (na 2)]) S (k_X1_place l a (-1)) tb_442 tb_443 tb_2 tb_444 hd_X1_place ⟨rfl, rfl, by decide, by decide⟩ bl_T (fun _ _ _ => trivial) rfl hl.1 rfl (Nat.le_of_ble_eq_true rfl) dX1_restOf_105 ⟨Nat.zero_le _, Nat.zero_le _⟩ rfl ?_
      refine va_lald hx hb hK hP 3 1 rfl rfl (iZ_in (by omega) (by omega) (by decide)) dX1_restOf_108 ?_
      refine zl_as (a := X 2 ((a * 9 + (-1) + 4).toNat)) (by rw [iZ_cl (by omega) (by omega)]) ?_
      refine lv_iload_n hx hb dX1_restOf_109 rfl (lv_at hl 2 rfl) ?_
      refine zi_i2l hx hb dX1_restOf_110 (by omega) ?_
      refine lv_aload_n hx hb dX1_restOf_111 rfl (lv_at hl 0 rfl) ?_
      refine va_get (D := D) (ci := 1) (C := RX1) (T := TX1) (N := 8) hx hb hT inX1 hown hK hP 0 rfl rfl 7 (by decide) (hT _ tb_409) (fun _ h9 => h9) rfl dX1_restOf_112 ?_
      refine zi_const hx hb 2 dX1_restOf_115 ?_
      refine va_lald hx hb hK hP 6 1 rfl rfl (iZ_in (by omega) (by omega) (by decide)) dX1_restOf_116 ?_
      refine zl_as (a := X 5 (((2 : Int)).toNat)) (by rw [iZ_cl (by omega) (by omega)]) ?_
      refine zl_mul hx hb dX1_restOf_117 ?_
      refine zl_sub hx hb dX1_restOf_118 ?_
      refine rd_S (As := [.long (lZ ((X 2 (a * 9 + (-1) + 4).toNat) - (v1 * (X 5 ((2 : Int)).toNat))))]) (rest := []) (st1 := [.long (lZ (((X 2 (a * 9 + (-1) + 4).toNat) - (v1 * (X 5 ((2 : Int)).toNat))) % 32003))]) S (k_X1_modulo l ((X 2 (a * 9 + (-1) + 4).toNat) - (v1 * (X 5 ((2 : Int)).toNat))) (by omega)) tb_445 tb_446 tb_2 tb_447 hd_X1_modulo ⟨rfl, rfl, by decide, by decide⟩ bl_T (fun _ _ _ => trivial) rfl hl.1 rfl (Nat.le_of_ble_eq_true rfl) dX1_restOf_119 ⟨Nat.zero_le _, Nat.zero_le _⟩ rfl ?_
      refine zl_top (fun v4 ev4 => ?_)
      refine lv_lstore_n (lv' := [(3, .long (lZ v4)), (0, .ref mo), (1, .int (iZ a)), (2, .int (iZ v1))]) hx hb dX1_restOf_122 rfl hl (by decide) rfl (fun ls hl => ?_)
      refine zi_const hx hb 4 dX1_restOf_123 ?_
      refine lv_istore (lv' := [(5, .int (iZ 4)), (3, .long (lZ v4)), (0, .ref mo), (1, .int (iZ a)), (2, .int (iZ v1))]) hx hb dX1_restOf_124 hl (by decide) rfl (fun ls hl => ?_)
      refine lp_goM (nL := 6) (α := (Nat → Nat → Int) × Int) (fun z => [(0, .ref mo), (1, .int (iZ a)), (2, .int (iZ v1)), (3, .long (lZ v4)), (5, .int (iZ z.2))]) (fun _ => c0) (fun _ => k) (fun z => z.1) (fun m126 z => -1 ≤ z.2 ∧ z.2 + 1 = (m126 : Int) ∧ z.2 ≤ 4 ∧ (∀ i : Int, z.2 < i → i ≤ 4 → z.1 5 (i + 3).toNat = exZ N f a (5 - i).toNat) ∧ (∀ m : Nat, m < 3 → z.1 5 m = seZ N f a (m + 1)) ∧ ∀ b, b ≠ 5 → z.1 b = V b) ?_ 5 (X, (4 : Int)) (by (try dsimp only); exact ⟨by omega, by omega, by omega, fun i h1 h2 => by omega, fun m hm => hI29.2.2.1 m (by omega), hI29.2.2.2⟩) _ _ hP hS ls (lv_sub hl [2, 3, 4, 1, 0] rfl)
      intro m126 z5 hI126 ih126 H locs hP hS ls hl
      obtain ⟨Q, n⟩ := z5
      have hl : lv_has ls 6 [(0, .ref mo), (1, .int (iZ a)), (2, .int (iZ v1)), (3, .long (lZ v4)), (5, .int (iZ n))] := hl
      have hI126 : -1 ≤ n ∧ n + 1 = (m126 : Int) ∧ n ≤ 4 ∧ (∀ i : Int, n < i → i ≤ 4 → Q 5 (i + 3).toNat = exZ N f a (5 - i).toNat) ∧ (∀ m : Nat, m < 3 → Q 5 m = seZ N f a (m + 1)) ∧ ∀ b, b ≠ 5 → Q b = V b := hI126
      have hP : va_P D vwCl (mX mo na cI cJ c0 k Q) H := hP
      refine lv_iload hx hb dX1_restOf_126 (lv_at hl 4 rfl) ?_
      refine zi_flt (tgt := 196) hx hb dX1_restOf_128 (by decide) (by omega) (fun hc128 => ?_) (fun hc128 => ?_)
      · refine lv_lload_n hx hb dX1_restOf_196 rfl (lv_at hl 3 rfl) ?_
        exact wm_lret hx hb hr hlk hP (⟨hI126.2.2.2.2.1, fun i h1 h2 => hI126.2.2.2.1 i (by omega) h2, hI126.2.2.2.2.2⟩) rfl rfl hS (congrArg (fun z => some (Value.long (lZ z))) (show (rsZ N f a : Int) = v4 from by rw [ev4]; unfold rsZ; rw [if_neg (by omega), hpx, h52, hxe])) dX1_restOf_197
      · refine lv_aload_n hx hb dX1_restOf_131 rfl (lv_at hl 0 rfl) ?_
        refine va_get (D := D) (ci := 1) (C := RX1) (T := TX1) (N := 8) hx hb hT inX1 hown hK hP 0 rfl rfl 7 (by decide) (hT _ tb_409) (fun _ h9 => h9) rfl dX1_restOf_132 ?_
        refine lv_iload hx hb dX1_restOf_135 (lv_at hl 4 rfl) ?_
        refine zi_const hx hb 3 dX1_restOf_137 ?_
        refine zi_add hx hb dX1_restOf_138 ?_
        refine lv_aload_n hx hb dX1_restOf_139 rfl (lv_at hl 0 rfl) ?_
        refine va_get (D := D) (ci := 1) (C := RX1) (T := TX1) (N := 8) hx hb hT inX1 hown hK hP 0 rfl rfl 4 (by decide) (hT _ tb_406) (fun _ h9 => h9) rfl dX1_restOf_140 ?_
        refine lv_iload_n hx hb dX1_restOf_143 rfl (lv_at hl 1 rfl) ?_
        refine lv_iload hx hb dX1_restOf_144 (lv_at hl 4 rfl) ?_
        refine rd_S (As := [.int (iZ a), .int (iZ n)]) (rest := [.ref (na 2), .int (iZ (n + 3)), .ref (na 5)]) (st1 := [.int (iZ (a * 9 + n + 4)), .ref (na 2), .int (iZ (n + 3)), .ref (na 5)]) S (k_X1_place l a n) tb_442 tb_443 tb_2 tb_444 hd_X1_place ⟨rfl, rfl, by decide, by decide⟩ bl_T (fun _ _ _ => trivial) rfl hl.1 rfl (Nat.le_of_ble_eq_true rfl) dX1_restOf_146 ⟨Nat.zero_le _, Nat.zero_le _⟩ rfl ?_
        refine va_lald hx hb hK hP 3 1 rfl rfl (iZ_in (by omega) (by omega) (by decide)) dX1_restOf_149 ?_
        refine zl_as (a := Q 2 ((a * 9 + n + 4).toNat)) (by rw [iZ_cl (by omega) (by omega)]) ?_
        refine lv_iload hx hb dX1_restOf_150 (lv_at hl 4 rfl) ?_
        refine zi_const hx hb 1 dX1_restOf_152 ?_
        refine zi_add hx hb dX1_restOf_153 ?_
        refine zi_i2l hx hb dX1_restOf_154 (by omega) ?_
        refine lv_iload hx hb dX1_restOf_155 (lv_at hl 4 rfl) ?_
        refine zi_const hx hb 4 dX1_restOf_157 ?_
        refine zi_cge (tgt := 173) hx hb dX1_restOf_158 (by decide) (by omega) (by omega) (fun hc158 => ?_) (fun hc158 => ?_)
        · refine zl_const hx hb 0 dX1_restOf_173 (by decide) ?_
          refine zl_top (fun u6 eu6 => ?_)
          have hu : u6 = exZ N f a (4 - n).toNat := by
            rw [eu6]
            first
              | (rw [show (4 - n).toNat = 0 by omega]; rfl)
              | (rw [show n + 4 = n + 1 + 3 by omega, hI126.2.2.2.1 (n + 1) (by omega) (by omega)]; exact congrArg _ (by omega))
          have hur := exZ_rng N f a (4 - n).toNat
          rw [← hu] at hur
          have hsm := sm_mul (a := n + 1) (by omega) hur
          have hpx : Q 2 (a * 9 + n + 4).toNat = nuZ N f a n := by
            rw [hI126.2.2.2.2.2 2 (by decide)]
            exact pn_at hf hp (by omega) (by omega)
          have hq1 := nuZ_rng hNr f a n
          rw [← hpx] at hq1
          have hiv := pwP_rng (v1 % 32003) 32001
          have hpr := mul_rng (a := (Q 2 (a * 9 + n + 4).toNat - (n + 1) * u6) % 32003) (by omega) hiv
          refine zl_mul hx hb dX1_restOf_174 ?_
          refine zl_sub hx hb dX1_restOf_175 ?_
          refine rd_S (As := [.long (lZ ((Q 2 (a * 9 + n + 4).toNat) - ((n + 1) * u6)))]) (rest := [.int (iZ (n + 3)), .ref (na 5)]) (st1 := [.long (lZ (((Q 2 (a * 9 + n + 4).toNat) - ((n + 1) * u6)) % 32003)), .int (iZ (n + 3)), .ref (na 5)]) S (k_X1_modulo l ((Q 2 (a * 9 + n + 4).toNat) - ((n + 1) * u6)) (by omega)) tb_445 tb_446 tb_2 tb_447 hd_X1_modulo ⟨rfl, rfl, by decide, by decide⟩ bl_T (fun _ _ _ => trivial) rfl hl.1 rfl (Nat.le_of_ble_eq_true rfl) dX1_restOf_176 ⟨Nat.zero_le _, Nat.zero_le _⟩ rfl ?_
          refine lv_iload_n hx hb dX1_restOf_179 rfl (lv_at hl 2 rfl) ?_
          refine zi_i2l hx hb dX1_restOf_180 (by omega) ?_
          refine rd_S (As := [.long (lZ v1)]) (rest := [.long (lZ (((Q 2 (a * 9 + n + 4).toNat) - ((n + 1) * u6)) % 32003)), .int (iZ (n + 3)), .ref (na 5)]) (st1 := [.long (lZ (pwP (v1 % 32003) 32001)), .long (lZ (((Q 2 (a * 9 + n + 4).toNat) - ((n + 1) * u6)) % 32003)), .int (iZ (n + 3)), .ref (na 5)]) S (k_X1_inverse l v1 (by omega)) tb_513 tb_514 tb_2 tb_515 hd_X1_inverse ⟨rfl, rfl, by decide, by decide⟩ bl_T (fun _ _ _ => trivial) rfl hl.1 rfl (Nat.le_of_ble_eq_true rfl) dX1_restOf_181 ⟨Nat.zero_le _, Nat.zero_le _⟩ rfl ?_
          have hip184 := pwP_rng (v1 % 32003) 32001
          refine zl_mul hx hb dX1_restOf_184 ?_
          refine zl_ldc hx hb 32003 hown (hT _ tb_448) (by decide) dX1_restOf_185 ?_
          refine zl_rem hx hb dX1_restOf_188 (by omega) (by omega) ?_
          have hst : (Int.tmod ((((Q 2 (a * 9 + n + 4).toNat) - ((n + 1) * u6)) % 32003) * (pwP (v1 % 32003) 32001)) 32003 : Int) = exZ N f a (5 - n).toNat := by
            rw [tmP (by omega), hpx]
            exact ex_st (by omega) hxe hu
          refine mm_l hx hb hK hP hd hA hS 5 10 rfl (fun g => rfl) (by omega) dX1_restOf_189 (fun H locs hP hS => ?_)
          obtain ⟨V7, eV7⟩ : ∃ Z : Nat → Nat → Int, Z = sV Q 5 (uZ (Q 5) (n + 3).toNat (Int.tmod ((((Q 2 (a * 9 + n + 4).toNat) - ((n + 1) * u6)) % 32003) * (pwP (v1 % 32003) 32001)) 32003)) := ⟨_, rfl⟩
          rw [← eV7] at hP
          refine zi_inc (lv' := [(5, .int (iZ (n + (-1)))), (0, .ref mo), (1, .int (iZ a)), (2, .int (iZ v1)), (3, .long (lZ v4))]) hx hb dX1_restOf_190 hl (k := 4) rfl (by decide) rfl (fun ls hl => ?_)
          refine lv_goto (tgt := 126) hx hb dX1_restOf_193 (by decide) ?_
          exact ih126 (m126 - 1) (V7, n + (-1)) (by omega) (by (try dsimp only); exact ⟨by omega, by omega, by omega, by rw [eV7, sV_a]; exact up_5 (by omega) hI126.2.2.2.1 hst, by rw [eV7, sV_a]; exact lo_3 (h := fun m => seZ N f a (m + 1)) (by omega) hI126.2.2.2.2.1, fun b hb9 => by rw [eV7, sV_b hb9]; exact hI126.2.2.2.2.2 b hb9⟩) _ _ hP hS ls (lv_sub hl [1, 2, 3, 4, 0] rfl)
        · refine lv_aload_n hx hb dX1_restOf_161 rfl (lv_at hl 0 rfl) ?_
          refine va_get (D := D) (ci := 1) (C := RX1) (T := TX1) (N := 8) hx hb hT inX1 hown hK hP 0 rfl rfl 7 (by decide) (hT _ tb_409) (fun _ h9 => h9) rfl dX1_restOf_162 ?_
          refine lv_iload hx hb dX1_restOf_165 (lv_at hl 4 rfl) ?_
          refine zi_const hx hb 4 dX1_restOf_167 ?_
          refine zi_add hx hb dX1_restOf_168 ?_
          refine va_lald hx hb hK hP 6 1 rfl rfl (iZ_in (by omega) (by omega) (by decide)) dX1_restOf_169 ?_
          refine zl_as (a := Q 5 ((n + 4).toNat)) (by rw [iZ_cl (by omega) (by omega)]) ?_
          refine lv_goto (tgt := 174) hx hb dX1_restOf_170 (by decide) ?_
          refine zl_top (fun u8 eu8 => ?_)
          have hu : u8 = exZ N f a (4 - n).toNat := by
            rw [eu8]
            first
              | (rw [show (4 - n).toNat = 0 by omega]; rfl)
              | (rw [show n + 4 = n + 1 + 3 by omega, hI126.2.2.2.1 (n + 1) (by omega) (by omega)]; exact congrArg _ (by omega))
          have hur := exZ_rng N f a (4 - n).toNat
          rw [← hu] at hur
          have hsm := sm_mul (a := n + 1) (by omega) hur
          have hpx : Q 2 (a * 9 + n + 4).toNat = nuZ N f a n := by
            rw [hI126.2.2.2.2.2 2 (by decide)]
            exact pn_at hf hp (by omega) (by omega)
          have hq1 := nuZ_rng hNr f a n
          rw [← hpx] at hq1
          have hiv := pwP_rng (v1 % 32003) 32001
          have hpr := mul_rng (a := (Q 2 (a * 9 + n + 4).toNat - (n + 1) * u8) % 32003) (by omega) hiv
          refine zl_mul hx hb dX1_restOf_174 ?_
          refine zl_sub hx hb dX1_restOf_175 ?_
          refine rd_S (As := [.long (lZ ((Q 2 (a * 9 + n + 4).toNat) - ((n + 1) * u8)))]) (rest := [.int (iZ (n + 3)), .ref (na 5)]) (st1 := [.long (lZ (((Q 2 (a * 9 + n + 4).toNat) - ((n + 1) * u8)) % 32003)), .int (iZ (n + 3)), .ref (na 5)]) S (k_X1_modulo l ((Q 2 (a * 9 + n + 4).toNat) - ((n + 1) * u8)) (by omega)) tb_445 tb_446 tb_2 tb_447 hd_X1_modulo ⟨rfl, rfl, by decide, by decide⟩ bl_T (fun _ _ _ => trivial) rfl hl.1 rfl (Nat.le_of_ble_eq_true rfl) dX1_restOf_176 ⟨Nat.zero_le _, Nat.zero_le _⟩ rfl ?_
          refine lv_iload_n hx hb dX1_restOf_179 rfl (lv_at hl 2 rfl) ?_
          refine zi_i2l hx hb dX1_restOf_180 (by omega) ?_
          refine rd_S (As := [.long (lZ v1)]) (rest := [.long (lZ (((Q 2 (a * 9 + n + 4).toNat) - ((n + 1) * u8)) % 32003)), .int (iZ (n + 3)), .ref (na 5)]) (st1 := [.long (lZ (pwP (v1 % 32003) 32001)), .long (lZ (((Q 2 (a * 9 + n + 4).toNat) - ((n + 1) * u8)) % 32003)), .int (iZ (n + 3)), .ref (na 5)]) S (k_X1_inverse l v1 (by omega)) tb_513 tb_514 tb_2 tb_515 hd_X1_inverse ⟨rfl, rfl, by decide, by decide⟩ bl_T (fun _ _ _ => trivial) rfl hl.1 rfl (Nat.le_of_ble_eq_true rfl) dX1_restOf_181 ⟨Nat.zero_le _, Nat.zero_le _⟩ rfl ?_
          have hip184 := pwP_rng (v1 % 32003) 32001
          refine zl_mul hx hb dX1_restOf_184 ?_
          refine zl_ldc hx hb 32003 hown (hT _ tb_448) (by decide) dX1_restOf_185 ?_
          refine zl_rem hx hb dX1_restOf_188 (by omega) (by omega) ?_
          have hst : (Int.tmod ((((Q 2 (a * 9 + n + 4).toNat) - ((n + 1) * u8)) % 32003) * (pwP (v1 % 32003) 32001)) 32003 : Int) = exZ N f a (5 - n).toNat := by
            rw [tmP (by omega), hpx]
            exact ex_st (by omega) hxe hu
          refine mm_l hx hb hK hP hd hA hS 5 10 rfl (fun g => rfl) (by omega) dX1_restOf_189 (fun H locs hP hS => ?_)
          obtain ⟨V9, eV9⟩ : ∃ Z : Nat → Nat → Int, Z = sV Q 5 (uZ (Q 5) (n + 3).toNat (Int.tmod ((((Q 2 (a * 9 + n + 4).toNat) - ((n + 1) * u8)) % 32003) * (pwP (v1 % 32003) 32001)) 32003)) := ⟨_, rfl⟩
          rw [← eV9] at hP
          refine zi_inc (lv' := [(5, .int (iZ (n + (-1)))), (0, .ref mo), (1, .int (iZ a)), (2, .int (iZ v1)), (3, .long (lZ v4))]) hx hb dX1_restOf_190 hl (k := 4) rfl (by decide) rfl (fun ls hl => ?_)
          refine lv_goto (tgt := 126) hx hb dX1_restOf_193 (by decide) ?_
          exact ih126 (m126 - 1) (V9, n + (-1)) (by omega) (by (try dsimp only); exact ⟨by omega, by omega, by omega, by rw [eV9, sV_a]; exact up_5 (by omega) hI126.2.2.2.1 hst, by rw [eV9, sV_a]; exact lo_3 (h := fun m => seZ N f a (m + 1)) (by omega) hI126.2.2.2.2.1, fun b hb9 => by rw [eV9, sV_b hb9]; exact hI126.2.2.2.2.2 b hb9⟩) _ _ hP hS ls (lv_sub hl [1, 2, 3, 4, 0] rfl)
    · refine lv_iload_n hx hb dX1_restOf_34 rfl (lv_at hl 3 rfl) ?_
      refine zi_bi hx hb (-4) dX1_restOf_35 (by decide) ?_
      refine zi_cle (tgt := 51) hx hb dX1_restOf_37 (by decide) (by omega) (by omega) (fun hc37 => ?_) (fun hc37 => ?_)
      · refine zl_const hx hb 0 dX1_restOf_51 (by decide) ?_
        refine zl_top (fun u10 eu10 => ?_)
        refine lv_lstore (lv' := [(4, .long (lZ u10)), (0, .ref mo), (1, .int (iZ a)), (2, .int (iZ v1)), (3, .int (iZ n))]) hx hb dX1_restOf_52 hl (by decide) rfl (fun ls hl => ?_)
        have hu : u10 = seZ N f a (n + 4).toNat := by
          rw [eu10]
          first
            | (rw [show (n + 4).toNat = 0 by omega]; rfl)
            | (rw [hI29.2.2.1 (n + 3).toNat (by omega)]; exact congrArg _ (by omega))
        have hur := seZ_rng N f a (n + 4).toNat
        rw [← hu] at hur
        have hsm := sm_mul (a := v1) (by omega) hur
        have hpx : X 2 (a * 9 + n + 4).toNat = nuZ N f a n := by
          rw [hI29.2.2.2 2 (by decide)]
          exact pn_at hf hp (by omega) (by omega)
        have hq1 := nuZ_rng hNr f a n
        rw [← hpx] at hq1
        have hiv := pwP_rng ((n + 1) % 32003) 32001
        have hpr := mul_rng (a := (X 2 (a * 9 + n + 4).toNat - v1 * u10) % 32003) (by omega) hiv
        refine lv_aload_n hx hb dX1_restOf_54 rfl (lv_at hl 1 rfl) ?_
        refine va_get (D := D) (ci := 1) (C := RX1) (T := TX1) (N := 8) hx hb hT inX1 hown hK hP 0 rfl rfl 7 (by decide) (hT _ tb_409) (fun _ h9 => h9) rfl dX1_restOf_55 ?_
        refine lv_iload_n hx hb dX1_restOf_58 rfl (lv_at hl 4 rfl) ?_
        refine zi_const hx hb 4 dX1_restOf_59 ?_
        refine zi_add hx hb dX1_restOf_60 ?_
        refine lv_aload_n hx hb dX1_restOf_61 rfl (lv_at hl 1 rfl) ?_
        refine va_get (D := D) (ci := 1) (C := RX1) (T := TX1) (N := 8) hx hb hT inX1 hown hK hP 0 rfl rfl 4 (by decide) (hT _ tb_406) (fun _ h9 => h9) rfl dX1_restOf_62 ?_
        refine lv_iload_n hx hb dX1_restOf_65 rfl (lv_at hl 2 rfl) ?_
        refine lv_iload_n hx hb dX1_restOf_66 rfl (lv_at hl 4 rfl) ?_
        refine rd_S (As := [.int (iZ a), .int (iZ n)]) (rest := [.ref (na 2), .int (iZ (n + 4)), .ref (na 5)]) (st1 := [.int (iZ (a * 9 + n + 4)), .ref (na 2), .int (iZ (n + 4)), .ref (na 5)]) S (k_X1_place l a n) tb_442 tb_443 tb_2 tb_444 hd_X1_place ⟨rfl, rfl, by decide, by decide⟩ bl_T (fun _ _ _ => trivial) rfl hl.1 rfl (Nat.le_of_ble_eq_true rfl) dX1_restOf_67 ⟨Nat.zero_le _, Nat.zero_le _⟩ rfl ?_
        refine va_lald hx hb hK hP 3 1 rfl rfl (iZ_in (by omega) (by omega) (by decide)) dX1_restOf_70 ?_
        refine zl_as (a := X 2 ((a * 9 + n + 4).toNat)) (by rw [iZ_cl (by omega) (by omega)]) ?_
        refine lv_iload_n hx hb dX1_restOf_71 rfl (lv_at hl 3 rfl) ?_
        refine zi_i2l hx hb dX1_restOf_72 (by omega) ?_
        refine lv_lload hx hb dX1_restOf_73 (lv_at hl 0 rfl) ?_
        refine zl_mul hx hb dX1_restOf_75 ?_
        refine zl_sub hx hb dX1_restOf_76 ?_
        refine rd_S (As := [.long (lZ ((X 2 (a * 9 + n + 4).toNat) - (v1 * u10)))]) (rest := [.int (iZ (n + 4)), .ref (na 5)]) (st1 := [.long (lZ (((X 2 (a * 9 + n + 4).toNat) - (v1 * u10)) % 32003)), .int (iZ (n + 4)), .ref (na 5)]) S (k_X1_modulo l ((X 2 (a * 9 + n + 4).toNat) - (v1 * u10)) (by omega)) tb_445 tb_446 tb_2 tb_447 hd_X1_modulo ⟨rfl, rfl, by decide, by decide⟩ bl_T (fun _ _ _ => trivial) rfl hl.1 rfl (Nat.le_of_ble_eq_true rfl) dX1_restOf_77 ⟨Nat.zero_le _, Nat.zero_le _⟩ rfl ?_
        refine lv_iload_n hx hb dX1_restOf_80 rfl (lv_at hl 4 rfl) ?_
        refine zi_const hx hb 1 dX1_restOf_81 ?_
        refine zi_add hx hb dX1_restOf_82 ?_
        refine zi_i2l hx hb dX1_restOf_83 (by omega) ?_
        refine rd_S (As := [.long (lZ (n + 1))]) (rest := [.long (lZ (((X 2 (a * 9 + n + 4).toNat) - (v1 * u10)) % 32003)), .int (iZ (n + 4)), .ref (na 5)]) (st1 := [.long (lZ (pwP ((n + 1) % 32003) 32001)), .long (lZ (((X 2 (a * 9 + n + 4).toNat) - (v1 * u10)) % 32003)), .int (iZ (n + 4)), .ref (na 5)]) S (k_X1_inverse l (n + 1) (by omega)) tb_513 tb_514 tb_2 tb_515 hd_X1_inverse ⟨rfl, rfl, by decide, by decide⟩ bl_T (fun _ _ _ => trivial) rfl hl.1 rfl (Nat.le_of_ble_eq_true rfl) dX1_restOf_84 ⟨Nat.zero_le _, Nat.zero_le _⟩ rfl ?_
        have hip87 := pwP_rng ((n + 1) % 32003) 32001
        refine zl_mul hx hb dX1_restOf_87 ?_
        refine zl_ldc hx hb 32003 hown (hT _ tb_448) (by decide) dX1_restOf_88 ?_
        refine zl_rem hx hb dX1_restOf_91 (by omega) (by omega) ?_
        have hst : (Int.tmod ((((X 2 (a * 9 + n + 4).toNat) - (v1 * u10)) % 32003) * (pwP ((n + 1) % 32003) 32001)) 32003 : Int) = seZ N f a (n + 5).toNat := by
          rw [tmP (by omega), hpx]
          exact se_st (by omega) hxe hu
        refine mm_l hx hb hK hP hd hA hS 5 10 rfl (fun g => rfl) (by omega) dX1_restOf_92 (fun H locs hP hS => ?_)
        obtain ⟨V11, eV11⟩ : ∃ Z : Nat → Nat → Int, Z = sV X 5 (uZ (X 5) (n + 4).toNat (Int.tmod ((((X 2 (a * 9 + n + 4).toNat) - (v1 * u10)) % 32003) * (pwP ((n + 1) % 32003) 32001)) 32003)) := ⟨_, rfl⟩
        rw [← eV11] at hP
        refine zi_inc (lv' := [(3, .int (iZ (n + 1))), (4, .long (lZ u10)), (0, .ref mo), (1, .int (iZ a)), (2, .int (iZ v1))]) hx hb dX1_restOf_93 hl (k := 4) rfl (by decide) rfl (fun ls hl => ?_)
        refine lv_goto (tgt := 29) hx hb dX1_restOf_96 (by decide) ?_
        exact ih29 (m29 - 1) (V11, n + 1) (by omega) (by (try dsimp only); exact ⟨by omega, by omega, by rw [eV11, sV_a]; exact se_hi hI29.2.2.1 (by omega) hst, fun b hb9 => by rw [eV11, sV_b hb9]; exact hI29.2.2.2 b hb9⟩) _ _ hP hS ls (lv_sub hl [2, 3, 4, 0] rfl)
      · refine lv_aload_n hx hb dX1_restOf_40 rfl (lv_at hl 0 rfl) ?_
        refine va_get (D := D) (ci := 1) (C := RX1) (T := TX1) (N := 8) hx hb hT inX1 hown hK hP 0 rfl rfl 7 (by decide) (hT _ tb_409) (fun _ h9 => h9) rfl dX1_restOf_41 ?_
        refine lv_iload_n hx hb dX1_restOf_44 rfl (lv_at hl 3 rfl) ?_
        refine zi_const hx hb 3 dX1_restOf_45 ?_
        refine zi_add hx hb dX1_restOf_46 ?_
        refine va_lald hx hb hK hP 6 1 rfl rfl (iZ_in (by omega) (by omega) (by decide)) dX1_restOf_47 ?_
        refine zl_as (a := X 5 ((n + 3).toNat)) (by rw [iZ_cl (by omega) (by omega)]) ?_
        refine lv_goto (tgt := 52) hx hb dX1_restOf_48 (by decide) ?_
        refine zl_top (fun u12 eu12 => ?_)
        refine lv_lstore (lv' := [(4, .long (lZ u12)), (0, .ref mo), (1, .int (iZ a)), (2, .int (iZ v1)), (3, .int (iZ n))]) hx hb dX1_restOf_52 hl (by decide) rfl (fun ls hl => ?_)
        have hu : u12 = seZ N f a (n + 4).toNat := by
          rw [eu12]
          first
            | (rw [show (n + 4).toNat = 0 by omega]; rfl)
            | (rw [hI29.2.2.1 (n + 3).toNat (by omega)]; exact congrArg _ (by omega))
        have hur := seZ_rng N f a (n + 4).toNat
        rw [← hu] at hur
        have hsm := sm_mul (a := v1) (by omega) hur
        have hpx : X 2 (a * 9 + n + 4).toNat = nuZ N f a n := by
          rw [hI29.2.2.2 2 (by decide)]
          exact pn_at hf hp (by omega) (by omega)
        have hq1 := nuZ_rng hNr f a n
        rw [← hpx] at hq1
        have hiv := pwP_rng ((n + 1) % 32003) 32001
        have hpr := mul_rng (a := (X 2 (a * 9 + n + 4).toNat - v1 * u12) % 32003) (by omega) hiv
        refine lv_aload_n hx hb dX1_restOf_54 rfl (lv_at hl 1 rfl) ?_
        refine va_get (D := D) (ci := 1) (C := RX1) (T := TX1) (N := 8) hx hb hT inX1 hown hK hP 0 rfl rfl 7 (by decide) (hT _ tb_409) (fun _ h9 => h9) rfl dX1_restOf_55 ?_
        refine lv_iload_n hx hb dX1_restOf_58 rfl (lv_at hl 4 rfl) ?_
        refine zi_const hx hb 4 dX1_restOf_59 ?_
        refine zi_add hx hb dX1_restOf_60 ?_
        refine lv_aload_n hx hb dX1_restOf_61 rfl (lv_at hl 1 rfl) ?_
        refine va_get (D := D) (ci := 1) (C := RX1) (T := TX1) (N := 8) hx hb hT inX1 hown hK hP 0 rfl rfl 4 (by decide) (hT _ tb_406) (fun _ h9 => h9) rfl dX1_restOf_62 ?_
        refine lv_iload_n hx hb dX1_restOf_65 rfl (lv_at hl 2 rfl) ?_
        refine lv_iload_n hx hb dX1_restOf_66 rfl (lv_at hl 4 rfl) ?_
        refine rd_S (As := [.int (iZ a), .int (iZ n)]) (rest := [.ref (na 2), .int (iZ (n + 4)), .ref (na 5)]) (st1 := [.int (iZ (a * 9 + n + 4)), .ref (na 2), .int (iZ (n + 4)), .ref (na 5)]) S (k_X1_place l a n) tb_442 tb_443 tb_2 tb_444 hd_X1_place ⟨rfl, rfl, by decide, by decide⟩ bl_T (fun _ _ _ => trivial) rfl hl.1 rfl (Nat.le_of_ble_eq_true rfl) dX1_restOf_67 ⟨Nat.zero_le _, Nat.zero_le _⟩ rfl ?_
        refine va_lald hx hb hK hP 3 1 rfl rfl (iZ_in (by omega) (by omega) (by decide)) dX1_restOf_70 ?_
        refine zl_as (a := X 2 ((a * 9 + n + 4).toNat)) (by rw [iZ_cl (by omega) (by omega)]) ?_
        refine lv_iload_n hx hb dX1_restOf_71 rfl (lv_at hl 3 rfl) ?_
        refine zi_i2l hx hb dX1_restOf_72 (by omega) ?_
        refine lv_lload hx hb dX1_restOf_73 (lv_at hl 0 rfl) ?_
        refine zl_mul hx hb dX1_restOf_75 ?_
        refine zl_sub hx hb dX1_restOf_76 ?_
        refine rd_S (As := [.long (lZ ((X 2 (a * 9 + n + 4).toNat) - (v1 * u12)))]) (rest := [.int (iZ (n + 4)), .ref (na 5)]) (st1 := [.long (lZ (((X 2 (a * 9 + n + 4).toNat) - (v1 * u12)) % 32003)), .int (iZ (n + 4)), .ref (na 5)]) S (k_X1_modulo l ((X 2 (a * 9 + n + 4).toNat) - (v1 * u12)) (by omega)) tb_445 tb_446 tb_2 tb_447 hd_X1_modulo ⟨rfl, rfl, by decide, by decide⟩ bl_T (fun _ _ _ => trivial) rfl hl.1 rfl (Nat.le_of_ble_eq_true rfl) dX1_restOf_77 ⟨Nat.zero_le _, Nat.zero_le _⟩ rfl ?_
        refine lv_iload_n hx hb dX1_restOf_80 rfl (lv_at hl 4 rfl) ?_
        refine zi_const hx hb 1 dX1_restOf_81 ?_
        refine zi_add hx hb dX1_restOf_82 ?_
        refine zi_i2l hx hb dX1_restOf_83 (by omega) ?_
        refine rd_S (As := [.long (lZ (n + 1))]) (rest := [.long (lZ (((X 2 (a * 9 + n + 4).toNat) - (v1 * u12)) % 32003)), .int (iZ (n + 4)), .ref (na 5)]) (st1 := [.long (lZ (pwP ((n + 1) % 32003) 32001)), .long (lZ (((X 2 (a * 9 + n + 4).toNat) - (v1 * u12)) % 32003)), .int (iZ (n + 4)), .ref (na 5)]) S (k_X1_inverse l (n + 1) (by omega)) tb_513 tb_514 tb_2 tb_515 hd_X1_inverse ⟨rfl, rfl, by decide, by decide⟩ bl_T (fun _ _ _ => trivial) rfl hl.1 rfl (Nat.le_of_ble_eq_true rfl) dX1_restOf_84 ⟨Nat.zero_le _, Nat.zero_le _⟩ rfl ?_
        have hip87 := pwP_rng ((n + 1) % 32003) 32001
        refine zl_mul hx hb dX1_restOf_87 ?_
        refine zl_ldc hx hb 32003 hown (hT _ tb_448) (by decide) dX1_restOf_88 ?_
        refine zl_rem hx hb dX1_restOf_91 (by omega) (by omega) ?_
        have hst : (Int.tmod ((((X 2 (a * 9 + n + 4).toNat) - (v1 * u12)) % 32003) * (pwP ((n + 1) % 32003) 32001)) 32003 : Int) = seZ N f a (n + 5).toNat := by
          rw [tmP (by omega), hpx]
          exact se_st (by omega) hxe hu
        refine mm_l hx hb hK hP hd hA hS 5 10 rfl (fun g => rfl) (by omega) dX1_restOf_92 (fun H locs hP hS => ?_)
        obtain ⟨V13, eV13⟩ : ∃ Z : Nat → Nat → Int, Z = sV X 5 (uZ (X 5) (n + 4).toNat (Int.tmod ((((X 2 (a * 9 + n + 4).toNat) - (v1 * u12)) % 32003) * (pwP ((n + 1) % 32003) 32001)) 32003)) := ⟨_, rfl⟩
        rw [← eV13] at hP
        refine zi_inc (lv' := [(3, .int (iZ (n + 1))), (4, .long (lZ u12)), (0, .ref mo), (1, .int (iZ a)), (2, .int (iZ v1))]) hx hb dX1_restOf_93 hl (k := 4) rfl (by decide) rfl (fun ls hl => ?_)
        refine lv_goto (tgt := 29) hx hb dX1_restOf_96 (by decide) ?_
        exact ih29 (m29 - 1) (V13, n + 1) (by omega) (by (try dsimp only); exact ⟨by omega, by omega, by rw [eV13, sV_a]; exact se_hi hI29.2.2.1 (by omega) hst, fun b hb9 => by rw [eV13, sV_b hb9]; exact hI29.2.2.2 b hb9⟩) _ _ hP hS ls (lv_sub hl [2, 3, 4, 0] rfl)
  · refine lv_aload_n hx hb dX1_restOf_13 rfl (lv_at hl 0 rfl) ?_
    refine va_get (D := D) (ci := 1) (C := RX1) (T := TX1) (N := 8) hx hb hT inX1 hown hK hP 0 rfl rfl 7 (by decide) (hT _ tb_409) (fun _ h9 => h9) rfl dX1_restOf_14 ?_
    refine lv_iload_n hx hb dX1_restOf_17 rfl (lv_at hl 3 rfl) ?_
    refine zl_const hx hb 0 dX1_restOf_18 (by decide) ?_
    refine mm_l hx hb hK hP hd hA hS 5 10 rfl (fun g => rfl) (by omega) dX1_restOf_19 (fun H locs hP hS => ?_)
    obtain ⟨V14, eV14⟩ : ∃ Z : Nat → Nat → Int, Z = sV Y 5 (uZ (Y 5) (i).toNat 0) := ⟨_, rfl⟩
    rw [← eV14] at hP
    refine zi_inc (lv' := [(3, .int (iZ (i + 1))), (0, .ref mo), (1, .int (iZ a)), (2, .int (iZ v1))]) hx hb dX1_restOf_20 hl (k := 3) rfl (by decide) rfl (fun ls hl => ?_)
    refine lv_goto (tgt := 7) hx hb dX1_restOf_23 (by decide) ?_
    exact ih7 (m7 - 1) (V14, i + 1) (by omega) (by (try dsimp only); exact ⟨by omega, by omega, fun b hb9 => by rw [eV14, sV_b hb9]; exact hI7.2.2 b hb9⟩) _ _ hP hS ls (lv_sub hl [1, 2, 3, 0] rfl)
set_option maxHeartbeats 4000000 in
set_option maxRecDepth 100000 in
theorem k_X1_rest (l : Launch) (D : va_G) (mo : Nat) (na : Nat → Nat) (cI cJ : ClassId) (c0 k : Int) (V : Nat → Nat → Int) (f a : Int) (hd : dM mo na) (hN : ∀ j, 0 ≤ V 0 j ∧ V 0 j < 32003) (hk : 0 ≤ k ∧ k ≤ 60) (hf : 0 ≤ f ∧ f < k) (ha : 0 ≤ a ∧ a < 8) : wm_M l yX1_rest cX1_rest 3 (some .int) ({ frames := 3, cells := 0, slots := 0, locals := 74 }) [.int (iZ f), .int (iZ a)] D mo na cI cJ c0 k V (some (.int (iZ (rsZ (V 0) f a)))) 0 k (fun Z => Z 0 = V 0) := by
  refine wm_of (by decide) rfl (Nat.le_of_ble_eq_true rfl) ?_
  intro p e s m below meth c A hAe S hr hlk hP hK hA hAn hS ls hl
  obtain ⟨hx, hb, hml, hown, hT⟩ := id S
  have hl : lv_has ls 3 [(0, .ref mo), (1, .int (iZ f)), (2, .int (iZ a))] := hl
  refine lv_aload_n hx hb dX1_rest_0 rfl (lv_at hl 0 rfl) ?_
  refine lv_aload_n hx hb dX1_rest_1 rfl (lv_at hl 0 rfl) ?_
  refine lv_iload_n hx hb dX1_rest_2 rfl (lv_at hl 1 rfl) ?_
  refine rd_V (As := [.int (iZ f)]) (rest := [.ref mo]) (st1 := [.int (iZ (inZ f 0 (k - 1))), .ref mo]) S (k_X1_isThere l D mo na cI cJ c0 k V f (by omega) (by omega)) tb_466 tb_468 ts_X1_isThere tb_2 tb_469 hd_X1_isThere ⟨rfl, rfl, by decide, by decide⟩ rM_bl (rM_mv hP hK) (va_recv hK hP (ci := 1) (q0 := 0) rfl rfl) rfl hl.1 rfl (Nat.le_of_ble_eq_true rfl) dX1_rest_3 ⟨Nat.zero_le _, Nat.zero_le _⟩ rfl ?_
  have hi6 := inZ_or f 0 (k - 1)
  refine zi_fne (tgt := 13) hx hb dX1_rest_6 (by decide) (by omega) (fun hc6 => ?_) (fun hc6 => ?_)
  · refine lv_iload_n hx hb dX1_rest_13 rfl (lv_at hl 2 rfl) ?_
    refine zi_i2l hx hb dX1_rest_14 (by omega) ?_
    refine zl_const hx hb 0 dX1_rest_15 (by decide) ?_
    refine zl_ldc hx hb 7 hown (hT _ tb_436) (by decide) dX1_rest_16 ?_
    refine rd_S (As := [.long (lZ a), .long (lZ 0), .long (lZ 7)]) (rest := [.ref mo]) (st1 := [.int (iZ (inZ a 0 7)), .ref mo]) S (k_X1_in l a 0 7 (by omega) (by omega) (by omega)) tb_437 tb_438 tb_2 tb_439 hd_X1_in ⟨rfl, rfl, by decide, by decide⟩ bl_T (fun _ _ _ => trivial) rfl hl.1 rfl (Nat.le_of_ble_eq_true rfl) dX1_rest_19 ⟨Nat.zero_le _, Nat.zero_le _⟩ rfl ?_
    have hi22 := inZ_or a 0 7
    refine zi_feq (tgt := 29) hx hb dX1_rest_22 (by decide) (by omega) (fun hc22 => ?_) (fun hc22 => ?_)
    · refine zi_const hx hb 2 dX1_rest_29 ?_
      exfalso
      omega
    · refine zi_const hx hb 0 dX1_rest_25 ?_
      refine lv_goto (tgt := 30) hx hb dX1_rest_26 (by decide) ?_
      refine va_put (D := D) (ci := 1) (v := .int (iZ 0)) (ty := .int) (C := RX1) (T := TX1) (N := 8) hx hb hT inX1 tyX1 tyX1_ok nmX1 hown hK hP (dM_D hd hA) hS 0 rfl rfl 0 (by decide) (hT _ tb_402) (fun _ h9 => h9) rfl (by decide +kernel) rfl rfl (Nat.le_of_ble_eq_true rfl) dX1_rest_30 (fun H locs hP _ hS => ?_)
      have hP : va_P D vwCl (mX mo na cI cJ 0 k V) H := hP
      refine lv_aload_n hx hb dX1_rest_33 rfl (lv_at hl 0 rfl) ?_
      refine va_get (D := D) (ci := 1) (C := RX1) (T := TX1) (N := 8) hx hb hT inX1 hown hK hP 0 rfl rfl 0 (by decide) (hT _ tb_402) (fun _ h9 => h9) rfl dX1_rest_34 ?_
      refine zi_fgt (tgt := 45) hx hb dX1_rest_37 (by decide) (by omega) (fun hc37 => ?_) (fun hc37 => ?_)
      · exfalso
        omega
      · refine lv_iload_n hx hb dX1_rest_40 rfl (lv_at hl 2 rfl) ?_
        refine zi_const hx hb 4 dX1_rest_41 ?_
        refine zi_cge (tgt := 47) hx hb dX1_rest_42 (by decide) (by omega) (by omega) (fun hc42 => ?_) (fun hc42 => ?_)
        · refine lv_aload_n hx hb dX1_rest_47 rfl (lv_at hl 0 rfl) ?_
          refine lv_aload_n hx hb dX1_rest_48 rfl (lv_at hl 0 rfl) ?_
          refine va_get (D := D) (ci := 1) (C := RX1) (T := TX1) (N := 8) hx hb hT inX1 hown hK hP 0 rfl rfl 4 (by decide) (hT _ tb_406) (fun _ h9 => h9) rfl dX1_rest_49 ?_
          refine lv_iload_n hx hb dX1_rest_52 rfl (lv_at hl 1 rfl) ?_
          refine wm_V (As := [.ref (na 2), .int (iZ f)]) (rest := []) (st1 := []) (c1 := 0) (k1 := k) S (k2_X1_load l D mo na cI cJ 0 k V f hd hN (by omega)) tb_470 tb_472 ts_X1_load tb_2 tb_473 hd_X1_load ⟨rfl, rfl, by decide, by decide⟩ hP hK hS hA hAn rfl hl.1 rfl (Nat.le_of_ble_eq_true rfl) dX1_rest_53 ⟨Nat.zero_le _, Nat.zero_le _⟩ rfl (fun V1 H locs hRV1 hP hS _ _ => ?_)
          refine lv_aload_n hx hb dX1_rest_56 rfl (lv_at hl 0 rfl) ?_
          refine lv_iload_n hx hb dX1_rest_57 rfl (lv_at hl 2 rfl) ?_
          refine wm_V (As := [.int (iZ a)]) (rest := []) (st1 := [.long (lZ (rsZ (V 0) f a))]) (c1 := 0) (k1 := k) S (k_X1_restOf l D mo na cI cJ 0 k V1 (V 0) f a hd hN (by omega) hRV1.1 (by omega)) tb_509 tb_511 ts_X1_restOf tb_2 tb_512 hd_X1_restOf ⟨rfl, rfl, by decide, by decide⟩ hP hK hS hA hAn rfl hl.1 rfl (Nat.le_of_ble_eq_true rfl) dX1_rest_58 ⟨Nat.zero_le _, Nat.zero_le _⟩ rfl (fun V2 H locs hRV2 hP hS _ _ => ?_)
          refine zl_l2i hx hb dX1_rest_61 ?_
          exact wm_iret hx hb hr hlk hP ((show V2 0 = V 0 from (hRV2.2.2 0 (by decide)).trans (hRV1.2 0 (by decide)))) rfl rfl hS (congrArg (fun z => some (Value.int (iZ z))) (show (rsZ (V 0) f a : Int) = rsZ (V 0) f a from rfl)) dX1_rest_62
        · refine zi_const hx hb 0 dX1_rest_45 ?_
          exact wm_iret hx hb hr hlk hP rfl rfl rfl hS (congrArg (fun z => some (Value.int (iZ z))) (show (rsZ (V 0) f a : Int) = 0 from by unfold rsZ; rw [if_pos (by omega)])) dX1_rest_46
  · refine zi_const hx hb 1 dX1_rest_9 ?_
    refine lv_goto (tgt := 30) hx hb dX1_rest_10 (by decide) ?_
    exfalso
    omega
