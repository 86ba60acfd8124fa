/-- the numbers of element f up to the place t -/
def mkZ (N : Nat → Int) (f t : Int) : Nat → Int := fun j => if (j : Int) < f * 72 + t then N j else 0
theorem nu_out {N : Nat → Int} {f c m : Int} (h : ¬ (0 ≤ c ∧ c < 8 ∧ -4 ≤ m ∧ m ≤ 4)) : nuZ N f c m = 0 := by
  unfold nuZ
  rw [if_neg (by omega)]
theorem nu_mk {N : Nat → Int} {f t : Int} (hf : 0 ≤ f ∧ f < 60) (c m : Int) : nuZ (mkZ N f t) f c m = if c * 9 + m + 4 < t then nuZ N f c m else 0 := by
  by_cases h : 0 ≤ c ∧ c < 8 ∧ -4 ≤ m ∧ m ≤ 4
  · have e1 : nuZ (mkZ N f t) f c m = mkZ N f t (f * 72 + c * 9 + m + 4).toNat := by
      unfold nuZ
      rw [if_pos (by omega)]
    have e2 : nuZ N f c m = N (f * 72 + c * 9 + m + 4).toNat := by
      unfold nuZ
      rw [if_pos (by omega)]
    rw [e1, e2]
    unfold mkZ
    by_cases h2 : c * 9 + m + 4 < t
    · rw [if_pos (by omega), if_pos h2]
    · rw [if_neg (by omega), if_neg h2]
  · rw [nu_out h, nu_out h]
    split <;> rfl
theorem sl_cg {F F' : Nat → Int} {f : Int} (h : ∀ a m : Int, nuZ F' f a m = nuZ F f a m) (a m : Int) : slZ F' f a m = slZ F f a m := by
  unfold slZ
  rw [h, h, h]
theorem sl_d {N1 N2 : Nat → Int} {f : Int} {d : Int → Int → Int} (h : ∀ a m : Int, nuZ N2 f a m = nuZ N1 f a m + d a m) (a m : Int) : slZ N2 f a m = (slZ N1 f a m + ((m + 1) * d a (m + 1) + ePz a * d a m + (if a < 3 then (a + 1) * d (a + 1) (m + 1) else 0))) % 32003 := by
  unfold slZ
  rw [h, h, h]
  split
  · rw [Int.mul_add, Int.mul_add, Int.mul_add]
    omega
  · rw [Int.mul_add, Int.mul_add]
    omega
def rkZ (r : Nat) : Int := if r < 4 then r else if r = 9 then 4 else if r = 10 then 5 else if r = 12 then 6 else if r = 13 then 7 else -1
theorem rk_or (r : Nat) : (r < 4 ∧ rkZ r = r) ∨ (r = 9 ∧ rkZ r = 4) ∨ (r = 10 ∧ rkZ r = 5) ∨ (r = 12 ∧ rkZ r = 6) ∨ (r = 13 ∧ rkZ r = 7) ∨ (4 ≤ r ∧ r ≠ 9 ∧ r ≠ 10 ∧ r ≠ 12 ∧ r ≠ 13 ∧ rkZ r = -1) := by
  unfold rkZ
  split
  · omega
  · split
    · omega
    · split
      · omega
      · split
        · omega
        · split <;> omega
theorem ro_or {c : Int} (h : 0 ≤ c ∧ c < 8) : (c < 4 ∧ roZ c = c) ∨ (4 ≤ c ∧ c < 6 ∧ roZ c = c + 5) ∨ (6 ≤ c ∧ roZ c = c + 6) := by
  have hro : roZ c = if c < 4 then c else 11 + xpZ c := rfl
  have hx : xpZ c = if c < 4 then 0 else if c < 6 then c - 6 else c - 5 := rfl
  by_cases q : c < 4
  · rw [if_pos q] at hro
    omega
  · rw [if_neg q] at hro hx
    by_cases q2 : c < 6
    · rw [if_pos q2] at hx; omega
    · rw [if_neg q2] at hx; omega
def dwZ (N : Nat → Int) (f : Int) (j : Nat) : Int := if 0 ≤ rkZ (j / 19) ∧ 4 ≤ j % 19 ∧ j % 19 ≤ 13 then slZ N f (rkZ (j / 19)) ((j % 19 : Nat) - 9) else 0
theorem dwZ_rng (N : Nat → Int) (f : Int) (j : Nat) : 0 ≤ dwZ N f j ∧ dwZ N f j < 32003 := by
  unfold dwZ
  split
  · exact slZ_rng _ _ _ _
  · omega
theorem dw_at {N : Nat → Int} {f c m : Int} (hc : 0 ≤ c ∧ c < 8) (hm : -5 ≤ m ∧ m ≤ 4) {j : Nat} (hj : j = (19 * roZ c + m + 9).toNat) : dwZ N f j = slZ N f c m := by
  have hro := ro_or hc
  have hrk := rk_or (j / 19)
  unfold dwZ
  rw [if_pos (by omega), show rkZ (j / 19) = c by omega, show ((j % 19 : Nat) : Int) - 9 = m by omega]
theorem dw_cg {N N' : Nat → Int} {f : Int} (h : ∀ a m : Int, nuZ N' f a m = nuZ N f a m) (j : Nat) : dwZ N' f j = dwZ N f j := by
  unfold dwZ
  rw [sl_cg h]
theorem dw_0 {N : Nat → Int} {f : Int} (hf : 0 ≤ f ∧ f < 60) (j : Nat) : dwZ (mkZ N f 0) f j = 0 := by
  have h : ∀ a m : Int, nuZ (mkZ N f 0) f a m = 0 := by
    intro a m
    rw [nu_mk hf]
    by_cases h : 0 ≤ a ∧ a < 8 ∧ -4 ≤ m ∧ m ≤ 4
    · rw [if_neg (by omega)]
    · rw [nu_out h]
      split <;> rfl
  unfold dwZ slZ
  rw [h, h, h]
  split
  · split
    · rw [Int.mul_zero, Int.mul_zero, Int.mul_zero]; rfl
    · rw [Int.mul_zero, Int.mul_zero]; rfl
  · rfl
theorem dw_72 {N : Nat → Int} {f : Int} (hf : 0 ≤ f ∧ f < 60) (j : Nat) : dwZ (mkZ N f 72) f j = dwZ N f j := by
  refine dw_cg (fun a m => ?_) j
  rw [nu_mk hf]
  by_cases h : 0 ≤ a ∧ a < 8 ∧ -4 ≤ m ∧ m ≤ 4
  · rw [if_pos (by omega)]
  · rw [nu_out h]
    split <;> rfl
theorem dw_j {N : Nat → Int} {f c n t v at9 : Int} (hf : 0 ≤ f ∧ f < 60) (hc : 0 ≤ c ∧ c < 8) (hn : -4 ≤ n ∧ n ≤ 4) (ht : t = c * 9 + n + 4) (hv : v = nuZ N f c n) (ha : at9 = 19 * roZ c + n + 9) {j : Nat} (hj : j < 304) :
    (j = (at9 - 1).toNat → dwZ (mkZ N f (t + 1)) f j = (dwZ (mkZ N f t) f j + v * n) % 32003) ∧ (j = at9.toNat → dwZ (mkZ N f (t + 1)) f j = (dwZ (mkZ N f t) f j + v * xpZ c) % 32003) ∧ (0 < c ∧ c < 4 ∧ j = (at9 - 20).toNat → dwZ (mkZ N f (t + 1)) f j = (dwZ (mkZ N f t) f j + v * c) % 32003) ∧ (¬ j = (at9 - 1).toNat → ¬ j = at9.toNat → ¬ (0 < c ∧ c < 4 ∧ j = (at9 - 20).toNat) → dwZ (mkZ N f (t + 1)) f j = dwZ (mkZ N f t) f j) := by
  have hd : ∀ a m : Int, nuZ (mkZ N f (t + 1)) f a m = nuZ (mkZ N f t) f a m + (if a = c ∧ m = n then v else 0) := by
    intro a m
    rw [nu_mk hf, nu_mk hf]
    by_cases h : 0 ≤ a ∧ a < 8 ∧ -4 ≤ m ∧ m ≤ 4
    · by_cases q : a = c ∧ m = n
      · rw [if_pos (by omega), if_neg (by omega), if_pos q, q.1, q.2, hv]
        omega
      · rw [if_neg q]
        by_cases q2 : a * 9 + m + 4 < t
        · rw [if_pos (by omega), if_pos q2]; omega
        · rw [if_neg (by omega), if_neg q2]; rfl
    · have hq : ¬ (a = c ∧ m = n) := by omega
      rw [nu_out h, if_neg hq]
      split <;> split <;> rfl
  obtain ⟨d, hd, d1, d2⟩ : ∃ d : Int → Int → Int, (∀ a m : Int, nuZ (mkZ N f (t + 1)) f a m = nuZ (mkZ N f t) f a m + d a m) ∧ d c n = v ∧ (∀ a m : Int, ¬ (a = c ∧ m = n) → d a m = 0) := ⟨fun a m => if a = c ∧ m = n then v else 0, hd, if_pos ⟨rfl, rfl⟩, fun a m h => if_neg h⟩
  have hs := sl_d hd
  have hro := ro_or hc
  refine ⟨fun q => ?_, fun q => ?_, fun q => ?_, fun q1 q2 q3 => ?_⟩
  · rw [dw_at hc (m := n - 1) (by omega) (by omega), dw_at hc (m := n - 1) (by omega) (by omega), hs]
    rw [show n - 1 + 1 = n by omega, d1, d2 c (n - 1) (by omega), d2 (c + 1) n (by omega), Int.mul_zero, Int.mul_zero, Int.mul_comm n v]
    split <;> rw [Int.add_zero, Int.add_zero]
  · rw [dw_at hc (m := n) (by omega) (by omega), dw_at hc (m := n) (by omega) (by omega), hs]
    rw [d2 c (n + 1) (by omega), d1, d2 (c + 1) (n + 1) (by omega), Int.mul_zero, Int.mul_zero, Int.mul_comm (ePz c) v, xp_ep hc]
    split <;> rw [Int.add_zero, Int.zero_add]
  · have hro2 := ro_or (c := c - 1) (by omega)
    rw [dw_at (c := c - 1) (by omega) (m := n - 1) (by omega) (by omega), dw_at (c := c - 1) (by omega) (m := n - 1) (by omega) (by omega), hs]
    rw [show n - 1 + 1 = n by omega, show c - 1 + 1 = c by omega, d2 (c - 1) n (by omega), d2 (c - 1) (n - 1) (by omega), d1, if_pos (by omega), Int.mul_zero, Int.mul_zero, Int.mul_comm c v, Int.zero_add, Int.zero_add]
  · have hrk := rk_or (j / 19)
    unfold dwZ
    by_cases q : 0 ≤ rkZ (j / 19) ∧ 4 ≤ j % 19 ∧ j % 19 ≤ 13
    · rw [if_pos q, if_pos q, hs]
      have := slZ_rng (mkZ N f t) f (rkZ (j / 19)) ((j % 19 : Nat) - 9)
      rw [d2 _ _ (by omega), d2 _ _ (by omega), Int.mul_zero, Int.mul_zero]
      by_cases q9 : rkZ (j / 19) < 3
      · rw [if_pos q9, d2 _ _ (by omega), Int.mul_zero]
        omega
      · rw [if_neg q9]
        omega
    · rw [if_neg q, if_neg q]
theorem dw_2 {N : Nat → Int} {f c n v at9 : Int} (hf : 0 ≤ f ∧ f < 60) (hc : 0 ≤ c ∧ c < 8) (hn : -4 ≤ n ∧ n ≤ 4) (hv : v = nuZ N f c n) (ha : at9 = 19 * roZ c + n + 9) {g g1 g2 : Nat → Int} (h : ∀ j : Nat, j < 304 → g j = dwZ (mkZ N f (c * 9 + n + 4)) f j) (h1 : g1 = uZ g (at9 - 1).toNat ((g (at9 - 1).toNat + v * n) % 32003)) (h2 : g2 = uZ g1 at9.toNat ((g1 at9.toNat + v * xpZ c) % 32003)) (hcc : ¬ (0 < c ∧ c < 4)) : ∀ j : Nat, j < 304 → g2 j = dwZ (mkZ N f (c * 9 + (n + 1) + 4)) f j := by
  intro j hj
  have hro := ro_or hc
  obtain ⟨a1, a2, a3, a4⟩ := dw_j (N := N) hf hc hn rfl hv ha hj
  rw [show c * 9 + (n + 1) + 4 = c * 9 + n + 4 + 1 by omega]
  by_cases q : j = at9.toNat
  · rw [h2, u_eq q, h1, u_ne (by omega), a2 q, ← q, h j hj]
  · rw [h2, u_ne q, h1]
    by_cases q2 : j = (at9 - 1).toNat
    · rw [u_eq q2, a1 q2, ← q2, h j hj]
    · rw [u_ne q2, a4 q2 q (by omega), h j hj]
theorem dw_3 {N : Nat → Int} {f c n v at9 : Int} (hf : 0 ≤ f ∧ f < 60) (hc : 0 ≤ c ∧ c < 8) (hn : -4 ≤ n ∧ n ≤ 4) (hv : v = nuZ N f c n) (ha : at9 = 19 * roZ c + n + 9) {g g1 g2 g3 : Nat → Int} (h : ∀ j : Nat, j < 304 → g j = dwZ (mkZ N f (c * 9 + n + 4)) f j) (h1 : g1 = uZ g (at9 - 1).toNat ((g (at9 - 1).toNat + v * n) % 32003)) (h2 : g2 = uZ g1 at9.toNat ((g1 at9.toNat + v * xpZ c) % 32003)) (h3 : g3 = uZ g2 (at9 - 20).toNat ((g2 (at9 - 20).toNat + v * c) % 32003)) (hcc : 0 < c ∧ c < 4) : ∀ j : Nat, j < 304 → g3 j = dwZ (mkZ N f (c * 9 + (n + 1) + 4)) f j := by
  intro j hj
  have hro := ro_or hc
  obtain ⟨a1, a2, a3, a4⟩ := dw_j (N := N) hf hc hn rfl hv ha hj
  rw [show c * 9 + (n + 1) + 4 = c * 9 + n + 4 + 1 by omega]
  by_cases q0 : j = (at9 - 20).toNat
  · rw [h3, u_eq q0, h2, u_ne (by omega), h1, u_ne (by omega), a3 ⟨hcc.1, hcc.2, q0⟩, ← q0, h j hj]
  · rw [h3, u_ne q0]
    by_cases q : j = at9.toNat
    · rw [h2, u_eq q, h1, u_ne (by omega), a2 q, ← q, h j hj]
    · rw [h2, u_ne q, h1]
      by_cases q2 : j = (at9 - 1).toNat
      · rw [u_eq q2, a1 q2, ← q2, h j hj]
      · rw [u_ne q2, a4 q2 q (by omega), h j hj]
theorem dw_nw {M N : Nat → Int} {f : Int} (h : ∀ j : Nat, j < 304 → M j = dwZ N f j) {j : Nat} (hj : j < 304) : nwZ M j = dwZ N f j := by
  unfold nwZ
  have hz : ∀ i : Nat, 209 ≤ i → i < 228 → dwZ N f i = 0 := by
    intro i h1 h2
    have hrk := rk_or (i / 19)
    unfold dwZ
    rw [if_neg (by omega)]
  split
  · rw [h j hj, h _ (by omega), hz (209 + j) (by omega) (by omega), Int.add_zero]
    exact Int.emod_eq_of_lt (dwZ_rng _ _ _).1 (dwZ_rng _ _ _).2
  · split
    · exact (hz j (by omega) (by omega)).symm
    · exact h j hj
theorem dw_ok {M N : Nat → Int} {f : Int} (h : ∀ j : Nat, j < 304 → M j = dwZ N f j) : okN M ↔ stZ N f = 0 := by
  constructor
  · intro hk
    unfold stZ
    rw [if_pos]
    intro c hc
    have hro := ro_or (c := (c : Int)) (by omega)
    rw [← dw_at (N := N) (f := f) (c := (c : Int)) (m := -5) (by omega) (by omega) rfl, ← dw_nw h (by omega)]
    by_cases q : nwZ M (19 * roZ c + -5 + 9).toNat = 0
    · exact q
    · have := hk _ (by omega) q
      omega
  · intro hp j hj hz
    rw [dw_nw h hj] at hz
    have hrk := rk_or (j / 19)
    unfold dwZ at hz
    split at hz
    · next h9 =>
      refine ⟨by omega, ?_, h9.2.2⟩
      by_cases q : j % 19 = 4
      · exfalso
        apply hz
        unfold stZ at hp
        split at hp
        · next h8 =>
          have := h8 (rkZ (j / 19)).toNat (by omega)
          rw [show (((rkZ (j / 19)).toNat : Nat) : Int) = rkZ (j / 19) by omega] at this
          rw [show ((j % 19 : Nat) : Int) - 9 = -5 by omega]
          exact this
        · omega
      · omega
    · exact absurd rfl hz
theorem dw_row {M N : Nat → Int} {f : Int} (h : ∀ j : Nat, j < 304 → M j = dwZ N f j) {c n : Int} (hc : 0 ≤ c ∧ c < 8) (hn : -4 ≤ n ∧ n ≤ 4) : nwZ M (19 * roZ c + n + 9).toNat = slZ N f c n := by
  have hro := ro_or hc
  rw [dw_nw h (by omega)]
  exact dw_at hc (by omega) rfl
set_option maxHeartbeats 4000000 in
set_option maxRecDepth 100000 in
theorem k_X1_derive (l : Launch) (D : va_G) (mo : Nat) (na : Nat → Nat) (cI cJ : ClassId) (c0 k : Int) (V : Nat → Nat → Int) (f : Int) (hd : dM mo na) (hN : ∀ j, 0 ≤ V 0 j ∧ V 0 j < 32003) (hk : 0 ≤ k ∧ k < 60) (hf : 0 ≤ f ∧ f < k) (h0 : stZ (V 0) f = 0) : wm_M l yX1_derive cX1_derive 7 (some .int) ({ frames := 3, cells := 0, slots := 0, locals := 68 }) [.int (iZ f)] D mo na cI cJ c0 k V (some (.int (iZ k))) 0 (k + 1) (fun Z => (∀ j : Nat, j < 72 → Z 0 ((k * 72).toNat + j) = slZ (V 0) f (jC j) (jN j)) ∧ ∀ j : Nat, (j : Int) < k * 72 ∨ k * 72 + 72 ≤ (j : Int) → Z 0 j = V 0 j) := by
  refine wm_of (by decide) rfl (Nat.le_of_ble_eq_true rfl) ?_
  intro p e s m below meth c A hAe S hr hlk hP hK hA hAn hS ls hl
  obtain ⟨hx, hb, hml, hown, hT⟩ := id S
  have hl : lv_has ls 7 [(0, .ref mo), (1, .int (iZ f))] := hl
  refine lv_aload_n hx hb dX1_derive_0 rfl (lv_at hl 0 rfl) ?_
  refine lv_iload_n hx hb dX1_derive_1 rfl (lv_at hl 1 rfl) ?_
  refine lv_iload_n hx hb dX1_derive_2 rfl (lv_at hl 1 rfl) ?_
  refine wm_V (As := [.int (iZ f), .int (iZ f)]) (rest := []) (st1 := [.int (iZ 1)]) (c1 := 0) (k1 := k) S (k_X1_may l D mo na cI cJ c0 k V f f hd hN (by omega) (by omega) (by omega)) tb_462 tb_464 ts_X1_may tb_2 tb_465 hd_X1_may ⟨rfl, rfl, by decide, by decide⟩ hP hK hS hA hAn rfl hl.1 rfl (Nat.le_of_ble_eq_true rfl) dX1_derive_3 ⟨Nat.zero_le _, Nat.zero_le _⟩ rfl (fun V1 H locs hRV1 hP hS _ _ => ?_)
  refine zi_fne (tgt := 11) hx hb dX1_derive_6 (by decide) (by omega) (fun hc6 => ?_) (fun hc6 => ?_)
  · refine lv_aload_n hx hb dX1_derive_11 rfl (lv_at hl 0 rfl) ?_
    refine wm_V (As := []) (rest := []) (st1 := []) (c1 := 0) (k1 := k) S (k_X1_start l D mo na cI cJ 0 k V1  hd ) tb_487 tb_489 ts_X1_start tb_2 tb_490 hd_X1_start ⟨rfl, rfl, by decide, by decide⟩ hP hK hS hA hAn rfl hl.1 rfl (Nat.le_of_ble_eq_true rfl) dX1_derive_12 ⟨Nat.zero_le _, Nat.zero_le _⟩ rfl (fun V2 H locs hRV2 hP hS _ _ => ?_)
    refine zi_const hx hb 0 dX1_derive_15 ?_
    refine lv_istore_n (lv' := [(2, .int (iZ 0)), (0, .ref mo), (1, .int (iZ f))]) hx hb dX1_derive_16 rfl hl (by decide) rfl (fun ls hl => ?_)
    refine lp_goM (nL := 7) (α := (Nat → Nat → Int) × Int) (fun z => [(0, .ref mo), (1, .int (iZ f)), (2, .int (iZ z.2))]) (fun _ => 0) (fun _ => k) (fun z => z.1) (fun m17 z => 0 ≤ z.2 ∧ z.2 + (m17 : Int) = 8 ∧ (∀ j : Nat, j < 304 → z.1 4 j = dwZ (mkZ (V 0) f (z.2 * 9)) f j) ∧ z.1 2 = V1 2 ∧ z.1 0 = V 0) ?_ 8 (V2, (0 : Int)) (by (try dsimp only); exact ⟨by omega, by omega, fun j hj => (by rw [hRV2.1 j hj]; exact (dw_0 (by omega) j).symm), hRV2.2 2 (by decide), (hRV2.2 0 (by decide)).trans hRV1.2.2⟩) _ _ hP hS ls (lv_sub hl [1, 2, 0] rfl)
    intro m17 z3 hI17 ih17 H locs hP hS ls hl
    obtain ⟨Y, c1⟩ := z3
    have hl : lv_has ls 7 [(0, .ref mo), (1, .int (iZ f)), (2, .int (iZ c1))] := hl
    have hI17 : 0 ≤ c1 ∧ c1 + (m17 : Int) = 8 ∧ (∀ j : Nat, j < 304 → Y 4 j = dwZ (mkZ (V 0) f (c1 * 9)) f j) ∧ Y 2 = V1 2 ∧ Y 0 = V 0 := hI17
    have hP : va_P D vwCl (mX mo na cI cJ 0 k Y) H := hP
    refine lv_iload_n hx hb dX1_derive_17 rfl (lv_at hl 2 rfl) ?_
    refine zi_bi hx hb 8 dX1_derive_18 (by decide) ?_
    refine zi_cge (tgt := 160) hx hb dX1_derive_20 (by decide) (by omega) (by omega) (fun hc20 => ?_) (fun hc20 => ?_)
    · have hdw : ∀ j : Nat, j < 304 → Y 4 j = dwZ (V 0) f j := fun j hj => by rw [hI17.2.2.1 j hj, show c1 * 9 = 72 by omega]; exact dw_72 (by omega) j
      refine lv_aload_n hx hb dX1_derive_160 rfl (lv_at hl 0 rfl) ?_
      refine wm_V (As := []) (rest := []) (st1 := [.int (iZ k)]) (c1 := 0) (k1 := k + 1) S (k_X1_narrow l D mo na cI cJ 0 k Y  hd (by omega) (fun j hj => by rw [hdw j hj]; exact dwZ_rng _ _ _) ((dw_ok hdw).mpr h0)) tb_494 tb_496 ts_X1_narrow tb_2 tb_497 hd_X1_narrow ⟨rfl, rfl, by decide, by decide⟩ hP hK hS hA hAn rfl hl.1 rfl (Nat.le_of_ble_eq_true rfl) dX1_derive_161 ⟨Nat.zero_le _, Nat.zero_le _⟩ rfl (fun V4 H locs hRV4 hP hS _ _ => ?_)
      exact wm_iret hx hb hr hlk hP (⟨fun j hj => by rw [hRV4.1 j hj]; obtain ⟨a1, a2, a3, a4, a5⟩ := jr_72 hj; exact dw_row hdw ⟨a1, a2⟩ ⟨a3, a4⟩, fun j hj => by rw [hRV4.2 j hj]; exact congrFun hI17.2.2.2.2 j⟩) rfl rfl hS (congrArg (fun z => some (Value.int (iZ z))) (show (k : Int) = k from rfl)) dX1_derive_164
    · refine zi_bi hx hb (-4) dX1_derive_23 (by decide) ?_
      refine lv_istore_n (lv' := [(3, .int (iZ (-4))), (0, .ref mo), (1, .int (iZ f)), (2, .int (iZ c1))]) hx hb dX1_derive_25 rfl hl (by decide) rfl (fun ls hl => ?_)
      refine lp_goM (nL := 7) (α := (Nat → Nat → Int) × Int) (fun z => [(0, .ref mo), (1, .int (iZ f)), (2, .int (iZ c1)), (3, .int (iZ z.2))]) (fun _ => 0) (fun _ => k) (fun z => z.1) (fun m26 z => -4 ≤ z.2 ∧ z.2 + (m26 : Int) = 5 ∧ (∀ j : Nat, j < 304 → z.1 4 j = dwZ (mkZ (V 0) f (c1 * 9 + z.2 + 4)) f j) ∧ z.1 2 = V1 2 ∧ z.1 0 = V 0) ?_ 9 (Y, ((-4) : Int)) (by (try dsimp only); exact ⟨by omega, by omega, fun j hj => (by rw [show c1 * 9 + -4 + 4 = c1 * 9 by omega]; exact hI17.2.2.1 j hj), hI17.2.2.2⟩) _ _ hP hS ls (lv_sub hl [1, 2, 3, 0] rfl)
      intro m26 z5 hI26 ih26 H locs hP hS ls hl
      obtain ⟨U, n⟩ := z5
      have hl : lv_has ls 7 [(0, .ref mo), (1, .int (iZ f)), (2, .int (iZ c1)), (3, .int (iZ n))] := hl
      have hI26 : -4 ≤ n ∧ n + (m26 : Int) = 5 ∧ (∀ j : Nat, j < 304 → U 4 j = dwZ (mkZ (V 0) f (c1 * 9 + n + 4)) f j) ∧ U 2 = V1 2 ∧ U 0 = V 0 := hI26
      have hP : va_P D vwCl (mX mo na cI cJ 0 k U) H := hP
      refine lv_iload_n hx hb dX1_derive_26 rfl (lv_at hl 3 rfl) ?_
      refine zi_const hx hb 4 dX1_derive_27 ?_
      refine zi_cgt (tgt := 154) hx hb dX1_derive_28 (by decide) (by omega) (by omega) (fun hc28 => ?_) (fun hc28 => ?_)
      · refine zi_inc (lv' := [(2, .int (iZ (c1 + 1))), (0, .ref mo), (1, .int (iZ f)), (3, .int (iZ n))]) hx hb dX1_derive_154 hl (k := 2) rfl (by decide) rfl (fun ls hl => ?_)
        refine lv_goto (tgt := 17) hx hb dX1_derive_157 (by decide) ?_
        exact ih17 (m17 - 1) (U, c1 + 1) (by omega) (by (try dsimp only); exact ⟨by omega, by omega, fun j hj => (by rw [show (c1 + 1) * 9 = c1 * 9 + n + 4 by omega]; exact hI26.2.2.1 j hj), hI26.2.2.2⟩) _ _ hP hS ls (lv_sub hl [1, 2, 0] rfl)
      · have hpU : ∀ j : Nat, j < 72 → U 2 j = V 0 ((f * 72).toNat + j) := fun j hj => by rw [hI26.2.2.2.1]; exact hRV1.1 j hj
        have hpx : U 2 (c1 * 9 + n + 4).toNat = nuZ (V 0) f c1 n := pn_at (by omega) hpU (by omega) (by omega)
        have hq1 := nuZ_rng hN f c1 n
        have hro := ro_or (c := c1) (by omega)
        refine lv_aload_n hx hb dX1_derive_31 rfl (lv_at hl 0 rfl) ?_
        refine va_get (D := D) (ci := 1) (C := RX1) (T := TX1) (N := 8) hx hb hT inX1 hown hK hP 0 rfl rfl 4 (by decide) (hT _ tb_406) (fun _ h9 => h9) rfl dX1_derive_32 ?_
        refine lv_iload_n hx hb dX1_derive_35 rfl (lv_at hl 2 rfl) ?_
        refine lv_iload_n hx hb dX1_derive_36 rfl (lv_at hl 3 rfl) ?_
        refine rd_S (As := [.int (iZ c1), .int (iZ n)]) (rest := [.ref (na 2)]) (st1 := [.int (iZ (c1 * 9 + n + 4)), .ref (na 2)]) S (k_X1_place l c1 n) tb_442 tb_443 tb_2 tb_444 hd_X1_place ⟨rfl, rfl, by decide, by decide⟩ bl_T (fun _ _ _ => trivial) rfl hl.1 rfl (Nat.le_of_ble_eq_true rfl) dX1_derive_37 ⟨Nat.zero_le _, Nat.zero_le _⟩ rfl ?_
        refine va_lald hx hb hK hP 3 1 rfl rfl (iZ_in (by omega) (by omega) (by decide)) dX1_derive_40 ?_
        refine zl_as (a := U 2 ((c1 * 9 + n + 4).toNat)) (by rw [iZ_cl (by omega) (by omega)]) ?_
        refine zl_top (fun v6 ev6 => ?_)
        refine lv_lstore (lv' := [(4, .long (lZ v6)), (0, .ref mo), (1, .int (iZ f)), (2, .int (iZ c1)), (3, .int (iZ n))]) hx hb dX1_derive_41 hl (by decide) rfl (fun ls hl => ?_)
        refine zi_bi hx hb 19 dX1_derive_43 (by decide) ?_
        refine lv_iload_n hx hb dX1_derive_45 rfl (lv_at hl 3 rfl) ?_
        refine rd_S (As := [.int (iZ c1)]) (rest := [.int (iZ 19)]) (st1 := [.int (iZ (roZ c1)), .int (iZ 19)]) S (k_X1_rowOf l c1 (by omega)) tb_498 tb_499 tb_2 tb_500 hd_X1_rowOf ⟨rfl, rfl, by decide, by decide⟩ bl_T (fun _ _ _ => trivial) rfl hl.1 rfl (Nat.le_of_ble_eq_true rfl) dX1_derive_46 ⟨Nat.zero_le _, Nat.zero_le _⟩ rfl ?_
        refine zi_mul hx hb dX1_derive_49 ?_
        refine lv_iload_n hx hb dX1_derive_50 rfl (lv_at hl 4 rfl) ?_
        refine zi_add hx hb dX1_derive_51 ?_
        refine zi_bi hx hb 9 dX1_derive_52 (by decide) ?_
        refine zi_add hx hb dX1_derive_54 ?_
        refine zi_top (fun v7 ev7 => ?_)
        refine lv_istore (lv' := [(6, .int (iZ v7)), (4, .long (lZ v6)), (0, .ref mo), (1, .int (iZ f)), (2, .int (iZ c1)), (3, .int (iZ n))]) hx hb dX1_derive_55 hl (by decide) rfl (fun ls hl => ?_)
        have hvn : v6 = nuZ (V 0) f c1 n := ev6.trans hpx
        have ea9 : v7 = 19 * roZ c1 + n + 9 := ev7
        rw [← hvn] at hq1
        have hud : ∀ j : Nat, j < 304 → 0 ≤ U 4 j ∧ U 4 j < 32003 := fun j hj => by rw [hI26.2.2.1 j hj]; exact dwZ_rng _ _ _
        have hu1 := hud (v7 - 1).toNat (by omega)
        have hs1 := sm_mul (a := n) (by omega) hq1
        have hc1 : v6 * n = n * v6 := Int.mul_comm _ _
        have hxe : -2 ≤ xpZ c1 ∧ xpZ c1 ≤ 2 := by rw [xp_ep (by omega)]; exact ePz_rng c1
        have hs2 := sm_mul (a := xpZ c1) (by omega) hq1
        have hc2 : v6 * xpZ c1 = xpZ c1 * v6 := Int.mul_comm _ _
        have hs3 := sm_mul (a := c1) (by omega) hq1
        have hc3 : v6 * c1 = c1 * v6 := Int.mul_comm _ _
        refine lv_aload_n hx hb dX1_derive_57 rfl (lv_at hl 2 rfl) ?_
        refine va_get (D := D) (ci := 1) (C := RX1) (T := TX1) (N := 8) hx hb hT inX1 hown hK hP 0 rfl rfl 6 (by decide) (hT _ tb_408) (fun _ h9 => h9) rfl dX1_derive_58 ?_
        refine lv_iload hx hb dX1_derive_61 (lv_at hl 0 rfl) ?_
        refine zi_const hx hb 1 dX1_derive_63 ?_
        refine zi_sub hx hb dX1_derive_64 ?_
        refine lv_aload_n hx hb dX1_derive_65 rfl (lv_at hl 2 rfl) ?_
        refine va_get (D := D) (ci := 1) (C := RX1) (T := TX1) (N := 8) hx hb hT inX1 hown hK hP 0 rfl rfl 6 (by decide) (hT _ tb_408) (fun _ h9 => h9) rfl dX1_derive_66 ?_
        refine lv_iload hx hb dX1_derive_69 (lv_at hl 0 rfl) ?_
        refine zi_const hx hb 1 dX1_derive_71 ?_
        refine zi_sub hx hb dX1_derive_72 ?_
        refine va_lald hx hb hK hP 5 1 rfl rfl (iZ_in (by omega) (by omega) (by decide)) dX1_derive_73 ?_
        refine zl_as (a := U 4 ((v7 - 1).toNat)) (by rw [iZ_cl (by omega) (by omega)]) ?_
        refine lv_lload hx hb dX1_derive_74 (lv_at hl 1 rfl) ?_
        refine lv_iload_n hx hb dX1_derive_76 rfl (lv_at hl 5 rfl) ?_
        refine zi_i2l hx hb dX1_derive_77 (by omega) ?_
        refine zl_mul hx hb dX1_derive_78 ?_
        refine zl_add hx hb dX1_derive_79 ?_
        refine rd_S (As := [.long (lZ ((U 4 (v7 - 1).toNat) + (v6 * n)))]) (rest := [.int (iZ (v7 - 1)), .ref (na 4)]) (st1 := [.long (lZ (((U 4 (v7 - 1).toNat) + (v6 * n)) % 32003)), .int (iZ (v7 - 1)), .ref (na 4)]) S (k_X1_modulo l ((U 4 (v7 - 1).toNat) + (v6 * n)) (by omega)) tb_445 tb_446 tb_2 tb_447 hd_X1_modulo ⟨rfl, rfl, by decide, by decide⟩ bl_T (fun _ _ _ => trivial) rfl hl.1 rfl (Nat.le_of_ble_eq_true rfl) dX1_derive_80 ⟨Nat.zero_le _, Nat.zero_le _⟩ rfl ?_
        refine mm_l hx hb hK hP hd hA hS 4 304 rfl (fun g => rfl) (by omega) dX1_derive_83 (fun H locs hP hS => ?_)
        obtain ⟨V8, eV8⟩ : ∃ Z : Nat → Nat → Int, Z = sV U 4 (uZ (U 4) (v7 - 1).toNat (((U 4 (v7 - 1).toNat) + (v6 * n)) % 32003)) := ⟨_, rfl⟩
        rw [← eV8] at hP
        have hg1 : V8 4 = uZ (U 4) (v7 - 1).toNat ((U 4 (v7 - 1).toNat + v6 * n) % 32003) := by rw [eV8, sV_a]
        have hb1 : ∀ b, b ≠ 4 → V8 b = U b := fun b hb9 => by rw [eV8, sV_b hb9]
        have hu2 : 0 ≤ V8 4 (v7).toNat ∧ V8 4 (v7).toNat < 32003 := by
          rw [hg1, u_ne (by omega)]
          exact hud _ (by omega)
        refine lv_aload_n hx hb dX1_derive_84 rfl (lv_at hl 2 rfl) ?_
        refine va_get (D := D) (ci := 1) (C := RX1) (T := TX1) (N := 8) hx hb hT inX1 hown hK hP 0 rfl rfl 6 (by decide) (hT _ tb_408) (fun _ h9 => h9) rfl dX1_derive_85 ?_
        refine lv_iload hx hb dX1_derive_88 (lv_at hl 0 rfl) ?_
        refine lv_aload_n hx hb dX1_derive_90 rfl (lv_at hl 2 rfl) ?_
        refine va_get (D := D) (ci := 1) (C := RX1) (T := TX1) (N := 8) hx hb hT inX1 hown hK hP 0 rfl rfl 6 (by decide) (hT _ tb_408) (fun _ h9 => h9) rfl dX1_derive_91 ?_
        refine lv_iload hx hb dX1_derive_94 (lv_at hl 0 rfl) ?_
        refine va_lald hx hb hK hP 5 1 rfl rfl (iZ_in (by omega) (by omega) (by decide)) dX1_derive_96 ?_
        refine zl_as (a := V8 4 ((v7).toNat)) (by rw [iZ_cl (by omega) (by omega)]) ?_
        refine lv_lload hx hb dX1_derive_97 (lv_at hl 1 rfl) ?_
        refine lv_iload_n hx hb dX1_derive_99 rfl (lv_at hl 4 rfl) ?_
        refine rd_S (As := [.int (iZ c1)]) (rest := [.long (lZ v6), .long (lZ (V8 4 (v7).toNat)), .int (iZ v7), .ref (na 4)]) (st1 := [.int (iZ (xpZ c1)), .long (lZ v6), .long (lZ (V8 4 (v7).toNat)), .int (iZ v7), .ref (na 4)]) S (k_X1_exponent l c1 (by omega)) tb_491 tb_492 tb_2 tb_493 hd_X1_exponent ⟨rfl, rfl, by decide, by decide⟩ bl_T (fun _ _ _ => trivial) rfl hl.1 rfl (Nat.le_of_ble_eq_true rfl) dX1_derive_100 ⟨Nat.zero_le _, Nat.zero_le _⟩ rfl ?_
        have hxe103 : xpZ c1 = (if c1 < 4 then 0 else if c1 < 6 then c1 - 6 else c1 - 5) := rfl
        refine zi_i2l hx hb dX1_derive_103 (by omega) ?_
        refine zl_mul hx hb dX1_derive_104 ?_
        refine zl_add hx hb dX1_derive_105 ?_
        refine rd_S (As := [.long (lZ ((V8 4 (v7).toNat) + (v6 * (xpZ c1))))]) (rest := [.int (iZ v7), .ref (na 4)]) (st1 := [.long (lZ (((V8 4 (v7).toNat) + (v6 * (xpZ c1))) % 32003)), .int (iZ v7), .ref (na 4)]) S (k_X1_modulo l ((V8 4 (v7).toNat) + (v6 * (xpZ c1))) (by omega)) tb_445 tb_446 tb_2 tb_447 hd_X1_modulo ⟨rfl, rfl, by decide, by decide⟩ bl_T (fun _ _ _ => trivial) rfl hl.1 rfl (Nat.le_of_ble_eq_true rfl) dX1_derive_106 ⟨Nat.zero_le _, Nat.zero_le _⟩ rfl ?_
        refine mm_l hx hb hK hP hd hA hS 4 304 rfl (fun g => rfl) (by omega) dX1_derive_109 (fun H locs hP hS => ?_)
        obtain ⟨V9, eV9⟩ : ∃ Z : Nat → Nat → Int, Z = sV V8 4 (uZ (V8 4) (v7).toNat (((V8 4 (v7).toNat) + (v6 * (xpZ c1))) % 32003)) := ⟨_, rfl⟩
        rw [← eV9] at hP
        have hg2 : V9 4 = uZ (V8 4) (v7).toNat ((V8 4 (v7).toNat + v6 * xpZ c1) % 32003) := by rw [eV9, sV_a]
        have hb2 : ∀ b, b ≠ 4 → V9 b = V8 b := fun b hb9 => by rw [eV9, sV_b hb9]
        have hu3 : 0 < c1 ∧ c1 < 4 → 0 ≤ V9 4 (v7 - 20).toNat ∧ V9 4 (v7 - 20).toNat < 32003 := fun q => by
          rw [hg2, u_ne (by omega), hg1, u_ne (by omega)]
          exact hud _ (by omega)
        refine lv_iload_n hx hb dX1_derive_110 rfl (lv_at hl 4 rfl) ?_
        refine zi_fle (tgt := 148) hx hb dX1_derive_111 (by decide) (by omega) (fun hc111 => ?_) (fun hc111 => ?_)
        · refine zi_inc (lv' := [(3, .int (iZ (n + 1))), (6, .int (iZ v7)), (4, .long (lZ v6)), (0, .ref mo), (1, .int (iZ f)), (2, .int (iZ c1))]) hx hb dX1_derive_148 hl (k := 5) rfl (by decide) rfl (fun ls hl => ?_)
          refine lv_goto (tgt := 26) hx hb dX1_derive_151 (by decide) ?_
          exact ih26 (m26 - 1) (V9, n + 1) (by omega) (by (try dsimp only); exact ⟨by omega, by omega, dw_2 (by omega) (by omega) (by omega) hvn ea9 hI26.2.2.1 hg1 hg2 (by omega), by rw [hb2 2 (by decide), hb1 2 (by decide)]; exact hI26.2.2.2.1, by rw [hb2 0 (by decide), hb1 0 (by decide)]; exact hI26.2.2.2.2⟩) _ _ hP hS ls (lv_sub hl [3, 4, 5, 0] rfl)
        · refine lv_iload_n hx hb dX1_derive_114 rfl (lv_at hl 4 rfl) ?_
          refine zi_const hx hb 4 dX1_derive_115 ?_
          refine zi_cge (tgt := 148) hx hb dX1_derive_116 (by decide) (by omega) (by omega) (fun hc116 => ?_) (fun hc116 => ?_)
          · refine zi_inc (lv' := [(3, .int (iZ (n + 1))), (6, .int (iZ v7)), (4, .long (lZ v6)), (0, .ref mo), (1, .int (iZ f)), (2, .int (iZ c1))]) hx hb dX1_derive_148 hl (k := 5) rfl (by decide) rfl (fun ls hl => ?_)
            refine lv_goto (tgt := 26) hx hb dX1_derive_151 (by decide) ?_
            exact ih26 (m26 - 1) (V9, n + 1) (by omega) (by (try dsimp only); exact ⟨by omega, by omega, dw_2 (by omega) (by omega) (by omega) hvn ea9 hI26.2.2.1 hg1 hg2 (by omega), by rw [hb2 2 (by decide), hb1 2 (by decide)]; exact hI26.2.2.2.1, by rw [hb2 0 (by decide), hb1 0 (by decide)]; exact hI26.2.2.2.2⟩) _ _ hP hS ls (lv_sub hl [3, 4, 5, 0] rfl)
          · have hu3 := hu3 (by omega)
            refine lv_aload_n hx hb dX1_derive_119 rfl (lv_at hl 2 rfl) ?_
            refine va_get (D := D) (ci := 1) (C := RX1) (T := TX1) (N := 8) hx hb hT inX1 hown hK hP 0 rfl rfl 6 (by decide) (hT _ tb_408) (fun _ h9 => h9) rfl dX1_derive_120 ?_
            refine lv_iload hx hb dX1_derive_123 (lv_at hl 0 rfl) ?_
            refine zi_bi hx hb 20 dX1_derive_125 (by decide) ?_
            refine zi_sub hx hb dX1_derive_127 ?_
            refine lv_aload_n hx hb dX1_derive_128 rfl (lv_at hl 2 rfl) ?_
            refine va_get (D := D) (ci := 1) (C := RX1) (T := TX1) (N := 8) hx hb hT inX1 hown hK hP 0 rfl rfl 6 (by decide) (hT _ tb_408) (fun _ h9 => h9) rfl dX1_derive_129 ?_
            refine lv_iload hx hb dX1_derive_132 (lv_at hl 0 rfl) ?_
            refine zi_bi hx hb 20 dX1_derive_134 (by decide) ?_
            refine zi_sub hx hb dX1_derive_136 ?_
            refine va_lald hx hb hK hP 5 1 rfl rfl (iZ_in (by omega) (by omega) (by decide)) dX1_derive_137 ?_
            refine zl_as (a := V9 4 ((v7 - 20).toNat)) (by rw [iZ_cl (by omega) (by omega)]) ?_
            refine lv_lload hx hb dX1_derive_138 (lv_at hl 1 rfl) ?_
            refine lv_iload_n hx hb dX1_derive_140 rfl (lv_at hl 4 rfl) ?_
            refine zi_i2l hx hb dX1_derive_141 (by omega) ?_
            refine zl_mul hx hb dX1_derive_142 ?_
            refine zl_add hx hb dX1_derive_143 ?_
            refine rd_S (As := [.long (lZ ((V9 4 (v7 - 20).toNat) + (v6 * c1)))]) (rest := [.int (iZ (v7 - 20)), .ref (na 4)]) (st1 := [.long (lZ (((V9 4 (v7 - 20).toNat) + (v6 * c1)) % 32003)), .int (iZ (v7 - 20)), .ref (na 4)]) S (k_X1_modulo l ((V9 4 (v7 - 20).toNat) + (v6 * c1)) (by omega)) tb_445 tb_446 tb_2 tb_447 hd_X1_modulo ⟨rfl, rfl, by decide, by decide⟩ bl_T (fun _ _ _ => trivial) rfl hl.1 rfl (Nat.le_of_ble_eq_true rfl) dX1_derive_144 ⟨Nat.zero_le _, Nat.zero_le _⟩ rfl ?_
            refine mm_l hx hb hK hP hd hA hS 4 304 rfl (fun g => rfl) (by omega) dX1_derive_147 (fun H locs hP hS => ?_)
            obtain ⟨V10, eV10⟩ : ∃ Z : Nat → Nat → Int, Z = sV V9 4 (uZ (V9 4) (v7 - 20).toNat (((V9 4 (v7 - 20).toNat) + (v6 * c1)) % 32003)) := ⟨_, rfl⟩
            rw [← eV10] at hP
            have hg3 : V10 4 = uZ (V9 4) (v7 - 20).toNat ((V9 4 (v7 - 20).toNat + v6 * c1) % 32003) := by rw [eV10, sV_a]
            have hb3 : ∀ b, b ≠ 4 → V10 b = V9 b := fun b hb9 => by rw [eV10, sV_b hb9]
            refine zi_inc (lv' := [(3, .int (iZ (n + 1))), (6, .int (iZ v7)), (4, .long (lZ v6)), (0, .ref mo), (1, .int (iZ f)), (2, .int (iZ c1))]) hx hb dX1_derive_148 hl (k := 5) rfl (by decide) rfl (fun ls hl => ?_)
            refine lv_goto (tgt := 26) hx hb dX1_derive_151 (by decide) ?_
            exact ih26 (m26 - 1) (V10, n + 1) (by omega) (by (try dsimp only); exact ⟨by omega, by omega, dw_3 (by omega) (by omega) (by omega) hvn ea9 hI26.2.2.1 hg1 hg2 hg3 (by omega), by rw [hb3 2 (by decide), hb2 2 (by decide), hb1 2 (by decide)]; exact hI26.2.2.2.1, by rw [hb3 0 (by decide), hb2 0 (by decide), hb1 0 (by decide)]; exact hI26.2.2.2.2⟩) _ _ hP hS ls (lv_sub hl [3, 4, 5, 0] rfl)
  · exfalso
    omega
set_option maxHeartbeats 4000000 in
set_option maxRecDepth 100000 in
theorem kF_X1_derive (l : Launch) (D : va_G) (mo : Nat) (na : Nat → Nat) (cI cJ : ClassId) (c0 k : Int) (V : Nat → Nat → Int) (f : Int) (hd : dM mo na) (hN : ∀ j, 0 ≤ V 0 j ∧ V 0 j < 32003) (hk : 0 ≤ k ∧ k < 60) (hf : 0 ≤ f ∧ f < k) (h0 : stZ (V 0) f = 1) : wm_M l yX1_derive cX1_derive 7 (some .int) ({ frames := 3, cells := 0, slots := 0, locals := 68 }) [.int (iZ f)] D mo na cI cJ c0 k V (some (.int (iZ 0))) 2 k (fun Z => Z 0 = V 0) := by
  refine wm_of (by decide) rfl (Nat.le_of_ble_eq_true rfl) ?_
  intro p e s m below meth c A hAe S hr hlk hP hK hA hAn hS ls hl
  obtain ⟨hx, hb, hml, hown, hT⟩ := id S
  have hl : lv_has ls 7 [(0, .ref mo), (1, .int (iZ f))] := hl
  refine lv_aload_n hx hb dX1_derive_0 rfl (lv_at hl 0 rfl) ?_
  refine lv_iload_n hx hb dX1_derive_1 rfl (lv_at hl 1 rfl) ?_
  refine lv_iload_n hx hb dX1_derive_2 rfl (lv_at hl 1 rfl) ?_
  refine wm_V (As := [.int (iZ f), .int (iZ f)]) (rest := []) (st1 := [.int (iZ 1)]) (c1 := 0) (k1 := k) S (k_X1_may l D mo na cI cJ c0 k V f f hd hN (by omega) (by omega) (by omega)) tb_462 tb_464 ts_X1_may tb_2 tb_465 hd_X1_may ⟨rfl, rfl, by decide, by decide⟩ hP hK hS hA hAn rfl hl.1 rfl (Nat.le_of_ble_eq_true rfl) dX1_derive_3 ⟨Nat.zero_le _, Nat.zero_le _⟩ rfl (fun V1 H locs hRV1 hP hS _ _ => ?_)
  refine zi_fne (tgt := 11) hx hb dX1_derive_6 (by decide) (by omega) (fun hc6 => ?_) (fun hc6 => ?_)
  · refine lv_aload_n hx hb dX1_derive_11 rfl (lv_at hl 0 rfl) ?_
    refine wm_V (As := []) (rest := []) (st1 := []) (c1 := 0) (k1 := k) S (k_X1_start l D mo na cI cJ 0 k V1  hd ) tb_487 tb_489 ts_X1_start tb_2 tb_490 hd_X1_start ⟨rfl, rfl, by decide, by decide⟩ hP hK hS hA hAn rfl hl.1 rfl (Nat.le_of_ble_eq_true rfl) dX1_derive_12 ⟨Nat.zero_le _, Nat.zero_le _⟩ rfl (fun V2 H locs hRV2 hP hS _ _ => ?_)
    refine zi_const hx hb 0 dX1_derive_15 ?_
    refine lv_istore_n (lv' := [(2, .int (iZ 0)), (0, .ref mo), (1, .int (iZ f))]) hx hb dX1_derive_16 rfl hl (by decide) rfl (fun ls hl => ?_)
    refine lp_goM (nL := 7) (α := (Nat → Nat → Int) × Int) (fun z => [(0, .ref mo), (1, .int (iZ f)), (2, .int (iZ z.2))]) (fun _ => 0) (fun _ => k) (fun z => z.1) (fun m17 z => 0 ≤ z.2 ∧ z.2 + (m17 : Int) = 8 ∧ (∀ j : Nat, j < 304 → z.1 4 j = dwZ (mkZ (V 0) f (z.2 * 9)) f j) ∧ z.1 2 = V1 2 ∧ z.1 0 = V 0) ?_ 8 (V2, (0 : Int)) (by (try dsimp only); exact ⟨by omega, by omega, fun j hj => (by rw [hRV2.1 j hj]; exact (dw_0 (by omega) j).symm), hRV2.2 2 (by decide), (hRV2.2 0 (by decide)).trans hRV1.2.2⟩) _ _ hP hS ls (lv_sub hl [1, 2, 0] rfl)
    intro m17 z3 hI17 ih17 H locs hP hS ls hl
    obtain ⟨Y, c1⟩ := z3
    have hl : lv_has ls 7 [(0, .ref mo), (1, .int (iZ f)), (2, .int (iZ c1))] := hl
    have hI17 : 0 ≤ c1 ∧ c1 + (m17 : Int) = 8 ∧ (∀ j : Nat, j < 304 → Y 4 j = dwZ (mkZ (V 0) f (c1 * 9)) f j) ∧ Y 2 = V1 2 ∧ Y 0 = V 0 := hI17
    have hP : va_P D vwCl (mX mo na cI cJ 0 k Y) H := hP
    refine lv_iload_n hx hb dX1_derive_17 rfl (lv_at hl 2 rfl) ?_
    refine zi_bi hx hb 8 dX1_derive_18 (by decide) ?_
    refine zi_cge (tgt := 160) hx hb dX1_derive_20 (by decide) (by omega) (by omega) (fun hc20 => ?_) (fun hc20 => ?_)
    · have hdw : ∀ j : Nat, j < 304 → Y 4 j = dwZ (V 0) f j := fun j hj => by rw [hI17.2.2.1 j hj, show c1 * 9 = 72 by omega]; exact dw_72 (by omega) j
      refine lv_aload_n hx hb dX1_derive_160 rfl (lv_at hl 0 rfl) ?_
      refine wm_V (As := []) (rest := []) (st1 := [.int (iZ 0)]) (c1 := 2) (k1 := k) S (kF_X1_narrow l D mo na cI cJ 0 k Y  hd (by omega) (fun j hj => by rw [hdw j hj]; exact dwZ_rng _ _ _) (fun q => by have := (dw_ok hdw).mp q; omega)) tb_494 tb_496 ts_X1_narrow tb_2 tb_497 hd_X1_narrow ⟨rfl, rfl, by decide, by decide⟩ hP hK hS hA hAn rfl hl.1 rfl (Nat.le_of_ble_eq_true rfl) dX1_derive_161 ⟨Nat.zero_le _, Nat.zero_le _⟩ rfl (fun V4 H locs hRV4 hP hS _ _ => ?_)
      exact wm_iret hx hb hr hlk hP ((show V4 0 = V 0 from hRV4.trans hI17.2.2.2.2)) rfl rfl hS (congrArg (fun z => some (Value.int (iZ z))) (show (0 : Int) = 0 from rfl)) dX1_derive_164
    · refine zi_bi hx hb (-4) dX1_derive_23 (by decide) ?_
      refine lv_istore_n (lv' := [(3, .int (iZ (-4))), (0, .ref mo), (1, .int (iZ f)), (2, .int (iZ c1))]) hx hb dX1_derive_25 rfl hl (by decide) rfl (fun ls hl => ?_)
      refine lp_goM (nL := 7) (α := (Nat → Nat → Int) × Int) (fun z => [(0, .ref mo), (1, .int (iZ f)), (2, .int (iZ c1)), (3, .int (iZ z.2))]) (fun _ => 0) (fun _ => k) (fun z => z.1) (fun m26 z => -4 ≤ z.2 ∧ z.2 + (m26 : Int) = 5 ∧ (∀ j : Nat, j < 304 → z.1 4 j = dwZ (mkZ (V 0) f (c1 * 9 + z.2 + 4)) f j) ∧ z.1 2 = V1 2 ∧ z.1 0 = V 0) ?_ 9 (Y, ((-4) : Int)) (by (try dsimp only); exact ⟨by omega, by omega, fun j hj => (by rw [show c1 * 9 + -4 + 4 = c1 * 9 by omega]; exact hI17.2.2.1 j hj), hI17.2.2.2⟩) _ _ hP hS ls (lv_sub hl [1, 2, 3, 0] rfl)
      intro m26 z5 hI26 ih26 H locs hP hS ls hl
      obtain ⟨U, n⟩ := z5
      have hl : lv_has ls 7 [(0, .ref mo), (1, .int (iZ f)), (2, .int (iZ c1)), (3, .int (iZ n))] := hl
      have hI26 : -4 ≤ n ∧ n + (m26 : Int) = 5 ∧ (∀ j : Nat, j < 304 → U 4 j = dwZ (mkZ (V 0) f (c1 * 9 + n + 4)) f j) ∧ U 2 = V1 2 ∧ U 0 = V 0 := hI26
      have hP : va_P D vwCl (mX mo na cI cJ 0 k U) H := hP
      refine lv_iload_n hx hb dX1_derive_26 rfl (lv_at hl 3 rfl) ?_
      refine zi_const hx hb 4 dX1_derive_27 ?_
      refine zi_cgt (tgt := 154) hx hb dX1_derive_28 (by decide) (by omega) (by omega) (fun hc28 => ?_) (fun hc28 => ?_)
      · refine zi_inc (lv' := [(2, .int (iZ (c1 + 1))), (0, .ref mo), (1, .int (iZ f)), (3, .int (iZ n))]) hx hb dX1_derive_154 hl (k := 2) rfl (by decide) rfl (fun ls hl => ?_)
        refine lv_goto (tgt := 17) hx hb dX1_derive_157 (by decide) ?_
        exact ih17 (m17 - 1) (U, c1 + 1) (by omega) (by (try dsimp only); exact ⟨by omega, by omega, fun j hj => (by rw [show (c1 + 1) * 9 = c1 * 9 + n + 4 by omega]; exact hI26.2.2.1 j hj), hI26.2.2.2⟩) _ _ hP hS ls (lv_sub hl [1, 2, 0] rfl)
      · have hpU : ∀ j : Nat, j < 72 → U 2 j = V 0 ((f * 72).toNat + j) := fun j hj => by rw [hI26.2.2.2.1]; exact hRV1.1 j hj
        have hpx : U 2 (c1 * 9 + n + 4).toNat = nuZ (V 0) f c1 n := pn_at (by omega) hpU (by omega) (by omega)
        have hq1 := nuZ_rng hN f c1 n
        have hro := ro_or (c := c1) (by omega)
        refine lv_aload_n hx hb dX1_derive_31 rfl (lv_at hl 0 rfl) ?_
        refine va_get (D := D) (ci := 1) (C := RX1) (T := TX1) (N := 8) hx hb hT inX1 hown hK hP 0 rfl rfl 4 (by decide) (hT _ tb_406) (fun _ h9 => h9) rfl dX1_derive_32 ?_
        refine lv_iload_n hx hb dX1_derive_35 rfl (lv_at hl 2 rfl) ?_
        refine lv_iload_n hx hb dX1_derive_36 rfl (lv_at hl 3 rfl) ?_
        refine rd_S (As := [.int (iZ c1), .int (iZ n)]) (rest := [.ref (na 2)]) (st1 := [.int (iZ (c1 * 9 + n + 4)), .ref (na 2)]) S (k_X1_place l c1 n) tb_442 tb_443 tb_2 tb_444 hd_X1_place ⟨rfl, rfl, by decide, by decide⟩ bl_T (fun _ _ _ => trivial) rfl hl.1 rfl (Nat.le_of_ble_eq_true rfl) dX1_derive_37 ⟨Nat.zero_le _, Nat.zero_le _⟩ rfl ?_
        refine va_lald hx hb hK hP 3 1 rfl rfl (iZ_in (by omega) (by omega) (by decide)) dX1_derive_40 ?_
        refine zl_as (a := U 2 ((c1 * 9 + n + 4).toNat)) (by rw [iZ_cl (by omega) (by omega)]) ?_
        refine zl_top (fun v6 ev6 => ?_)
        refine lv_lstore (lv' := [(4, .long (lZ v6)), (0, .ref mo), (1, .int (iZ f)), (2, .int (iZ c1)), (3, .int (iZ n))]) hx hb dX1_derive_41 hl (by decide) rfl (fun ls hl => ?_)
        refine zi_bi hx hb 19 dX1_derive_43 (by decide) ?_
        refine lv_iload_n hx hb dX1_derive_45 rfl (lv_at hl 3 rfl) ?_
        refine rd_S (As := [.int (iZ c1)]) (rest := [.int (iZ 19)]) (st1 := [.int (iZ (roZ c1)), .int (iZ 19)]) S (k_X1_rowOf l c1 (by omega)) tb_498 tb_499 tb_2 tb_500 hd_X1_rowOf ⟨rfl, rfl, by decide, by decide⟩ bl_T (fun _ _ _ => trivial) rfl hl.1 rfl (Nat.le_of_ble_eq_true rfl) dX1_derive_46 ⟨Nat.zero_le _, Nat.zero_le _⟩ rfl ?_
        refine zi_mul hx hb dX1_derive_49 ?_
        refine lv_iload_n hx hb dX1_derive_50 rfl (lv_at hl 4 rfl) ?_
        refine zi_add hx hb dX1_derive_51 ?_
        refine zi_bi hx hb 9 dX1_derive_52 (by decide) ?_
        refine zi_add hx hb dX1_derive_54 ?_
        refine zi_top (fun v7 ev7 => ?_)
        refine lv_istore (lv' := [(6, .int (iZ v7)), (4, .long (lZ v6)), (0, .ref mo), (1, .int (iZ f)), (2, .int (iZ c1)), (3, .int (iZ n))]) hx hb dX1_derive_55 hl (by decide) rfl (fun ls hl => ?_)
        have hvn : v6 = nuZ (V 0) f c1 n := ev6.trans hpx
        have ea9 : v7 = 19 * roZ c1 + n + 9 := ev7
        rw [← hvn] at hq1
        have hud : ∀ j : Nat, j < 304 → 0 ≤ U 4 j ∧ U 4 j < 32003 := fun j hj => by rw [hI26.2.2.1 j hj]; exact dwZ_rng _ _ _
        have hu1 := hud (v7 - 1).toNat (by omega)
        have hs1 := sm_mul (a := n) (by omega) hq1
        have hc1 : v6 * n = n * v6 := Int.mul_comm _ _
        have hxe : -2 ≤ xpZ c1 ∧ xpZ c1 ≤ 2 := by rw [xp_ep (by omega)]; exact ePz_rng c1
        have hs2 := sm_mul (a := xpZ c1) (by omega) hq1
        have hc2 : v6 * xpZ c1 = xpZ c1 * v6 := Int.mul_comm _ _
        have hs3 := sm_mul (a := c1) (by omega) hq1
        have hc3 : v6 * c1 = c1 * v6 := Int.mul_comm _ _
        refine lv_aload_n hx hb dX1_derive_57 rfl (lv_at hl 2 rfl) ?_
        refine va_get (D := D) (ci := 1) (C := RX1) (T := TX1) (N := 8) hx hb hT inX1 hown hK hP 0 rfl rfl 6 (by decide) (hT _ tb_408) (fun _ h9 => h9) rfl dX1_derive_58 ?_
        refine lv_iload hx hb dX1_derive_61 (lv_at hl 0 rfl) ?_
        refine zi_const hx hb 1 dX1_derive_63 ?_
        refine zi_sub hx hb dX1_derive_64 ?_
        refine lv_aload_n hx hb dX1_derive_65 rfl (lv_at hl 2 rfl) ?_
        refine va_get (D := D) (ci := 1) (C := RX1) (T := TX1) (N := 8) hx hb hT inX1 hown hK hP 0 rfl rfl 6 (by decide) (hT _ tb_408) (fun _ h9 => h9) rfl dX1_derive_66 ?_
        refine lv_iload hx hb dX1_derive_69 (lv_at hl 0 rfl) ?_
        refine zi_const hx hb 1 dX1_derive_71 ?_
        refine zi_sub hx hb dX1_derive_72 ?_
        refine va_lald hx hb hK hP 5 1 rfl rfl (iZ_in (by omega) (by omega) (by decide)) dX1_derive_73 ?_
        refine zl_as (a := U 4 ((v7 - 1).toNat)) (by rw [iZ_cl (by omega) (by omega)]) ?_
        refine lv_lload hx hb dX1_derive_74 (lv_at hl 1 rfl) ?_
        refine lv_iload_n hx hb dX1_derive_76 rfl (lv_at hl 5 rfl) ?_
        refine zi_i2l hx hb dX1_derive_77 (by omega) ?_
        refine zl_mul hx hb dX1_derive_78 ?_
        refine zl_add hx hb dX1_derive_79 ?_
        refine rd_S (As := [.long (lZ ((U 4 (v7 - 1).toNat) + (v6 * n)))]) (rest := [.int (iZ (v7 - 1)), .ref (na 4)]) (st1 := [.long (lZ (((U 4 (v7 - 1).toNat) + (v6 * n)) % 32003)), .int (iZ (v7 - 1)), .ref (na 4)]) S (k_X1_modulo l ((U 4 (v7 - 1).toNat) + (v6 * n)) (by omega)) tb_445 tb_446 tb_2 tb_447 hd_X1_modulo ⟨rfl, rfl, by decide, by decide⟩ bl_T (fun _ _ _ => trivial) rfl hl.1 rfl (Nat.le_of_ble_eq_true rfl) dX1_derive_80 ⟨Nat.zero_le _, Nat.zero_le _⟩ rfl ?_
        refine mm_l hx hb hK hP hd hA hS 4 304 rfl (fun g => rfl) (by omega) dX1_derive_83 (fun H locs hP hS => ?_)
        obtain ⟨V8, eV8⟩ : ∃ Z : Nat → Nat → Int, Z = sV U 4 (uZ (U 4) (v7 - 1).toNat (((U 4 (v7 - 1).toNat) + (v6 * n)) % 32003)) := ⟨_, rfl⟩
        rw [← eV8] at hP
        have hg1 : V8 4 = uZ (U 4) (v7 - 1).toNat ((U 4 (v7 - 1).toNat + v6 * n) % 32003) := by rw [eV8, sV_a]
        have hb1 : ∀ b, b ≠ 4 → V8 b = U b := fun b hb9 => by rw [eV8, sV_b hb9]
        have hu2 : 0 ≤ V8 4 (v7).toNat ∧ V8 4 (v7).toNat < 32003 := by
          rw [hg1, u_ne (by omega)]
          exact hud _ (by omega)
        refine lv_aload_n hx hb dX1_derive_84 rfl (lv_at hl 2 rfl) ?_
        refine va_get (D := D) (ci := 1) (C := RX1) (T := TX1) (N := 8) hx hb hT inX1 hown hK hP 0 rfl rfl 6 (by decide) (hT _ tb_408) (fun _ h9 => h9) rfl dX1_derive_85 ?_
        refine lv_iload hx hb dX1_derive_88 (lv_at hl 0 rfl) ?_
        refine lv_aload_n hx hb dX1_derive_90 rfl (lv_at hl 2 rfl) ?_
        refine va_get (D := D) (ci := 1) (C := RX1) (T := TX1) (N := 8) hx hb hT inX1 hown hK hP 0 rfl rfl 6 (by decide) (hT _ tb_408) (fun _ h9 => h9) rfl dX1_derive_91 ?_
        refine lv_iload hx hb dX1_derive_94 (lv_at hl 0 rfl) ?_
        refine va_lald hx hb hK hP 5 1 rfl rfl (iZ_in (by omega) (by omega) (by decide)) dX1_derive_96 ?_
        refine zl_as (a := V8 4 ((v7).toNat)) (by rw [iZ_cl (by omega) (by omega)]) ?_
        refine lv_lload hx hb dX1_derive_97 (lv_at hl 1 rfl) ?_
        refine lv_iload_n hx hb dX1_derive_99 rfl (lv_at hl 4 rfl) ?_
        refine rd_S (As := [.int (iZ c1)]) (rest := [.long (lZ v6), .long (lZ (V8 4 (v7).toNat)), .int (iZ v7), .ref (na 4)]) (st1 := [.int (iZ (xpZ c1)), .long (lZ v6), .long (lZ (V8 4 (v7).toNat)), .int (iZ v7), .ref (na 4)]) S (k_X1_exponent l c1 (by omega)) tb_491 tb_492 tb_2 tb_493 hd_X1_exponent ⟨rfl, rfl, by decide, by decide⟩ bl_T (fun _ _ _ => trivial) rfl hl.1 rfl (Nat.le_of_ble_eq_true rfl) dX1_derive_100 ⟨Nat.zero_le _, Nat.zero_le _⟩ rfl ?_
        have hxe103 : xpZ c1 = (if c1 < 4 then 0 else if c1 < 6 then c1 - 6 else c1 - 5) := rfl
        refine zi_i2l hx hb dX1_derive_103 (by omega) ?_
        refine zl_mul hx hb dX1_derive_104 ?_
        refine zl_add hx hb dX1_derive_105 ?_
        refine rd_S (As := [.long (lZ ((V8 4 (v7).toNat) + (v6 * (xpZ c1))))]) (rest := [.int (iZ v7), .ref (na 4)]) (st1 := [.long (lZ (((V8 4 (v7).toNat) + (v6 * (xpZ c1))) % 32003)), .int (iZ v7), .ref (na 4)]) S (k_X1_modulo l ((V8 4 (v7).toNat) + (v6 * (xpZ c1))) (by omega)) tb_445 tb_446 tb_2 tb_447 hd_X1_modulo ⟨rfl, rfl, by decide, by decide⟩ bl_T (fun _ _ _ => trivial) rfl hl.1 rfl (Nat.le_of_ble_eq_true rfl) dX1_derive_106 ⟨Nat.zero_le _, Nat.zero_le _⟩ rfl ?_
        refine mm_l hx hb hK hP hd hA hS 4 304 rfl (fun g => rfl) (by omega) dX1_derive_109 (fun H locs hP hS => ?_)
        obtain ⟨V9, eV9⟩ : ∃ Z : Nat → Nat → Int, Z = sV V8 4 (uZ (V8 4) (v7).toNat (((V8 4 (v7).toNat) + (v6 * (xpZ c1))) % 32003)) := ⟨_, rfl⟩
        rw [← eV9] at hP
        have hg2 : V9 4 = uZ (V8 4) (v7).toNat ((V8 4 (v7).toNat + v6 * xpZ c1) % 32003) := by rw [eV9, sV_a]
        have hb2 : ∀ b, b ≠ 4 → V9 b = V8 b := fun b hb9 => by rw [eV9, sV_b hb9]
        have hu3 : 0 < c1 ∧ c1 < 4 → 0 ≤ V9 4 (v7 - 20).toNat ∧ V9 4 (v7 - 20).toNat < 32003 := fun q => by
          rw [hg2, u_ne (by omega), hg1, u_ne (by omega)]
          exact hud _ (by omega)
        refine lv_iload_n hx hb dX1_derive_110 rfl (lv_at hl 4 rfl) ?_
        refine zi_fle (tgt := 148) hx hb dX1_derive_111 (by decide) (by omega) (fun hc111 => ?_) (fun hc111 => ?_)
        · refine zi_inc (lv' := [(3, .int (iZ (n + 1))), (6, .int (iZ v7)), (4, .long (lZ v6)), (0, .ref mo), (1, .int (iZ f)), (2, .int (iZ c1))]) hx hb dX1_derive_148 hl (k := 5) rfl (by decide) rfl (fun ls hl => ?_)
          refine lv_goto (tgt := 26) hx hb dX1_derive_151 (by decide) ?_
          exact ih26 (m26 - 1) (V9, n + 1) (by omega) (by (try dsimp only); exact ⟨by omega, by omega, dw_2 (by omega) (by omega) (by omega) hvn ea9 hI26.2.2.1 hg1 hg2 (by omega), by rw [hb2 2 (by decide), hb1 2 (by decide)]; exact hI26.2.2.2.1, by rw [hb2 0 (by decide), hb1 0 (by decide)]; exact hI26.2.2.2.2⟩) _ _ hP hS ls (lv_sub hl [3, 4, 5, 0] rfl)
        · refine lv_iload_n hx hb dX1_derive_114 rfl (lv_at hl 4 rfl) ?_
          refine zi_const hx hb 4 dX1_derive_115 ?_
          refine zi_cge (tgt := 148) hx hb dX1_derive_116 (by decide) (by omega) (by omega) (fun hc116 => ?_) (fun hc116 => ?_)
          · refine zi_inc (lv' := [(3, .int (iZ (n + 1))), (6, .int (iZ v7)), (4, .long (lZ v6)), (0, .ref mo), (1, .int (iZ f)), (2, .int (iZ c1))]) hx hb dX1_derive_148 hl (k := 5) rfl (by decide) rfl (fun ls hl => ?_)
            refine lv_goto (tgt := 26) hx hb dX1_derive_151 (by decide) ?_
            exact ih26 (m26 - 1) (V9, n + 1) (by omega) (by (try dsimp only); exact ⟨by omega, by omega, dw_2 (by omega) (by omega) (by omega) hvn ea9 hI26.2.2.1 hg1 hg2 (by omega), by rw [hb2 2 (by decide), hb1 2 (by decide)]; exact hI26.2.2.2.1, by rw [hb2 0 (by decide), hb1 0 (by decide)]; exact hI26.2.2.2.2⟩) _ _ hP hS ls (lv_sub hl [3, 4, 5, 0] rfl)
          · have hu3 := hu3 (by omega)
            refine lv_aload_n hx hb dX1_derive_119 rfl (lv_at hl 2 rfl) ?_
            refine va_get (D := D) (ci := 1) (C := RX1) (T := TX1) (N := 8) hx hb hT inX1 hown hK hP 0 rfl rfl 6 (by decide) (hT _ tb_408) (fun _ h9 => h9) rfl dX1_derive_120 ?_
            refine lv_iload hx hb dX1_derive_123 (lv_at hl 0 rfl) ?_
            refine zi_bi hx hb 20 dX1_derive_125 (by decide) ?_
            refine zi_sub hx hb dX1_derive_127 ?_
            refine lv_aload_n hx hb dX1_derive_128 rfl (lv_at hl 2 rfl) ?_
            refine va_get (D := D) (ci := 1) (C := RX1) (T := TX1) (N := 8) hx hb hT inX1 hown hK hP 0 rfl rfl 6 (by decide) (hT _ tb_408) (fun _ h9 => h9) rfl dX1_derive_129 ?_
            refine lv_iload hx hb dX1_derive_132 (lv_at hl 0 rfl) ?_
            refine zi_bi hx hb 20 dX1_derive_134 (by decide) ?_
            refine zi_sub hx hb dX1_derive_136 ?_
            refine va_lald hx hb hK hP 5 1 rfl rfl (iZ_in (by omega) (by omega) (by decide)) dX1_derive_137 ?_
            refine zl_as (a := V9 4 ((v7 - 20).toNat)) (by rw [iZ_cl (by omega) (by omega)]) ?_
            refine lv_lload hx hb dX1_derive_138 (lv_at hl 1 rfl) ?_
            refine lv_iload_n hx hb dX1_derive_140 rfl (lv_at hl 4 rfl) ?_
            refine zi_i2l hx hb dX1_derive_141 (by omega) ?_
            refine zl_mul hx hb dX1_derive_142 ?_
            refine zl_add hx hb dX1_derive_143 ?_
            refine rd_S (As := [.long (lZ ((V9 4 (v7 - 20).toNat) + (v6 * c1)))]) (rest := [.int (iZ (v7 - 20)), .ref (na 4)]) (st1 := [.long (lZ (((V9 4 (v7 - 20).toNat) + (v6 * c1)) % 32003)), .int (iZ (v7 - 20)), .ref (na 4)]) S (k_X1_modulo l ((V9 4 (v7 - 20).toNat) + (v6 * c1)) (by omega)) tb_445 tb_446 tb_2 tb_447 hd_X1_modulo ⟨rfl, rfl, by decide, by decide⟩ bl_T (fun _ _ _ => trivial) rfl hl.1 rfl (Nat.le_of_ble_eq_true rfl) dX1_derive_144 ⟨Nat.zero_le _, Nat.zero_le _⟩ rfl ?_
            refine mm_l hx hb hK hP hd hA hS 4 304 rfl (fun g => rfl) (by omega) dX1_derive_147 (fun H locs hP hS => ?_)
            obtain ⟨V10, eV10⟩ : ∃ Z : Nat → Nat → Int, Z = sV V9 4 (uZ (V9 4) (v7 - 20).toNat (((V9 4 (v7 - 20).toNat) + (v6 * c1)) % 32003)) := ⟨_, rfl⟩
            rw [← eV10] at hP
            have hg3 : V10 4 = uZ (V9 4) (v7 - 20).toNat ((V9 4 (v7 - 20).toNat + v6 * c1) % 32003) := by rw [eV10, sV_a]
            have hb3 : ∀ b, b ≠ 4 → V10 b = V9 b := fun b hb9 => by rw [eV10, sV_b hb9]
            refine zi_inc (lv' := [(3, .int (iZ (n + 1))), (6, .int (iZ v7)), (4, .long (lZ v6)), (0, .ref mo), (1, .int (iZ f)), (2, .int (iZ c1))]) hx hb dX1_derive_148 hl (k := 5) rfl (by decide) rfl (fun ls hl => ?_)
            refine lv_goto (tgt := 26) hx hb dX1_derive_151 (by decide) ?_
            exact ih26 (m26 - 1) (V10, n + 1) (by omega) (by (try dsimp only); exact ⟨by omega, by omega, dw_3 (by omega) (by omega) (by omega) hvn ea9 hI26.2.2.1 hg1 hg2 hg3 (by omega), by rw [hb3 2 (by decide), hb2 2 (by decide), hb1 2 (by decide)]; exact hI26.2.2.2.1, by rw [hb3 0 (by decide), hb2 0 (by decide), hb1 0 (by decide)]; exact hI26.2.2.2.2⟩) _ _ hP hS ls (lv_sub hl [3, 4, 5, 0] rfl)
  · exfalso
    omega
