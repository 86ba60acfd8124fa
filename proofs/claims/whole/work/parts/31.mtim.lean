/-- the reference's wide rows against the class's -/
def rwR (M G : Nat → Int) : Prop := (∀ j : Nat, j < 304 → 0 ≤ M j ∧ M j < 32003) ∧ (∀ r : Int, 0 ≤ r → r < 16 → M (19 * r).toNat = 0 ∧ M (19 * r + 18).toNat = 0) ∧ (∀ n : Int, -8 ≤ n → n ≤ 8 → G (n + 8).toNat = (M (n + 9).toNat + M (218 + n).toNat) % 32003) ∧ (∀ c n : Int, 1 ≤ c → c ≤ 10 → -8 ≤ n → n ≤ 8 → G (c * 17 + n + 8).toNat = M (19 * c + n + 9).toNat) ∧ (∀ c n : Int, 11 ≤ c → c ≤ 14 → -8 ≤ n → n ≤ 8 → G (c * 17 + n + 8).toNat = M (19 * (c + 1) + n + 9).toNat)
theorem rw_0 {M G : Nat → Int} (h : ∀ j : Nat, j < 304 → M j = 0) (h2 : ∀ j : Nat, j < 255 → G j = 0) : rwR M G := by
  refine ⟨fun j hj => by rw [h j hj]; omega, fun r h3 h4 => ⟨h _ (by omega), h _ (by omega)⟩, fun n h3 h4 => ?_, fun c n h3 h4 h5 h6 => ?_, fun c n h3 h4 h5 h6 => ?_⟩
  · rw [h2 _ (by omega), h _ (by omega), h _ (by omega)]; rfl
  · rw [h2 _ (by omega), h _ (by omega)]
  · rw [h2 _ (by omega), h _ (by omega)]
theorem u_ne {g : Nat → Int} {i j : Nat} {x : Int} (h : ¬ j = i) : uZ g i x j = g j := by unfold uZ; rw [if_neg h]
theorem u_eq {g : Nat → Int} {i j : Nat} {x : Int} (h : j = i) : uZ g i x j = x := by unfold uZ; rw [if_pos h]
theorem rw_step {M G : Nat → Int} {row c0 n0 at9 v : Int} (h : rwR M G) (hrow : 0 ≤ row ∧ row ≤ 15) (hc : (row = 11 ∧ c0 = 0) ∨ (row < 11 ∧ c0 = row) ∨ (11 < row ∧ c0 = row - 1)) (hn : -8 ≤ n0 ∧ n0 ≤ 8) (ha : at9 = 19 * row + n0 + 9) (hv : v ≠ 0) : rwR (uZ M at9.toNat ((M at9.toNat + v) % 32003)) (awZ G c0 n0 v) := by
  obtain ⟨h1, h2, h3, h4, h5⟩ := h
  unfold awZ
  rw [if_neg hv]
  refine ⟨fun j hj => ?_, fun r a1 a2 => ⟨?_, ?_⟩, fun n a1 a2 => ?_, fun c n a1 a2 a3 a4 => ?_, fun c n a1 a2 a3 a4 => ?_⟩
  · by_cases q : j = at9.toNat
    · rw [u_eq q]; omega
    · rw [u_ne q]; exact h1 j hj
  · rw [u_ne (by omega)]; exact (h2 r a1 a2).1
  · rw [u_ne (by omega)]; exact (h2 r a1 a2).2
  · have hh := h3 n a1 a2
    by_cases q : c0 = 0 ∧ n = n0
    · rw [u_eq (i := (c0 * 17 + n0 + 8).toNat) (by omega)]
      rw [show (c0 * 17 + n0 + 8).toNat = (n + 8).toNat by omega]
      rcases hc with ⟨b1, b2⟩ | ⟨b1, b2⟩ | ⟨b1, b2⟩
      · rw [u_ne (j := (n + 9).toNat) (by omega), u_eq (j := (218 + n).toNat) (by omega), show at9.toNat = (218 + n).toNat by omega]
        omega
      · rw [u_eq (j := (n + 9).toNat) (by omega), u_ne (j := (218 + n).toNat) (by omega), show at9.toNat = (n + 9).toNat by omega]
        omega
      · omega
    · rw [u_ne (by omega), u_ne (by omega), u_ne (by omega)]
      exact hh
  · have hh := h4 c n a1 a2 a3 a4
    by_cases q : c = c0 ∧ n = n0
    · rw [u_eq (by omega), u_eq (by omega), show (c0 * 17 + n0 + 8).toNat = (c * 17 + n + 8).toNat by omega, show at9.toNat = (19 * c + n + 9).toNat by omega, hh]
    · rw [u_ne (by omega), u_ne (by omega)]
      exact hh
  · have hh := h5 c n a1 a2 a3 a4
    by_cases q : c = c0 ∧ n = n0
    · rw [u_eq (by omega), u_eq (by omega), show (c0 * 17 + n0 + 8).toNat = (c * 17 + n + 8).toNat by omega, show at9.toNat = (19 * (c + 1) + n + 9).toNat by omega, hh]
    · rw [u_ne (by omega), u_ne (by omega)]
      exact hh
theorem rw_nw {M G : Nat → Int} (h : rwR M G) {c n r : Int} (hc : 0 ≤ c ∧ c < 15) (hn : -8 ≤ n ∧ n ≤ 8) (hr : (c ≤ 10 ∧ r = c) ∨ (11 ≤ c ∧ r = c + 1)) : nwZ M (19 * r + n + 9).toNat = G (c * 17 + n + 8).toNat := by
  obtain ⟨h1, h2, h3, h4, h5⟩ := h
  unfold nwZ
  by_cases q : c = 0
  · rw [if_pos (by omega), show (c * 17 + n + 8).toNat = (n + 8).toNat by omega, h3 n hn.1 hn.2, show 209 + (19 * r + n + 9).toNat = (218 + n).toNat by omega, show (19 * r + n + 9).toNat = (n + 9).toNat by omega]
  · rw [if_neg (by omega), if_neg (by omega)]
    by_cases q2 : c ≤ 10
    · rw [h4 c n (by omega) q2 hn.1 hn.2, show r = c by omega]
    · rw [h5 c n (by omega) (by omega) hn.1 hn.2, show r = c + 1 by omega]
theorem rw_row {M G : Nat → Int} (h : rwR M G) {c n : Int} (hc : 0 ≤ c ∧ c < 8) (hn : -4 ≤ n ∧ n ≤ 4) : nwZ M (19 * roZ c + n + 9).toNat = wnZ G (wkZ c 0) n := by
  have hw := wk_0z hc
  have hro : roZ c = if c < 4 then c else 11 + xpZ c := rfl
  have hx : xpZ c = if c < 4 then 0 else if c < 6 then c - 6 else c - 5 := rfl
  unfold wnZ
  by_cases q : c < 4
  · rw [if_pos q] at hw hro
    rw [if_pos (by omega)]
    exact rw_nw h (by omega) (by omega) (by omega)
  · rw [if_neg q] at hw hro hx
    have hro2 : (c < 6 ∧ roZ c = c + 5) ∨ (6 ≤ c ∧ roZ c = c + 6) := by
      by_cases q2 : c < 6
      · rw [if_pos q2] at hx; omega
      · rw [if_neg q2] at hx; omega
    rw [if_pos (by omega)]
    exact rw_nw h (by omega) (by omega) (by omega)
theorem kn_iff (c : Int) : knZ c = 1 ↔ 0 ≤ c ∧ (c < 4 ∨ (8 < c ∧ c < 13)) := by
  unfold knZ
  split
  · split <;> omega
  · omega
theorem rw_ok {M G : Nat → Int} (h : rwR M G) : okN M ↔ ptZ G = 0 := by
  constructor
  · intro hk
    unfold ptZ
    rw [if_pos]
    intro c hc j hj hz
    unfold wnZ at hz
    rw [if_pos (by omega)] at hz
    obtain ⟨r, hr⟩ : ∃ r : Int, ((c : Int) ≤ 10 ∧ r = c) ∨ (11 ≤ (c : Int) ∧ r = c + 1) := by
      by_cases q : (c : Int) ≤ 10
      · exact ⟨c, Or.inl ⟨q, rfl⟩⟩
      · exact ⟨c + 1, Or.inr ⟨by omega, rfl⟩⟩
    rw [← rw_nw h (r := r) (by omega) (by omega) hr] at hz
    have := hk _ (by omega) hz
    rw [kn_iff]
    omega
  · intro hp j hj hz
    unfold ptZ at hp
    split at hp
    · next h9 =>
      have hed : 1 ≤ j % 19 ∧ j % 19 ≤ 17 ∧ j / 19 ≠ 11 := by
        obtain ⟨h1, h2, h3, h4, h5⟩ := h
        refine ⟨?_, ?_, ?_⟩
        · rcases Nat.eq_zero_or_pos (j % 19) with q | q
          · exfalso
            apply hz
            unfold nwZ
            have e1 := (h2 (j / 19 : Nat) (by omega) (by omega)).1
            rw [show (19 * ((j / 19 : Nat) : Int)).toNat = j by omega] at e1
            split
            · have e2 := (h2 11 (by omega) (by omega)).1
              rw [show (19 * (11 : Int)).toNat = 209 + j by omega] at e2
              omega
            · split
              · rfl
              · exact e1
          · exact q
        · by_cases q : j % 19 ≤ 17
          · exact q
          · exfalso
            apply hz
            unfold nwZ
            have e1 := (h2 (j / 19 : Nat) (by omega) (by omega)).2
            rw [show (19 * ((j / 19 : Nat) : Int) + 18).toNat = j by omega] at e1
            split
            · have e2 := (h2 11 (by omega) (by omega)).2
              rw [show (19 * (11 : Int) + 18).toNat = 209 + j by omega] at e2
              omega
            · split
              · rfl
              · exact e1
        · intro q
          apply hz
          unfold nwZ
          rw [if_neg (by omega), if_pos (by omega)]
      obtain ⟨c, hc⟩ : ∃ c : Nat, (j / 19 ≤ 10 ∧ c = j / 19) ∨ (12 ≤ j / 19 ∧ c + 1 = j / 19) := by
        by_cases q : j / 19 ≤ 10
        · exact ⟨j / 19, Or.inl ⟨q, rfl⟩⟩
        · exact ⟨j / 19 - 1, Or.inr ⟨by omega, by omega⟩⟩
      have hz2 := rw_nw h (c := c) (n := (j % 19 : Nat) - 9) (r := (j / 19 : Nat)) (by omega) (by omega) (by omega)
      rw [show (19 * ((j / 19 : Nat) : Int) + (((j % 19 : Nat) : Int) - 9) + 9).toNat = j by omega] at hz2
      have h8 := h9 c (by omega) (j % 19 - 1) (by omega) (by unfold wnZ; rw [if_pos (by omega), show ((j % 19 - 1 : Nat) : Int) - 8 = ((j % 19 : Nat) : Int) - 9 by omega, ← hz2]; exact hz)
      rw [kn_iff] at h8
      omega
    · omega
def mrN (a b : Nat) : Int := if a < 4 ∧ b < 4 then (a : Int) + b else 11 + xpZ a + xpZ b
def mrP (a b : Nat) : Prop := (1 ≤ a ∧ a < 4 ∧ 4 ≤ b) ∨ (4 ≤ a ∧ 1 ≤ b ∧ b < 4) ∨ ((0 ≤ mrN a b ∧ mrN a b ≤ 15) ∧ ((mrN a b = 11 ∧ wkZ b a = 0) ∨ (mrN a b < 11 ∧ wkZ b a = mrN a b) ∨ (11 < mrN a b ∧ wkZ b a = mrN a b - 1)))
theorem rw_leg {a b : Nat} (ha : a < 8) (hb : b < 8) : mrP a b := by
  unfold mrP
  rcases (show a = 0 ∨ a = 1 ∨ a = 2 ∨ a = 3 ∨ a = 4 ∨ a = 5 ∨ a = 6 ∨ a = 7 by omega) with h | h | h | h | h | h | h | h <;> rw [h] <;> rcases (show b = 0 ∨ b = 1 ∨ b = 2 ∨ b = 3 ∨ b = 4 ∨ b = 5 ∨ b = 6 ∨ b = 7 by omega) with q | q | q | q | q | q | q | q <;> rw [q] <;> decide
theorem rw_lz {a b row : Int} (ha : 0 ≤ a ∧ a < 8) (hb : 0 ≤ b ∧ b < 8) (h1 : ¬ (1 ≤ a ∧ a < 4 ∧ 4 ≤ b)) (h2 : ¬ (4 ≤ a ∧ 1 ≤ b ∧ b < 4)) (hr : row = if a < 4 ∧ b < 4 then a + b else 11 + xpZ a + xpZ b) : (0 ≤ row ∧ row ≤ 15) ∧ ((row = 11 ∧ wkZ b a = 0) ∨ (row < 11 ∧ wkZ b a = row) ∨ (11 < row ∧ wkZ b a = row - 1)) := by
  obtain ⟨x, rfl⟩ : ∃ k : Nat, a = k := ⟨a.toNat, by omega⟩
  obtain ⟨y, rfl⟩ : ∃ k : Nat, b = k := ⟨b.toNat, by omega⟩
  have := rw_leg (a := x) (b := y) (by omega) (by omega)
  unfold mrP at this
  have hif : mrN x y = row := by
    rw [hr]
    unfold mrN
    by_cases q : x < 4 ∧ y < 4
    · rw [if_pos q, if_pos (by omega)]
    · rw [if_neg q, if_neg (by omega)]
  rw [hif] at this
  rcases this with h3 | h3 | h3
  · omega
  · omega
  · exact h3
theorem lm_leg {N : Nat → Int} {f g : Int} (h : lmZ N f g = 0) {i k : Nat} (hi : 9 ≤ i ∧ i < 36) (hk : 36 ≤ k ∧ k < 72) (hf : 0 ≤ f) (hg : 0 ≤ g) (h1 : N ((f * 72).toNat + i) ≠ 0) (h2 : N ((g * 72).toNat + k) ≠ 0) : False := by
  rcases lmZ_or N f g with ⟨h3, -⟩ | ⟨-, h3⟩
  · omega
  · apply h3
    exact ⟨cn_pos (m := i - 9) (by rw [show (f * 72 + 9).toNat + (i - 9) = (f * 72).toNat + i by omega]; exact h1) _ (by omega), cn_pos (m := k - 36) (by rw [show (g * 72 + 36).toNat + (k - 36) = (g * 72).toNat + k by omega]; exact h2) _ (by omega)⟩
theorem cn_cg {g h : Nat → Int} {a b : Nat} : ∀ n : Nat, (∀ j : Nat, j < n → g (a + j) = h (b + j)) → cnZ g a n = cnZ h b n := by
  intro n
  induction n with
  | zero => intro _; rfl
  | succ n ih =>
    intro hh
    rw [cnZ_step, cnZ_step, ih (fun j hj => hh j (by omega)), hh n (by omega)]
theorem am_skip {F G : Nat → Int} {g a b t i : Int} (hi : 0 ≤ i) (h0 : F ((g * 72).toNat + i.toNat) = 0) : amZ F G g a b t (i + 1).toNat = amZ F G g a b t i.toNat := by
  rw [show (i + 1).toNat = i.toNat + 1 by omega]
  show awZ _ _ _ (t * F ((g * 72).toNat + i.toNat)) = _
  unfold awZ
  rw [h0, Int.mul_zero, if_pos rfl]
theorem am_go {F G : Nat → Int} {g a b t i : Int} (hi : 0 ≤ i) : amZ F G g a b t (i + 1).toNat = awZ (amZ F G g a b t i.toNat) (wkZ (jC i.toNat) a) (jN i.toNat + b) (t * F ((g * 72).toNat + i.toNat)) := by
  rw [show (i + 1).toNat = i.toNat + 1 by omega]
  rfl
theorem sp_go {F G : Nat → Int} {f g i : Int} (hi : 0 ≤ i) : spZ F G f g (i + 1).toNat = if F ((f * 72).toNat + i.toNat) = 0 then spZ F G f g i.toNat else amZ F (spZ F G f g i.toNat) g (jC i.toNat) (jN i.toNat) (F ((f * 72).toNat + i.toNat)) 72 := by
  rw [show (i + 1).toNat = i.toNat + 1 by omega]
  rfl
theorem jCz {i : Int} (hi : 0 ≤ i) : jC i.toNat = i / 9 ∧ jN i.toNat = i % 9 - 4 := by
  unfold jC jN
  omega
theorem td9 {n : Int} (h : 0 ≤ n) : Int.tdiv n 9 = n / 9 := Int.tdiv_eq_ediv_of_nonneg h
theorem tm9 {n : Int} (h : 0 ≤ n) : Int.tmod n 9 = n % 9 := Int.tmod_eq_emod_of_nonneg h
set_option maxHeartbeats 4000000 in
set_option maxRecDepth 100000 in
theorem k_X1_times (l : Launch) (D : va_G) (mo : Nat) (na : Nat → Nat) (cI cJ : ClassId) (c0 k : Int) (V : Nat → Nat → Int) (f g : Int) (hd : dM mo na) (G : Nat → Int) (hN : ∀ j, 0 ≤ V 0 j ∧ V 0 j < 32003) (hk : 0 ≤ k ∧ k < 60) (hf : 0 ≤ f ∧ f < k) (hg : 0 ≤ g ∧ g < k) (h0 : lmZ (V 0) f g = 0 ∧ lmZ (V 0) g f = 0) (h1 : ptZ (spZ (V 0) G f g 72) = 0) : wm_M l yX1_times cX1_times 9 (some .int) ({ frames := 3, cells := 0, slots := 0, locals := 68 }) [.int (iZ f), .int (iZ g)] D mo na cI cJ c0 k V (some (.int (iZ k))) 0 (k + 1) (fun Z => (∀ j : Nat, j < 72 → Z 0 ((k * 72).toNat + j) = wnZ (spZ (V 0) G f g 72) (wkZ (jC j) 0) (jN j)) ∧ ∀ j : Nat, (j : Int) < k * 72 ∨ k * 72 + 72 ≤ (j : Int) → Z 0 j = V 0 j) := by
  refine wm_of (by decide) rfl (Nat.le_of_ble_eq_true rfl) ?_
  intro p e s m below meth c A hAe S hr hlk hP hK hA hAn hS ls hl
  obtain ⟨hx, hb, hml, hown, hT⟩ := id S
  have hl : lv_has ls 9 [(0, .ref mo), (1, .int (iZ f)), (2, .int (iZ g))] := hl
  refine lv_aload_n hx hb dX1_times_0 rfl (lv_at hl 0 rfl) ?_
  refine lv_iload_n hx hb dX1_times_1 rfl (lv_at hl 1 rfl) ?_
  refine lv_iload_n hx hb dX1_times_2 rfl (lv_at hl 2 rfl) ?_
  refine wm_V (As := [.int (iZ f), .int (iZ g)]) (rest := []) (st1 := [.int (iZ 1)]) (c1 := 0) (k1 := k) S (k_X1_may l D mo na cI cJ c0 k V f g hd hN (by omega) (by omega) (by omega)) tb_462 tb_464 ts_X1_may tb_2 tb_465 hd_X1_may ⟨rfl, rfl, by decide, by decide⟩ hP hK hS hA hAn rfl hl.1 rfl (Nat.le_of_ble_eq_true rfl) dX1_times_3 ⟨Nat.zero_le _, Nat.zero_le _⟩ rfl (fun V1 H locs hRV1 hP hS _ _ => ?_)
  have hp2 : ∀ j : Nat, j < 72 → 0 ≤ V1 2 j ∧ V1 2 j < 32003 := fun j hj => by rw [hRV1.1 j hj]; exact hN _
  have hp3 : ∀ j : Nat, j < 72 → 0 ≤ V1 3 j ∧ V1 3 j < 32003 := fun j hj => by rw [hRV1.2.1 j hj]; exact hN _
  have hc2_9 : cnZ (V1 2) (1 * 9 : Int).toNat ((4 - 1) * 9 : Int).toNat = cnZ (V 0) (f * 72 + 9).toNat 27 := cn_cg 27 (fun j hj => by rw [show (1 * 9 : Int).toNat + j = 9 + j from rfl, hRV1.1 _ (by omega)]; exact congrArg (V 0) (by omega))
  have hc2_36 : cnZ (V1 2) (4 * 9 : Int).toNat ((8 - 4) * 9 : Int).toNat = cnZ (V 0) (f * 72 + 36).toNat 36 := cn_cg 36 (fun j hj => by rw [show (4 * 9 : Int).toNat + j = 36 + j from rfl, hRV1.1 _ (by omega)]; exact congrArg (V 0) (by omega))
  have hc3_9 : cnZ (V1 3) (1 * 9 : Int).toNat ((4 - 1) * 9 : Int).toNat = cnZ (V 0) (g * 72 + 9).toNat 27 := cn_cg 27 (fun j hj => by rw [show (1 * 9 : Int).toNat + j = 9 + j from rfl, hRV1.2.1 _ (by omega)]; exact congrArg (V 0) (by omega))
  have hc3_36 : cnZ (V1 3) (4 * 9 : Int).toNat ((8 - 4) * 9 : Int).toNat = cnZ (V 0) (g * 72 + 36).toNat 36 := cn_cg 36 (fun j hj => by rw [show (4 * 9 : Int).toNat + j = 36 + j from rfl, hRV1.2.1 _ (by omega)]; exact congrArg (V 0) (by omega))
  have hlm1 := lmZ_or (V 0) f g
  have hlm2 := lmZ_or (V 0) g f
  have hs2_9 := hsZ_or (V1 2) (1 * 9 : Int).toNat ((4 - 1) * 9 : Int).toNat
  rw [hc2_9] at hs2_9
  have hs2_36 := hsZ_or (V1 2) (4 * 9 : Int).toNat ((8 - 4) * 9 : Int).toNat
  rw [hc2_36] at hs2_36
  have hs3_9 := hsZ_or (V1 3) (1 * 9 : Int).toNat ((4 - 1) * 9 : Int).toNat
  rw [hc3_9] at hs3_9
  have hs3_36 := hsZ_or (V1 3) (4 * 9 : Int).toNat ((8 - 4) * 9 : Int).toNat
  rw [hc3_36] at hs3_36
  refine zi_fne (tgt := 11) hx hb dX1_times_6 (by decide) (by omega) (fun hc6 => ?_) (fun hc6 => ?_)
  · refine lv_aload_n hx hb dX1_times_11 rfl (lv_at hl 0 rfl) ?_
    refine lv_aload_n hx hb dX1_times_12 rfl (lv_at hl 0 rfl) ?_
    refine va_get (D := D) (ci := 1) (C := RX1) (T := TX1) (N := 8) hx hb hT inX1 hown hK hP 0 rfl rfl 4 (by decide) (hT _ tb_406) (fun _ h9 => h9) rfl dX1_times_13 ?_
    refine zi_const hx hb 1 dX1_times_16 ?_
    refine zi_const hx hb 4 dX1_times_17 ?_
    refine rd_V (As := [.ref (na 2), .int (iZ ((1 : Int))), .int (iZ ((4 : Int)))]) (rest := []) (st1 := [.int (iZ (hsZ (V1 2) (((1 : Int)) * 9).toNat ((((4 : Int)) - ((1 : Int))) * 9).toNat))]) S (k2_X1_has l D mo na cI cJ 0 k V1 ((1 : Int)) ((4 : Int)) (by omega) hp2) tb_479 tb_481 ts_X1_has tb_2 tb_482 hd_X1_has ⟨rfl, rfl, by decide, by decide⟩ rM_bl (rM_mv hP hK) (va_recv hK hP (ci := 1) (q0 := 0) rfl rfl) rfl hl.1 rfl (Nat.le_of_ble_eq_true rfl) dX1_times_18 ⟨Nat.zero_le _, Nat.zero_le _⟩ rfl ?_
    refine zi_feq (tgt := 38) hx hb dX1_times_21 (by decide) (by omega) (fun hc21 => ?_) (fun hc21 => ?_)
    · refine lv_aload_n hx hb dX1_times_38 rfl (lv_at hl 0 rfl) ?_
      refine lv_aload_n hx hb dX1_times_39 rfl (lv_at hl 0 rfl) ?_
      refine va_get (D := D) (ci := 1) (C := RX1) (T := TX1) (N := 8) hx hb hT inX1 hown hK hP 0 rfl rfl 4 (by decide) (hT _ tb_406) (fun _ h9 => h9) rfl dX1_times_40 ?_
      refine zi_const hx hb 4 dX1_times_43 ?_
      refine zi_bi hx hb 8 dX1_times_44 (by decide) ?_
      refine rd_V (As := [.ref (na 2), .int (iZ ((4 : Int))), .int (iZ ((8 : Int)))]) (rest := []) (st1 := [.int (iZ (hsZ (V1 2) (((4 : Int)) * 9).toNat ((((8 : Int)) - ((4 : Int))) * 9).toNat))]) S (k2_X1_has l D mo na cI cJ 0 k V1 ((4 : Int)) ((8 : Int)) (by omega) hp2) tb_479 tb_481 ts_X1_has tb_2 tb_482 hd_X1_has ⟨rfl, rfl, by decide, by decide⟩ rM_bl (rM_mv hP hK) (va_recv hK hP (ci := 1) (q0 := 0) rfl rfl) rfl hl.1 rfl (Nat.le_of_ble_eq_true rfl) dX1_times_46 ⟨Nat.zero_le _, Nat.zero_le _⟩ rfl ?_
      refine zi_feq (tgt := 71) hx hb dX1_times_49 (by decide) (by omega) (fun hc49 => ?_) (fun hc49 => ?_)
      · refine lv_aload_n hx hb dX1_times_71 rfl (lv_at hl 0 rfl) ?_
        refine wm_V (As := []) (rest := []) (st1 := []) (c1 := 0) (k1 := k) S (k_X1_start l D mo na cI cJ 0 k V1  hd ) tb_487 tb_489 ts_X1_start tb_2 tb_490 hd_X1_start ⟨rfl, rfl, by decide, by decide⟩ hP hK hS hA hAn rfl hl.1 rfl (Nat.le_of_ble_eq_true rfl) dX1_times_72 ⟨Nat.zero_le _, Nat.zero_le _⟩ rfl (fun V2 H locs hRV2 hP hS _ _ => ?_)
        refine zi_const hx hb 0 dX1_times_75 ?_
        refine lv_istore_n (lv' := [(3, .int (iZ 0)), (0, .ref mo), (1, .int (iZ f)), (2, .int (iZ g))]) hx hb dX1_times_76 rfl hl (by decide) rfl (fun ls hl => ?_)
        refine lp_goM (nL := 9) (α := (Nat → Nat → Int) × Int) (fun z => [(0, .ref mo), (1, .int (iZ f)), (2, .int (iZ g)), (3, .int (iZ z.2))]) (fun _ => 0) (fun _ => k) (fun z => z.1) (fun m77 z => 0 ≤ z.2 ∧ z.2 + (m77 : Int) = 72 ∧ rwR (z.1 4) (spZ (V 0) G f g z.2.toNat) ∧ z.1 2 = V1 2 ∧ z.1 3 = V1 3 ∧ z.1 0 = V 0) ?_ 72 (V2, (0 : Int)) (by (try dsimp only); exact ⟨by omega, by omega, rw_0 hRV2.1 (fun j hj => (by show fiZ G 0 255 (fun _ => (0 : Int)) j = 0; unfold fiZ; rw [if_pos (by omega)])), hRV2.2 2 (by decide), hRV2.2 3 (by decide), (hRV2.2 0 (by decide)).trans hRV1.2.2⟩) _ _ hP hS ls (lv_sub hl [1, 2, 3, 0] rfl)
        intro m77 z3 hI77 ih77 H locs hP hS ls hl
        obtain ⟨Y, i⟩ := z3
        have hl : lv_has ls 9 [(0, .ref mo), (1, .int (iZ f)), (2, .int (iZ g)), (3, .int (iZ i))] := hl
        have hI77 : 0 ≤ i ∧ i + (m77 : Int) = 72 ∧ rwR (Y 4) (spZ (V 0) G f g i.toNat) ∧ Y 2 = V1 2 ∧ Y 3 = V1 3 ∧ Y 0 = V 0 := hI77
        have hP : va_P D vwCl (mX mo na cI cJ 0 k Y) H := hP
        refine lv_iload_n hx hb dX1_times_77 rfl (lv_at hl 3 rfl) ?_
        refine zi_bi hx hb 72 dX1_times_78 (by decide) ?_
        refine zi_cge (tgt := 236) hx hb dX1_times_80 (by decide) (by omega) (by omega) (fun hc80 => ?_) (fun hc80 => ?_)
        · have hsp : rwR (Y 4) (spZ (V 0) G f g 72) := (show i.toNat = 72 by omega) ▸ hI77.2.2.1
          refine lv_aload_n hx hb dX1_times_236 rfl (lv_at hl 0 rfl) ?_
          refine wm_V (As := []) (rest := []) (st1 := [.int (iZ k)]) (c1 := 0) (k1 := k + 1) S (k_X1_narrow l D mo na cI cJ 0 k Y  hd (by omega) hsp.1 ((rw_ok hsp).mpr h1)) tb_494 tb_496 ts_X1_narrow tb_2 tb_497 hd_X1_narrow ⟨rfl, rfl, by decide, by decide⟩ hP hK hS hA hAn rfl hl.1 rfl (Nat.le_of_ble_eq_true rfl) dX1_times_237 ⟨Nat.zero_le _, Nat.zero_le _⟩ rfl (fun V4 H locs hRV4 hP hS _ _ => ?_)
          exact wm_iret hx hb hr hlk hP (⟨fun j hj => by rw [hRV4.1 j hj]; obtain ⟨a1, a2, a3, a4, a5⟩ := jr_72 hj; exact rw_row hsp ⟨a1, a2⟩ ⟨a3, a4⟩, fun j hj => by rw [hRV4.2 j hj]; exact congrFun hI77.2.2.2.2.2 j⟩) rfl rfl hS (congrArg (fun z => some (Value.int (iZ z))) (show (k : Int) = k from rfl)) dX1_times_240
        · have hpi : Y 2 i.toNat = V 0 ((f * 72).toNat + i.toNat) := by
            rw [hI77.2.2.2.1]
            exact hRV1.1 _ (by omega)
          have hpr := hN ((f * 72).toNat + i.toNat)
          refine lv_aload_n hx hb dX1_times_83 rfl (lv_at hl 0 rfl) ?_
          refine va_get (D := D) (ci := 1) (C := RX1) (T := TX1) (N := 8) hx hb hT inX1 hown hK hP 0 rfl rfl 4 (by decide) (hT _ tb_406) (fun _ h9 => h9) rfl dX1_times_84 ?_
          refine lv_iload_n hx hb dX1_times_87 rfl (lv_at hl 3 rfl) ?_
          refine va_lald hx hb hK hP 3 1 rfl rfl (iZ_in (by omega) (by omega) (by decide)) dX1_times_88 ?_
          refine zl_as (a := Y 2 ((i).toNat)) (by rw [iZ_cl (by omega) (by omega)]) ?_
          refine zl_const hx hb 0 dX1_times_89 (by decide) ?_
          refine zl_cne (tgt := 97) hx hb dX1_times_90 dX1_times_91 (by decide) (by omega) (by omega) (fun hc90 => ?_) (fun hc90 => ?_)
          · refine zi_const hx hb 0 dX1_times_97 ?_
            refine lv_istore (lv' := [(4, .int (iZ 0)), (0, .ref mo), (1, .int (iZ f)), (2, .int (iZ g)), (3, .int (iZ i))]) hx hb dX1_times_98 hl (by decide) rfl (fun ls hl => ?_)
            refine lp_goM (nL := 9) (α := (Nat → Nat → Int) × Int) (fun z => [(0, .ref mo), (1, .int (iZ f)), (2, .int (iZ g)), (3, .int (iZ i)), (4, .int (iZ z.2))]) (fun _ => 0) (fun _ => k) (fun z => z.1) (fun m100 z => 0 ≤ z.2 ∧ z.2 + (m100 : Int) = 72 ∧ rwR (z.1 4) (amZ (V 0) (spZ (V 0) G f g i.toNat) g (jC i.toNat) (jN i.toNat) (V 0 ((f * 72).toNat + i.toNat)) z.2.toNat) ∧ z.1 2 = V1 2 ∧ z.1 3 = V1 3 ∧ z.1 0 = V 0) ?_ 72 (Y, (0 : Int)) (by (try dsimp only); exact ⟨by omega, by omega, hI77.2.2.1, hI77.2.2.2⟩) _ _ hP hS ls (lv_sub hl [1, 2, 3, 4, 0] rfl)
            intro m100 z5 hI100 ih100 H locs hP hS ls hl
            obtain ⟨U, i4⟩ := z5
            have hl : lv_has ls 9 [(0, .ref mo), (1, .int (iZ f)), (2, .int (iZ g)), (3, .int (iZ i)), (4, .int (iZ i4))] := hl
            have hI100 : 0 ≤ i4 ∧ i4 + (m100 : Int) = 72 ∧ rwR (U 4) (amZ (V 0) (spZ (V 0) G f g i.toNat) g (jC i.toNat) (jN i.toNat) (V 0 ((f * 72).toNat + i.toNat)) i4.toNat) ∧ U 2 = V1 2 ∧ U 3 = V1 3 ∧ U 0 = V 0 := hI100
            have hP : va_P D vwCl (mX mo na cI cJ 0 k U) H := hP
            refine lv_iload hx hb dX1_times_100 (lv_at hl 4 rfl) ?_
            refine zi_bi hx hb 72 dX1_times_102 (by decide) ?_
            refine zi_cge (tgt := 230) hx hb dX1_times_104 (by decide) (by omega) (by omega) (fun hc104 => ?_) (fun hc104 => ?_)
            · refine zi_inc (lv' := [(3, .int (iZ (i + 1))), (0, .ref mo), (1, .int (iZ f)), (2, .int (iZ g)), (4, .int (iZ i4))]) hx hb dX1_times_230 hl (k := 3) rfl (by decide) rfl (fun ls hl => ?_)
              refine lv_goto (tgt := 77) hx hb dX1_times_233 (by decide) ?_
              exact ih77 (m77 - 1) (U, i + 1) (by omega) (by (try dsimp only); exact ⟨by omega, by omega, by rw [sp_go (by omega), if_neg (by omega)]; exact (show i4.toNat = 72 by omega) ▸ hI100.2.2.1, hI100.2.2.2⟩) _ _ hP hS ls (lv_sub hl [1, 2, 3, 0] rfl)
            · have hqi : U 3 i4.toNat = V 0 ((g * 72).toNat + i4.toNat) := by
                rw [hI100.2.2.2.2.1]
                exact hRV1.2.1 _ (by omega)
              have hpu : U 2 i.toNat = V 0 ((f * 72).toNat + i.toNat) := by
                rw [hI100.2.2.2.1]
                exact hRV1.1 _ (by omega)
              have hqr := hN ((g * 72).toNat + i4.toNat)
              refine lv_aload_n hx hb dX1_times_107 rfl (lv_at hl 0 rfl) ?_
              refine va_get (D := D) (ci := 1) (C := RX1) (T := TX1) (N := 8) hx hb hT inX1 hown hK hP 0 rfl rfl 5 (by decide) (hT _ tb_407) (fun _ h9 => h9) rfl dX1_times_108 ?_
              refine lv_iload hx hb dX1_times_111 (lv_at hl 4 rfl) ?_
              refine va_lald hx hb hK hP 4 1 rfl rfl (iZ_in (by omega) (by omega) (by decide)) dX1_times_113 ?_
              refine zl_as (a := U 3 ((i4).toNat)) (by rw [iZ_cl (by omega) (by omega)]) ?_
              refine zl_const hx hb 0 dX1_times_114 (by decide) ?_
              refine zl_cne (tgt := 122) hx hb dX1_times_115 dX1_times_116 (by decide) (by omega) (by omega) (fun hc115 => ?_) (fun hc115 => ?_)
              · have t1 := td9 (n := i) (by omega)
                have t2 := td9 (n := i4) (by omega)
                have t3 := tm9 (n := i) (by omega)
                have t4 := tm9 (n := i4) (by omega)
                have j1 := jCz (i := i) (by omega)
                have j2 := jCz (i := i4) (by omega)
                have hl1 : ¬ (1 ≤ i / 9 ∧ i / 9 < 4 ∧ 4 ≤ i4 / 9) := fun q => lm_leg h0.1 (i := i.toNat) (k := i4.toNat) (by omega) (by omega) (by omega) (by omega) (by omega) (by omega)
                have hl2 : ¬ (4 ≤ i / 9 ∧ 1 ≤ i4 / 9 ∧ i4 / 9 < 4) := fun q => lm_leg h0.2 (i := i4.toNat) (k := i.toNat) (by omega) (by omega) (by omega) (by omega) (by omega) (by omega)
                have hmr := mul_rng hpr hqr
                refine lv_iload_n hx hb dX1_times_122 rfl (lv_at hl 3 rfl) ?_
                refine zi_bi hx hb 9 dX1_times_123 (by decide) ?_
                refine zi_div hx hb dX1_times_125 (by omega) (by omega) ?_
                refine zi_top (fun v6 ev6 => ?_)
                refine lv_istore (lv' := [(5, .int (iZ v6)), (0, .ref mo), (1, .int (iZ f)), (2, .int (iZ g)), (3, .int (iZ i)), (4, .int (iZ i4))]) hx hb dX1_times_126 hl (by decide) rfl (fun ls hl => ?_)
                refine lv_iload hx hb dX1_times_128 (lv_at hl 5 rfl) ?_
                refine zi_bi hx hb 9 dX1_times_130 (by decide) ?_
                refine zi_div hx hb dX1_times_132 (by omega) (by omega) ?_
                refine zi_top (fun v7 ev7 => ?_)
                refine lv_istore (lv' := [(6, .int (iZ v7)), (5, .int (iZ v6)), (0, .ref mo), (1, .int (iZ f)), (2, .int (iZ g)), (3, .int (iZ i)), (4, .int (iZ i4))]) hx hb dX1_times_133 hl (by decide) rfl (fun ls hl => ?_)
                refine lv_iload hx hb dX1_times_135 (lv_at hl 1 rfl) ?_
                refine zi_const hx hb 4 dX1_times_137 ?_
                refine zi_cge (tgt := 155) hx hb dX1_times_138 (by decide) (by omega) (by omega) (fun hc138 => ?_) (fun hc138 => ?_)
                · refine zi_bi hx hb 11 dX1_times_155 (by decide) ?_
                  refine lv_iload hx hb dX1_times_157 (lv_at hl 1 rfl) ?_
                  refine rd_S (As := [.int (iZ v6)]) (rest := [.int (iZ 11)]) (st1 := [.int (iZ (xpZ v6)), .int (iZ 11)]) S (k_X1_exponent l v6 (by omega)) tb_491 tb_492 tb_2 tb_493 hd_X1_exponent ⟨rfl, rfl, by decide, by decide⟩ bl_T (fun _ _ _ => trivial) rfl hl.1 rfl (Nat.le_of_ble_eq_true rfl) dX1_times_159 ⟨Nat.zero_le _, Nat.zero_le _⟩ rfl ?_
                  have hxe162 : xpZ v6 = (if v6 < 4 then 0 else if v6 < 6 then v6 - 6 else v6 - 5) := rfl
                  refine zi_add hx hb dX1_times_162 ?_
                  refine lv_iload hx hb dX1_times_163 (lv_at hl 0 rfl) ?_
                  refine rd_S (As := [.int (iZ v7)]) (rest := [.int (iZ (11 + (xpZ v6)))]) (st1 := [.int (iZ (xpZ v7)), .int (iZ (11 + (xpZ v6)))]) S (k_X1_exponent l v7 (by omega)) tb_491 tb_492 tb_2 tb_493 hd_X1_exponent ⟨rfl, rfl, by decide, by decide⟩ bl_T (fun _ _ _ => trivial) rfl hl.1 rfl (Nat.le_of_ble_eq_true rfl) dX1_times_165 ⟨Nat.zero_le _, Nat.zero_le _⟩ rfl ?_
                  have hxe168 : xpZ v7 = (if v7 < 4 then 0 else if v7 < 6 then v7 - 6 else v7 - 5) := rfl
                  refine zi_add hx hb dX1_times_168 ?_
                  refine zi_top (fun v8 ev8 => ?_)
                  refine lv_istore (lv' := [(7, .int (iZ v8)), (6, .int (iZ v7)), (5, .int (iZ v6)), (0, .ref mo), (1, .int (iZ f)), (2, .int (iZ g)), (3, .int (iZ i)), (4, .int (iZ i4))]) hx hb dX1_times_169 hl (by decide) rfl (fun ls hl => ?_)
                  have hrl := rw_lz (a := v6) (b := v7) (row := v8) (by omega) (by omega) (by omega) (by omega) (by rw [ev8]; first | rw [if_pos (by omega)] | rw [if_neg (by omega)])
                  rw [show v6 = i / 9 by omega, show v7 = i4 / 9 by omega] at hrl
                  refine zi_bi hx hb 19 dX1_times_171 (by decide) ?_
                  refine lv_iload hx hb dX1_times_173 (lv_at hl 0 rfl) ?_
                  refine zi_mul hx hb dX1_times_175 ?_
                  refine lv_iload_n hx hb dX1_times_176 rfl (lv_at hl 6 rfl) ?_
                  refine zi_bi hx hb 9 dX1_times_177 (by decide) ?_
                  refine zi_rem hx hb dX1_times_179 (by omega) (by omega) ?_
                  refine zi_add hx hb dX1_times_180 ?_
                  refine lv_iload hx hb dX1_times_181 (lv_at hl 7 rfl) ?_
                  refine zi_bi hx hb 9 dX1_times_183 (by decide) ?_
                  refine zi_rem hx hb dX1_times_185 (by omega) (by omega) ?_
                  refine zi_add hx hb dX1_times_186 ?_
                  refine zi_const hx hb 1 dX1_times_187 ?_
                  refine zi_add hx hb dX1_times_188 ?_
                  refine zi_top (fun v9 ev9 => ?_)
                  refine lv_istore (lv' := [(8, .int (iZ v9)), (7, .int (iZ v8)), (6, .int (iZ v7)), (5, .int (iZ v6)), (0, .ref mo), (1, .int (iZ f)), (2, .int (iZ g)), (3, .int (iZ i)), (4, .int (iZ i4))]) hx hb dX1_times_189 hl (by decide) rfl (fun ls hl => ?_)
                  have hur := hI100.2.2.1.1 (v9).toNat (by omega)
                  refine lv_aload_n hx hb dX1_times_191 rfl (lv_at hl 4 rfl) ?_
                  refine va_get (D := D) (ci := 1) (C := RX1) (T := TX1) (N := 8) hx hb hT inX1 hown hK hP 0 rfl rfl 6 (by decide) (hT _ tb_408) (fun _ h9 => h9) rfl dX1_times_192 ?_
                  refine lv_iload hx hb dX1_times_195 (lv_at hl 0 rfl) ?_
                  refine lv_aload_n hx hb dX1_times_197 rfl (lv_at hl 4 rfl) ?_
                  refine va_get (D := D) (ci := 1) (C := RX1) (T := TX1) (N := 8) hx hb hT inX1 hown hK hP 0 rfl rfl 6 (by decide) (hT _ tb_408) (fun _ h9 => h9) rfl dX1_times_198 ?_
                  refine lv_iload hx hb dX1_times_201 (lv_at hl 0 rfl) ?_
                  refine va_lald hx hb hK hP 5 1 rfl rfl (iZ_in (by omega) (by omega) (by decide)) dX1_times_203 ?_
                  refine zl_as (a := U 4 ((v9).toNat)) (by rw [iZ_cl (by omega) (by omega)]) ?_
                  refine lv_aload_n hx hb dX1_times_204 rfl (lv_at hl 4 rfl) ?_
                  refine va_get (D := D) (ci := 1) (C := RX1) (T := TX1) (N := 8) hx hb hT inX1 hown hK hP 0 rfl rfl 4 (by decide) (hT _ tb_406) (fun _ h9 => h9) rfl dX1_times_205 ?_
                  refine lv_iload_n hx hb dX1_times_208 rfl (lv_at hl 7 rfl) ?_
                  refine va_lald hx hb hK hP 3 1 rfl rfl (iZ_in (by omega) (by omega) (by decide)) dX1_times_209 ?_
                  refine zl_as (a := U 2 ((i).toNat)) (by rw [iZ_cl (by omega) (by omega)]) ?_
                  refine lv_aload_n hx hb dX1_times_210 rfl (lv_at hl 4 rfl) ?_
                  refine va_get (D := D) (ci := 1) (C := RX1) (T := TX1) (N := 8) hx hb hT inX1 hown hK hP 0 rfl rfl 5 (by decide) (hT _ tb_407) (fun _ h9 => h9) rfl dX1_times_211 ?_
                  refine lv_iload hx hb dX1_times_214 (lv_at hl 8 rfl) ?_
                  refine va_lald hx hb hK hP 4 1 rfl rfl (iZ_in (by omega) (by omega) (by decide)) dX1_times_216 ?_
                  refine zl_as (a := U 3 ((i4).toNat)) (by rw [iZ_cl (by omega) (by omega)]) ?_
                  refine zl_mul hx hb dX1_times_217 ?_
                  refine zl_top (fun v10 ev10 => ?_)
                  have hvv : v10 = V 0 ((f * 72).toNat + i.toNat) * V 0 ((g * 72).toNat + i4.toNat) := by
                    rw [ev10, hpu, hqi]
                  have hnz : V 0 ((f * 72).toNat + i.toNat) * V 0 ((g * 72).toNat + i4.toNat) ≠ 0 := Int.mul_ne_zero (by omega) (by omega)
                  refine zl_add hx hb dX1_times_218 ?_
                  refine zl_ldc hx hb 32003 hown (hT _ tb_448) (by decide) dX1_times_219 ?_
                  refine zl_rem hx hb dX1_times_222 (by omega) (by omega) ?_
                  have hxx : (Int.tmod ((U 4 (v9).toNat) + v10) 32003 : Int) = (U 4 (v9).toNat + V 0 ((f * 72).toNat + i.toNat) * V 0 ((g * 72).toNat + i4.toNat)) % 32003 := by
                    rw [← hvv]
                    exact tmP (by omega)
                  refine mm_l hx hb hK hP hd hA hS 4 304 rfl (fun g => rfl) (by omega) dX1_times_223 (fun H locs hP hS => ?_)
                  obtain ⟨V11, eV11⟩ : ∃ Z : Nat → Nat → Int, Z = sV U 4 (uZ (U 4) (v9).toNat (Int.tmod ((U 4 (v9).toNat) + v10) 32003)) := ⟨_, rfl⟩
                  rw [← eV11] at hP
                  refine zi_inc (lv' := [(4, .int (iZ (i4 + 1))), (8, .int (iZ v9)), (7, .int (iZ v8)), (6, .int (iZ v7)), (5, .int (iZ v6)), (0, .ref mo), (1, .int (iZ f)), (2, .int (iZ g)), (3, .int (iZ i))]) hx hb dX1_times_224 hl (k := 8) rfl (by decide) rfl (fun ls hl => ?_)
                  refine lv_goto (tgt := 100) hx hb dX1_times_227 (by decide) ?_
                  exact ih100 (m100 - 1) (V11, i4 + 1) (by omega) (by (try dsimp only); exact ⟨by omega, by omega, by rw [eV11, sV_a, am_go (by omega), hxx]; exact rw_step hI100.2.2.1 hrl.1 (by rw [(jCz (i := i4) (by omega)).1, (jCz (i := i) (by omega)).1]; exact hrl.2) (by omega) (by omega) hnz, by rw [eV11, sV_b (by decide)]; exact hI100.2.2.2.1, by rw [eV11, sV_b (by decide)]; exact hI100.2.2.2.2.1, by rw [eV11, sV_b (by decide)]; exact hI100.2.2.2.2.2⟩) _ _ hP hS ls (lv_sub hl [5, 6, 7, 8, 0] rfl)
                · refine lv_iload hx hb dX1_times_141 (lv_at hl 0 rfl) ?_
                  refine zi_const hx hb 4 dX1_times_143 ?_
                  refine zi_cge (tgt := 155) hx hb dX1_times_144 (by decide) (by omega) (by omega) (fun hc144 => ?_) (fun hc144 => ?_)
                  · refine zi_bi hx hb 11 dX1_times_155 (by decide) ?_
                    refine lv_iload hx hb dX1_times_157 (lv_at hl 1 rfl) ?_
                    refine rd_S (As := [.int (iZ v6)]) (rest := [.int (iZ 11)]) (st1 := [.int (iZ (xpZ v6)), .int (iZ 11)]) S (k_X1_exponent l v6 (by omega)) tb_491 tb_492 tb_2 tb_493 hd_X1_exponent ⟨rfl, rfl, by decide, by decide⟩ bl_T (fun _ _ _ => trivial) rfl hl.1 rfl (Nat.le_of_ble_eq_true rfl) dX1_times_159 ⟨Nat.zero_le _, Nat.zero_le _⟩ rfl ?_
                    have hxe162 : xpZ v6 = (if v6 < 4 then 0 else if v6 < 6 then v6 - 6 else v6 - 5) := rfl
                    refine zi_add hx hb dX1_times_162 ?_
                    refine lv_iload hx hb dX1_times_163 (lv_at hl 0 rfl) ?_
                    refine rd_S (As := [.int (iZ v7)]) (rest := [.int (iZ (11 + (xpZ v6)))]) (st1 := [.int (iZ (xpZ v7)), .int (iZ (11 + (xpZ v6)))]) S (k_X1_exponent l v7 (by omega)) tb_491 tb_492 tb_2 tb_493 hd_X1_exponent ⟨rfl, rfl, by decide, by decide⟩ bl_T (fun _ _ _ => trivial) rfl hl.1 rfl (Nat.le_of_ble_eq_true rfl) dX1_times_165 ⟨Nat.zero_le _, Nat.zero_le _⟩ rfl ?_
                    have hxe168 : xpZ v7 = (if v7 < 4 then 0 else if v7 < 6 then v7 - 6 else v7 - 5) := rfl
                    refine zi_add hx hb dX1_times_168 ?_
                    refine zi_top (fun v12 ev12 => ?_)
                    refine lv_istore (lv' := [(7, .int (iZ v12)), (6, .int (iZ v7)), (5, .int (iZ v6)), (0, .ref mo), (1, .int (iZ f)), (2, .int (iZ g)), (3, .int (iZ i)), (4, .int (iZ i4))]) hx hb dX1_times_169 hl (by decide) rfl (fun ls hl => ?_)
                    have hrl := rw_lz (a := v6) (b := v7) (row := v12) (by omega) (by omega) (by omega) (by omega) (by rw [ev12]; first | rw [if_pos (by omega)] | rw [if_neg (by omega)])
                    rw [show v6 = i / 9 by omega, show v7 = i4 / 9 by omega] at hrl
                    refine zi_bi hx hb 19 dX1_times_171 (by decide) ?_
                    refine lv_iload hx hb dX1_times_173 (lv_at hl 0 rfl) ?_
                    refine zi_mul hx hb dX1_times_175 ?_
                    refine lv_iload_n hx hb dX1_times_176 rfl (lv_at hl 6 rfl) ?_
                    refine zi_bi hx hb 9 dX1_times_177 (by decide) ?_
                    refine zi_rem hx hb dX1_times_179 (by omega) (by omega) ?_
                    refine zi_add hx hb dX1_times_180 ?_
                    refine lv_iload hx hb dX1_times_181 (lv_at hl 7 rfl) ?_
                    refine zi_bi hx hb 9 dX1_times_183 (by decide) ?_
                    refine zi_rem hx hb dX1_times_185 (by omega) (by omega) ?_
                    refine zi_add hx hb dX1_times_186 ?_
                    refine zi_const hx hb 1 dX1_times_187 ?_
                    refine zi_add hx hb dX1_times_188 ?_
                    refine zi_top (fun v13 ev13 => ?_)
                    refine lv_istore (lv' := [(8, .int (iZ v13)), (7, .int (iZ v12)), (6, .int (iZ v7)), (5, .int (iZ v6)), (0, .ref mo), (1, .int (iZ f)), (2, .int (iZ g)), (3, .int (iZ i)), (4, .int (iZ i4))]) hx hb dX1_times_189 hl (by decide) rfl (fun ls hl => ?_)
                    have hur := hI100.2.2.1.1 (v13).toNat (by omega)
                    refine lv_aload_n hx hb dX1_times_191 rfl (lv_at hl 4 rfl) ?_
                    refine va_get (D := D) (ci := 1) (C := RX1) (T := TX1) (N := 8) hx hb hT inX1 hown hK hP 0 rfl rfl 6 (by decide) (hT _ tb_408) (fun _ h9 => h9) rfl dX1_times_192 ?_
                    refine lv_iload hx hb dX1_times_195 (lv_at hl 0 rfl) ?_
                    refine lv_aload_n hx hb dX1_times_197 rfl (lv_at hl 4 rfl) ?_
                    refine va_get (D := D) (ci := 1) (C := RX1) (T := TX1) (N := 8) hx hb hT inX1 hown hK hP 0 rfl rfl 6 (by decide) (hT _ tb_408) (fun _ h9 => h9) rfl dX1_times_198 ?_
                    refine lv_iload hx hb dX1_times_201 (lv_at hl 0 rfl) ?_
                    refine va_lald hx hb hK hP 5 1 rfl rfl (iZ_in (by omega) (by omega) (by decide)) dX1_times_203 ?_
                    refine zl_as (a := U 4 ((v13).toNat)) (by rw [iZ_cl (by omega) (by omega)]) ?_
                    refine lv_aload_n hx hb dX1_times_204 rfl (lv_at hl 4 rfl) ?_
                    refine va_get (D := D) (ci := 1) (C := RX1) (T := TX1) (N := 8) hx hb hT inX1 hown hK hP 0 rfl rfl 4 (by decide) (hT _ tb_406) (fun _ h9 => h9) rfl dX1_times_205 ?_
                    refine lv_iload_n hx hb dX1_times_208 rfl (lv_at hl 7 rfl) ?_
                    refine va_lald hx hb hK hP 3 1 rfl rfl (iZ_in (by omega) (by omega) (by decide)) dX1_times_209 ?_
                    refine zl_as (a := U 2 ((i).toNat)) (by rw [iZ_cl (by omega) (by omega)]) ?_
                    refine lv_aload_n hx hb dX1_times_210 rfl (lv_at hl 4 rfl) ?_
                    refine va_get (D := D) (ci := 1) (C := RX1) (T := TX1) (N := 8) hx hb hT inX1 hown hK hP 0 rfl rfl 5 (by decide) (hT _ tb_407) (fun _ h9 => h9) rfl dX1_times_211 ?_
                    refine lv_iload hx hb dX1_times_214 (lv_at hl 8 rfl) ?_
                    refine va_lald hx hb hK hP 4 1 rfl rfl (iZ_in (by omega) (by omega) (by decide)) dX1_times_216 ?_
                    refine zl_as (a := U 3 ((i4).toNat)) (by rw [iZ_cl (by omega) (by omega)]) ?_
                    refine zl_mul hx hb dX1_times_217 ?_
                    refine zl_top (fun v14 ev14 => ?_)
                    have hvv : v14 = V 0 ((f * 72).toNat + i.toNat) * V 0 ((g * 72).toNat + i4.toNat) := by
                      rw [ev14, hpu, hqi]
                    have hnz : V 0 ((f * 72).toNat + i.toNat) * V 0 ((g * 72).toNat + i4.toNat) ≠ 0 := Int.mul_ne_zero (by omega) (by omega)
                    refine zl_add hx hb dX1_times_218 ?_
                    refine zl_ldc hx hb 32003 hown (hT _ tb_448) (by decide) dX1_times_219 ?_
                    refine zl_rem hx hb dX1_times_222 (by omega) (by omega) ?_
                    have hxx : (Int.tmod ((U 4 (v13).toNat) + v14) 32003 : Int) = (U 4 (v13).toNat + V 0 ((f * 72).toNat + i.toNat) * V 0 ((g * 72).toNat + i4.toNat)) % 32003 := by
                      rw [← hvv]
                      exact tmP (by omega)
                    refine mm_l hx hb hK hP hd hA hS 4 304 rfl (fun g => rfl) (by omega) dX1_times_223 (fun H locs hP hS => ?_)
                    obtain ⟨V15, eV15⟩ : ∃ Z : Nat → Nat → Int, Z = sV U 4 (uZ (U 4) (v13).toNat (Int.tmod ((U 4 (v13).toNat) + v14) 32003)) := ⟨_, rfl⟩
                    rw [← eV15] at hP
                    refine zi_inc (lv' := [(4, .int (iZ (i4 + 1))), (8, .int (iZ v13)), (7, .int (iZ v12)), (6, .int (iZ v7)), (5, .int (iZ v6)), (0, .ref mo), (1, .int (iZ f)), (2, .int (iZ g)), (3, .int (iZ i))]) hx hb dX1_times_224 hl (k := 8) rfl (by decide) rfl (fun ls hl => ?_)
                    refine lv_goto (tgt := 100) hx hb dX1_times_227 (by decide) ?_
                    exact ih100 (m100 - 1) (V15, i4 + 1) (by omega) (by (try dsimp only); exact ⟨by omega, by omega, by rw [eV15, sV_a, am_go (by omega), hxx]; exact rw_step hI100.2.2.1 hrl.1 (by rw [(jCz (i := i4) (by omega)).1, (jCz (i := i) (by omega)).1]; exact hrl.2) (by omega) (by omega) hnz, by rw [eV15, sV_b (by decide)]; exact hI100.2.2.2.1, by rw [eV15, sV_b (by decide)]; exact hI100.2.2.2.2.1, by rw [eV15, sV_b (by decide)]; exact hI100.2.2.2.2.2⟩) _ _ hP hS ls (lv_sub hl [5, 6, 7, 8, 0] rfl)
                  · refine lv_iload hx hb dX1_times_147 (lv_at hl 1 rfl) ?_
                    refine lv_iload hx hb dX1_times_149 (lv_at hl 0 rfl) ?_
                    refine zi_add hx hb dX1_times_151 ?_
                    refine lv_goto (tgt := 169) hx hb dX1_times_152 (by decide) ?_
                    refine zi_top (fun v16 ev16 => ?_)
                    refine lv_istore (lv' := [(7, .int (iZ v16)), (6, .int (iZ v7)), (5, .int (iZ v6)), (0, .ref mo), (1, .int (iZ f)), (2, .int (iZ g)), (3, .int (iZ i)), (4, .int (iZ i4))]) hx hb dX1_times_169 hl (by decide) rfl (fun ls hl => ?_)
                    have hrl := rw_lz (a := v6) (b := v7) (row := v16) (by omega) (by omega) (by omega) (by omega) (by rw [ev16]; first | rw [if_pos (by omega)] | rw [if_neg (by omega)])
                    rw [show v6 = i / 9 by omega, show v7 = i4 / 9 by omega] at hrl
                    refine zi_bi hx hb 19 dX1_times_171 (by decide) ?_
                    refine lv_iload hx hb dX1_times_173 (lv_at hl 0 rfl) ?_
                    refine zi_mul hx hb dX1_times_175 ?_
                    refine lv_iload_n hx hb dX1_times_176 rfl (lv_at hl 6 rfl) ?_
                    refine zi_bi hx hb 9 dX1_times_177 (by decide) ?_
                    refine zi_rem hx hb dX1_times_179 (by omega) (by omega) ?_
                    refine zi_add hx hb dX1_times_180 ?_
                    refine lv_iload hx hb dX1_times_181 (lv_at hl 7 rfl) ?_
                    refine zi_bi hx hb 9 dX1_times_183 (by decide) ?_
                    refine zi_rem hx hb dX1_times_185 (by omega) (by omega) ?_
                    refine zi_add hx hb dX1_times_186 ?_
                    refine zi_const hx hb 1 dX1_times_187 ?_
                    refine zi_add hx hb dX1_times_188 ?_
                    refine zi_top (fun v17 ev17 => ?_)
                    refine lv_istore (lv' := [(8, .int (iZ v17)), (7, .int (iZ v16)), (6, .int (iZ v7)), (5, .int (iZ v6)), (0, .ref mo), (1, .int (iZ f)), (2, .int (iZ g)), (3, .int (iZ i)), (4, .int (iZ i4))]) hx hb dX1_times_189 hl (by decide) rfl (fun ls hl => ?_)
                    have hur := hI100.2.2.1.1 (v17).toNat (by omega)
                    refine lv_aload_n hx hb dX1_times_191 rfl (lv_at hl 4 rfl) ?_
                    refine va_get (D := D) (ci := 1) (C := RX1) (T := TX1) (N := 8) hx hb hT inX1 hown hK hP 0 rfl rfl 6 (by decide) (hT _ tb_408) (fun _ h9 => h9) rfl dX1_times_192 ?_
                    refine lv_iload hx hb dX1_times_195 (lv_at hl 0 rfl) ?_
                    refine lv_aload_n hx hb dX1_times_197 rfl (lv_at hl 4 rfl) ?_
                    refine va_get (D := D) (ci := 1) (C := RX1) (T := TX1) (N := 8) hx hb hT inX1 hown hK hP 0 rfl rfl 6 (by decide) (hT _ tb_408) (fun _ h9 => h9) rfl dX1_times_198 ?_
                    refine lv_iload hx hb dX1_times_201 (lv_at hl 0 rfl) ?_
                    refine va_lald hx hb hK hP 5 1 rfl rfl (iZ_in (by omega) (by omega) (by decide)) dX1_times_203 ?_
                    refine zl_as (a := U 4 ((v17).toNat)) (by rw [iZ_cl (by omega) (by omega)]) ?_
                    refine lv_aload_n hx hb dX1_times_204 rfl (lv_at hl 4 rfl) ?_
                    refine va_get (D := D) (ci := 1) (C := RX1) (T := TX1) (N := 8) hx hb hT inX1 hown hK hP 0 rfl rfl 4 (by decide) (hT _ tb_406) (fun _ h9 => h9) rfl dX1_times_205 ?_
                    refine lv_iload_n hx hb dX1_times_208 rfl (lv_at hl 7 rfl) ?_
                    refine va_lald hx hb hK hP 3 1 rfl rfl (iZ_in (by omega) (by omega) (by decide)) dX1_times_209 ?_
                    refine zl_as (a := U 2 ((i).toNat)) (by rw [iZ_cl (by omega) (by omega)]) ?_
                    refine lv_aload_n hx hb dX1_times_210 rfl (lv_at hl 4 rfl) ?_
                    refine va_get (D := D) (ci := 1) (C := RX1) (T := TX1) (N := 8) hx hb hT inX1 hown hK hP 0 rfl rfl 5 (by decide) (hT _ tb_407) (fun _ h9 => h9) rfl dX1_times_211 ?_
                    refine lv_iload hx hb dX1_times_214 (lv_at hl 8 rfl) ?_
                    refine va_lald hx hb hK hP 4 1 rfl rfl (iZ_in (by omega) (by omega) (by decide)) dX1_times_216 ?_
                    refine zl_as (a := U 3 ((i4).toNat)) (by rw [iZ_cl (by omega) (by omega)]) ?_
                    refine zl_mul hx hb dX1_times_217 ?_
                    refine zl_top (fun v18 ev18 => ?_)
                    have hvv : v18 = V 0 ((f * 72).toNat + i.toNat) * V 0 ((g * 72).toNat + i4.toNat) := by
                      rw [ev18, hpu, hqi]
                    have hnz : V 0 ((f * 72).toNat + i.toNat) * V 0 ((g * 72).toNat + i4.toNat) ≠ 0 := Int.mul_ne_zero (by omega) (by omega)
                    refine zl_add hx hb dX1_times_218 ?_
                    refine zl_ldc hx hb 32003 hown (hT _ tb_448) (by decide) dX1_times_219 ?_
                    refine zl_rem hx hb dX1_times_222 (by omega) (by omega) ?_
                    have hxx : (Int.tmod ((U 4 (v17).toNat) + v18) 32003 : Int) = (U 4 (v17).toNat + V 0 ((f * 72).toNat + i.toNat) * V 0 ((g * 72).toNat + i4.toNat)) % 32003 := by
                      rw [← hvv]
                      exact tmP (by omega)
                    refine mm_l hx hb hK hP hd hA hS 4 304 rfl (fun g => rfl) (by omega) dX1_times_223 (fun H locs hP hS => ?_)
                    obtain ⟨V19, eV19⟩ : ∃ Z : Nat → Nat → Int, Z = sV U 4 (uZ (U 4) (v17).toNat (Int.tmod ((U 4 (v17).toNat) + v18) 32003)) := ⟨_, rfl⟩
                    rw [← eV19] at hP
                    refine zi_inc (lv' := [(4, .int (iZ (i4 + 1))), (8, .int (iZ v17)), (7, .int (iZ v16)), (6, .int (iZ v7)), (5, .int (iZ v6)), (0, .ref mo), (1, .int (iZ f)), (2, .int (iZ g)), (3, .int (iZ i))]) hx hb dX1_times_224 hl (k := 8) rfl (by decide) rfl (fun ls hl => ?_)
                    refine lv_goto (tgt := 100) hx hb dX1_times_227 (by decide) ?_
                    exact ih100 (m100 - 1) (V19, i4 + 1) (by omega) (by (try dsimp only); exact ⟨by omega, by omega, by rw [eV19, sV_a, am_go (by omega), hxx]; exact rw_step hI100.2.2.1 hrl.1 (by rw [(jCz (i := i4) (by omega)).1, (jCz (i := i) (by omega)).1]; exact hrl.2) (by omega) (by omega) hnz, by rw [eV19, sV_b (by decide)]; exact hI100.2.2.2.1, by rw [eV19, sV_b (by decide)]; exact hI100.2.2.2.2.1, by rw [eV19, sV_b (by decide)]; exact hI100.2.2.2.2.2⟩) _ _ hP hS ls (lv_sub hl [5, 6, 7, 8, 0] rfl)
              · refine lv_goto (tgt := 224) hx hb dX1_times_119 (by decide) ?_
                refine zi_inc (lv' := [(4, .int (iZ (i4 + 1))), (0, .ref mo), (1, .int (iZ f)), (2, .int (iZ g)), (3, .int (iZ i))]) hx hb dX1_times_224 hl (k := 4) rfl (by decide) rfl (fun ls hl => ?_)
                refine lv_goto (tgt := 100) hx hb dX1_times_227 (by decide) ?_
                exact ih100 (m100 - 1) (U, i4 + 1) (by omega) (by (try dsimp only); exact ⟨by omega, by omega, by rw [am_skip (by omega) (by omega)]; exact hI100.2.2.1, hI100.2.2.2⟩) _ _ hP hS ls (lv_sub hl [1, 2, 3, 4, 0] rfl)
          · refine lv_goto (tgt := 230) hx hb dX1_times_94 (by decide) ?_
            refine zi_inc (lv' := [(3, .int (iZ (i + 1))), (0, .ref mo), (1, .int (iZ f)), (2, .int (iZ g))]) hx hb dX1_times_230 hl (k := 3) rfl (by decide) rfl (fun ls hl => ?_)
            refine lv_goto (tgt := 77) hx hb dX1_times_233 (by decide) ?_
            exact ih77 (m77 - 1) (Y, i + 1) (by omega) (by (try dsimp only); exact ⟨by omega, by omega, by rw [sp_go (by omega), if_pos (by omega)]; exact hI77.2.2.1, hI77.2.2.2⟩) _ _ hP hS ls (lv_sub hl [1, 2, 3, 0] rfl)
      · refine lv_aload_n hx hb dX1_times_52 rfl (lv_at hl 0 rfl) ?_
        refine lv_aload_n hx hb dX1_times_53 rfl (lv_at hl 0 rfl) ?_
        refine va_get (D := D) (ci := 1) (C := RX1) (T := TX1) (N := 8) hx hb hT inX1 hown hK hP 0 rfl rfl 5 (by decide) (hT _ tb_407) (fun _ h9 => h9) rfl dX1_times_54 ?_
        refine zi_const hx hb 1 dX1_times_57 ?_
        refine zi_const hx hb 4 dX1_times_58 ?_
        refine rd_V (As := [.ref (na 3), .int (iZ ((1 : Int))), .int (iZ ((4 : Int)))]) (rest := []) (st1 := [.int (iZ (hsZ (V1 3) (((1 : Int)) * 9).toNat ((((4 : Int)) - ((1 : Int))) * 9).toNat))]) S (k3_X1_has l D mo na cI cJ 0 k V1 ((1 : Int)) ((4 : Int)) (by omega) hp3) tb_479 tb_481 ts_X1_has tb_2 tb_482 hd_X1_has ⟨rfl, rfl, by decide, by decide⟩ rM_bl (rM_mv hP hK) (va_recv hK hP (ci := 1) (q0 := 0) rfl rfl) rfl hl.1 rfl (Nat.le_of_ble_eq_true rfl) dX1_times_59 ⟨Nat.zero_le _, Nat.zero_le _⟩ rfl ?_
        refine zi_feq (tgt := 71) hx hb dX1_times_62 (by decide) (by omega) (fun hc62 => ?_) (fun hc62 => ?_)
        · refine lv_aload_n hx hb dX1_times_71 rfl (lv_at hl 0 rfl) ?_
          refine wm_V (As := []) (rest := []) (st1 := []) (c1 := 0) (k1 := k) S (k_X1_start l D mo na cI cJ 0 k V1  hd ) tb_487 tb_489 ts_X1_start tb_2 tb_490 hd_X1_start ⟨rfl, rfl, by decide, by decide⟩ hP hK hS hA hAn rfl hl.1 rfl (Nat.le_of_ble_eq_true rfl) dX1_times_72 ⟨Nat.zero_le _, Nat.zero_le _⟩ rfl (fun V20 H locs hRV20 hP hS _ _ => ?_)
          refine zi_const hx hb 0 dX1_times_75 ?_
          refine lv_istore_n (lv' := [(3, .int (iZ 0)), (0, .ref mo), (1, .int (iZ f)), (2, .int (iZ g))]) hx hb dX1_times_76 rfl hl (by decide) rfl (fun ls hl => ?_)
          refine lp_goM (nL := 9) (α := (Nat → Nat → Int) × Int) (fun z => [(0, .ref mo), (1, .int (iZ f)), (2, .int (iZ g)), (3, .int (iZ z.2))]) (fun _ => 0) (fun _ => k) (fun z => z.1) (fun m77 z => 0 ≤ z.2 ∧ z.2 + (m77 : Int) = 72 ∧ rwR (z.1 4) (spZ (V 0) G f g z.2.toNat) ∧ z.1 2 = V1 2 ∧ z.1 3 = V1 3 ∧ z.1 0 = V 0) ?_ 72 (V20, (0 : Int)) (by (try dsimp only); exact ⟨by omega, by omega, rw_0 hRV20.1 (fun j hj => (by show fiZ G 0 255 (fun _ => (0 : Int)) j = 0; unfold fiZ; rw [if_pos (by omega)])), hRV20.2 2 (by decide), hRV20.2 3 (by decide), (hRV20.2 0 (by decide)).trans hRV1.2.2⟩) _ _ hP hS ls (lv_sub hl [1, 2, 3, 0] rfl)
          intro m77 z21 hI77 ih77 H locs hP hS ls hl
          obtain ⟨Y, i⟩ := z21
          have hl : lv_has ls 9 [(0, .ref mo), (1, .int (iZ f)), (2, .int (iZ g)), (3, .int (iZ i))] := hl
          have hI77 : 0 ≤ i ∧ i + (m77 : Int) = 72 ∧ rwR (Y 4) (spZ (V 0) G f g i.toNat) ∧ Y 2 = V1 2 ∧ Y 3 = V1 3 ∧ Y 0 = V 0 := hI77
          have hP : va_P D vwCl (mX mo na cI cJ 0 k Y) H := hP
          refine lv_iload_n hx hb dX1_times_77 rfl (lv_at hl 3 rfl) ?_
          refine zi_bi hx hb 72 dX1_times_78 (by decide) ?_
          refine zi_cge (tgt := 236) hx hb dX1_times_80 (by decide) (by omega) (by omega) (fun hc80 => ?_) (fun hc80 => ?_)
          · have hsp : rwR (Y 4) (spZ (V 0) G f g 72) := (show i.toNat = 72 by omega) ▸ hI77.2.2.1
            refine lv_aload_n hx hb dX1_times_236 rfl (lv_at hl 0 rfl) ?_
            refine wm_V (As := []) (rest := []) (st1 := [.int (iZ k)]) (c1 := 0) (k1 := k + 1) S (k_X1_narrow l D mo na cI cJ 0 k Y  hd (by omega) hsp.1 ((rw_ok hsp).mpr h1)) tb_494 tb_496 ts_X1_narrow tb_2 tb_497 hd_X1_narrow ⟨rfl, rfl, by decide, by decide⟩ hP hK hS hA hAn rfl hl.1 rfl (Nat.le_of_ble_eq_true rfl) dX1_times_237 ⟨Nat.zero_le _, Nat.zero_le _⟩ rfl (fun V22 H locs hRV22 hP hS _ _ => ?_)
            exact wm_iret hx hb hr hlk hP (⟨fun j hj => by rw [hRV22.1 j hj]; obtain ⟨a1, a2, a3, a4, a5⟩ := jr_72 hj; exact rw_row hsp ⟨a1, a2⟩ ⟨a3, a4⟩, fun j hj => by rw [hRV22.2 j hj]; exact congrFun hI77.2.2.2.2.2 j⟩) rfl rfl hS (congrArg (fun z => some (Value.int (iZ z))) (show (k : Int) = k from rfl)) dX1_times_240
          · have hpi : Y 2 i.toNat = V 0 ((f * 72).toNat + i.toNat) := by
              rw [hI77.2.2.2.1]
              exact hRV1.1 _ (by omega)
            have hpr := hN ((f * 72).toNat + i.toNat)
            refine lv_aload_n hx hb dX1_times_83 rfl (lv_at hl 0 rfl) ?_
            refine va_get (D := D) (ci := 1) (C := RX1) (T := TX1) (N := 8) hx hb hT inX1 hown hK hP 0 rfl rfl 4 (by decide) (hT _ tb_406) (fun _ h9 => h9) rfl dX1_times_84 ?_
            refine lv_iload_n hx hb dX1_times_87 rfl (lv_at hl 3 rfl) ?_
            refine va_lald hx hb hK hP 3 1 rfl rfl (iZ_in (by omega) (by omega) (by decide)) dX1_times_88 ?_
            refine zl_as (a := Y 2 ((i).toNat)) (by rw [iZ_cl (by omega) (by omega)]) ?_
            refine zl_const hx hb 0 dX1_times_89 (by decide) ?_
            refine zl_cne (tgt := 97) hx hb dX1_times_90 dX1_times_91 (by decide) (by omega) (by omega) (fun hc90 => ?_) (fun hc90 => ?_)
            · refine zi_const hx hb 0 dX1_times_97 ?_
              refine lv_istore (lv' := [(4, .int (iZ 0)), (0, .ref mo), (1, .int (iZ f)), (2, .int (iZ g)), (3, .int (iZ i))]) hx hb dX1_times_98 hl (by decide) rfl (fun ls hl => ?_)
              refine lp_goM (nL := 9) (α := (Nat → Nat → Int) × Int) (fun z => [(0, .ref mo), (1, .int (iZ f)), (2, .int (iZ g)), (3, .int (iZ i)), (4, .int (iZ z.2))]) (fun _ => 0) (fun _ => k) (fun z => z.1) (fun m100 z => 0 ≤ z.2 ∧ z.2 + (m100 : Int) = 72 ∧ rwR (z.1 4) (amZ (V 0) (spZ (V 0) G f g i.toNat) g (jC i.toNat) (jN i.toNat) (V 0 ((f * 72).toNat + i.toNat)) z.2.toNat) ∧ z.1 2 = V1 2 ∧ z.1 3 = V1 3 ∧ z.1 0 = V 0) ?_ 72 (Y, (0 : Int)) (by (try dsimp only); exact ⟨by omega, by omega, hI77.2.2.1, hI77.2.2.2⟩) _ _ hP hS ls (lv_sub hl [1, 2, 3, 4, 0] rfl)
              intro m100 z23 hI100 ih100 H locs hP hS ls hl
              obtain ⟨U, i4⟩ := z23
              have hl : lv_has ls 9 [(0, .ref mo), (1, .int (iZ f)), (2, .int (iZ g)), (3, .int (iZ i)), (4, .int (iZ i4))] := hl
              have hI100 : 0 ≤ i4 ∧ i4 + (m100 : Int) = 72 ∧ rwR (U 4) (amZ (V 0) (spZ (V 0) G f g i.toNat) g (jC i.toNat) (jN i.toNat) (V 0 ((f * 72).toNat + i.toNat)) i4.toNat) ∧ U 2 = V1 2 ∧ U 3 = V1 3 ∧ U 0 = V 0 := hI100
              have hP : va_P D vwCl (mX mo na cI cJ 0 k U) H := hP
              refine lv_iload hx hb dX1_times_100 (lv_at hl 4 rfl) ?_
              refine zi_bi hx hb 72 dX1_times_102 (by decide) ?_
              refine zi_cge (tgt := 230) hx hb dX1_times_104 (by decide) (by omega) (by omega) (fun hc104 => ?_) (fun hc104 => ?_)
              · refine zi_inc (lv' := [(3, .int (iZ (i + 1))), (0, .ref mo), (1, .int (iZ f)), (2, .int (iZ g)), (4, .int (iZ i4))]) hx hb dX1_times_230 hl (k := 3) rfl (by decide) rfl (fun ls hl => ?_)
                refine lv_goto (tgt := 77) hx hb dX1_times_233 (by decide) ?_
                exact ih77 (m77 - 1) (U, i + 1) (by omega) (by (try dsimp only); exact ⟨by omega, by omega, by rw [sp_go (by omega), if_neg (by omega)]; exact (show i4.toNat = 72 by omega) ▸ hI100.2.2.1, hI100.2.2.2⟩) _ _ hP hS ls (lv_sub hl [1, 2, 3, 0] rfl)
              · have hqi : U 3 i4.toNat = V 0 ((g * 72).toNat + i4.toNat) := by
                  rw [hI100.2.2.2.2.1]
                  exact hRV1.2.1 _ (by omega)
                have hpu : U 2 i.toNat = V 0 ((f * 72).toNat + i.toNat) := by
                  rw [hI100.2.2.2.1]
                  exact hRV1.1 _ (by omega)
                have hqr := hN ((g * 72).toNat + i4.toNat)
                refine lv_aload_n hx hb dX1_times_107 rfl (lv_at hl 0 rfl) ?_
                refine va_get (D := D) (ci := 1) (C := RX1) (T := TX1) (N := 8) hx hb hT inX1 hown hK hP 0 rfl rfl 5 (by decide) (hT _ tb_407) (fun _ h9 => h9) rfl dX1_times_108 ?_
                refine lv_iload hx hb dX1_times_111 (lv_at hl 4 rfl) ?_
                refine va_lald hx hb hK hP 4 1 rfl rfl (iZ_in (by omega) (by omega) (by decide)) dX1_times_113 ?_
                refine zl_as (a := U 3 ((i4).toNat)) (by rw [iZ_cl (by omega) (by omega)]) ?_
                refine zl_const hx hb 0 dX1_times_114 (by decide) ?_
                refine zl_cne (tgt := 122) hx hb dX1_times_115 dX1_times_116 (by decide) (by omega) (by omega) (fun hc115 => ?_) (fun hc115 => ?_)
                · have t1 := td9 (n := i) (by omega)
                  have t2 := td9 (n := i4) (by omega)
                  have t3 := tm9 (n := i) (by omega)
                  have t4 := tm9 (n := i4) (by omega)
                  have j1 := jCz (i := i) (by omega)
                  have j2 := jCz (i := i4) (by omega)
                  have hl1 : ¬ (1 ≤ i / 9 ∧ i / 9 < 4 ∧ 4 ≤ i4 / 9) := fun q => lm_leg h0.1 (i := i.toNat) (k := i4.toNat) (by omega) (by omega) (by omega) (by omega) (by omega) (by omega)
                  have hl2 : ¬ (4 ≤ i / 9 ∧ 1 ≤ i4 / 9 ∧ i4 / 9 < 4) := fun q => lm_leg h0.2 (i := i4.toNat) (k := i.toNat) (by omega) (by omega) (by omega) (by omega) (by omega) (by omega)
                  have hmr := mul_rng hpr hqr
                  refine lv_iload_n hx hb dX1_times_122 rfl (lv_at hl 3 rfl) ?_
                  refine zi_bi hx hb 9 dX1_times_123 (by decide) ?_
                  refine zi_div hx hb dX1_times_125 (by omega) (by omega) ?_
                  refine zi_top (fun v24 ev24 => ?_)
                  refine lv_istore (lv' := [(5, .int (iZ v24)), (0, .ref mo), (1, .int (iZ f)), (2, .int (iZ g)), (3, .int (iZ i)), (4, .int (iZ i4))]) hx hb dX1_times_126 hl (by decide) rfl (fun ls hl => ?_)
                  refine lv_iload hx hb dX1_times_128 (lv_at hl 5 rfl) ?_
                  refine zi_bi hx hb 9 dX1_times_130 (by decide) ?_
                  refine zi_div hx hb dX1_times_132 (by omega) (by omega) ?_
                  refine zi_top (fun v25 ev25 => ?_)
                  refine lv_istore (lv' := [(6, .int (iZ v25)), (5, .int (iZ v24)), (0, .ref mo), (1, .int (iZ f)), (2, .int (iZ g)), (3, .int (iZ i)), (4, .int (iZ i4))]) hx hb dX1_times_133 hl (by decide) rfl (fun ls hl => ?_)
                  refine lv_iload hx hb dX1_times_135 (lv_at hl 1 rfl) ?_
                  refine zi_const hx hb 4 dX1_times_137 ?_
                  refine zi_cge (tgt := 155) hx hb dX1_times_138 (by decide) (by omega) (by omega) (fun hc138 => ?_) (fun hc138 => ?_)
                  · refine zi_bi hx hb 11 dX1_times_155 (by decide) ?_
                    refine lv_iload hx hb dX1_times_157 (lv_at hl 1 rfl) ?_
                    refine rd_S (As := [.int (iZ v24)]) (rest := [.int (iZ 11)]) (st1 := [.int (iZ (xpZ v24)), .int (iZ 11)]) S (k_X1_exponent l v24 (by omega)) tb_491 tb_492 tb_2 tb_493 hd_X1_exponent ⟨rfl, rfl, by decide, by decide⟩ bl_T (fun _ _ _ => trivial) rfl hl.1 rfl (Nat.le_of_ble_eq_true rfl) dX1_times_159 ⟨Nat.zero_le _, Nat.zero_le _⟩ rfl ?_
                    have hxe162 : xpZ v24 = (if v24 < 4 then 0 else if v24 < 6 then v24 - 6 else v24 - 5) := rfl
                    refine zi_add hx hb dX1_times_162 ?_
                    refine lv_iload hx hb dX1_times_163 (lv_at hl 0 rfl) ?_
                    refine rd_S (As := [.int (iZ v25)]) (rest := [.int (iZ (11 + (xpZ v24)))]) (st1 := [.int (iZ (xpZ v25)), .int (iZ (11 + (xpZ v24)))]) S (k_X1_exponent l v25 (by omega)) tb_491 tb_492 tb_2 tb_493 hd_X1_exponent ⟨rfl, rfl, by decide, by decide⟩ bl_T (fun _ _ _ => trivial) rfl hl.1 rfl (Nat.le_of_ble_eq_true rfl) dX1_times_165 ⟨Nat.zero_le _, Nat.zero_le _⟩ rfl ?_
                    have hxe168 : xpZ v25 = (if v25 < 4 then 0 else if v25 < 6 then v25 - 6 else v25 - 5) := rfl
                    refine zi_add hx hb dX1_times_168 ?_
                    refine zi_top (fun v26 ev26 => ?_)
                    refine lv_istore (lv' := [(7, .int (iZ v26)), (6, .int (iZ v25)), (5, .int (iZ v24)), (0, .ref mo), (1, .int (iZ f)), (2, .int (iZ g)), (3, .int (iZ i)), (4, .int (iZ i4))]) hx hb dX1_times_169 hl (by decide) rfl (fun ls hl => ?_)
                    have hrl := rw_lz (a := v24) (b := v25) (row := v26) (by omega) (by omega) (by omega) (by omega) (by rw [ev26]; first | rw [if_pos (by omega)] | rw [if_neg (by omega)])
                    rw [show v24 = i / 9 by omega, show v25 = i4 / 9 by omega] at hrl
                    refine zi_bi hx hb 19 dX1_times_171 (by decide) ?_
                    refine lv_iload hx hb dX1_times_173 (lv_at hl 0 rfl) ?_
                    refine zi_mul hx hb dX1_times_175 ?_
                    refine lv_iload_n hx hb dX1_times_176 rfl (lv_at hl 6 rfl) ?_
                    refine zi_bi hx hb 9 dX1_times_177 (by decide) ?_
                    refine zi_rem hx hb dX1_times_179 (by omega) (by omega) ?_
                    refine zi_add hx hb dX1_times_180 ?_
                    refine lv_iload hx hb dX1_times_181 (lv_at hl 7 rfl) ?_
                    refine zi_bi hx hb 9 dX1_times_183 (by decide) ?_
                    refine zi_rem hx hb dX1_times_185 (by omega) (by omega) ?_
                    refine zi_add hx hb dX1_times_186 ?_
                    refine zi_const hx hb 1 dX1_times_187 ?_
                    refine zi_add hx hb dX1_times_188 ?_
                    refine zi_top (fun v27 ev27 => ?_)
                    refine lv_istore (lv' := [(8, .int (iZ v27)), (7, .int (iZ v26)), (6, .int (iZ v25)), (5, .int (iZ v24)), (0, .ref mo), (1, .int (iZ f)), (2, .int (iZ g)), (3, .int (iZ i)), (4, .int (iZ i4))]) hx hb dX1_times_189 hl (by decide) rfl (fun ls hl => ?_)
                    have hur := hI100.2.2.1.1 (v27).toNat (by omega)
                    refine lv_aload_n hx hb dX1_times_191 rfl (lv_at hl 4 rfl) ?_
                    refine va_get (D := D) (ci := 1) (C := RX1) (T := TX1) (N := 8) hx hb hT inX1 hown hK hP 0 rfl rfl 6 (by decide) (hT _ tb_408) (fun _ h9 => h9) rfl dX1_times_192 ?_
                    refine lv_iload hx hb dX1_times_195 (lv_at hl 0 rfl) ?_
                    refine lv_aload_n hx hb dX1_times_197 rfl (lv_at hl 4 rfl) ?_
                    refine va_get (D := D) (ci := 1) (C := RX1) (T := TX1) (N := 8) hx hb hT inX1 hown hK hP 0 rfl rfl 6 (by decide) (hT _ tb_408) (fun _ h9 => h9) rfl dX1_times_198 ?_
                    refine lv_iload hx hb dX1_times_201 (lv_at hl 0 rfl) ?_
                    refine va_lald hx hb hK hP 5 1 rfl rfl (iZ_in (by omega) (by omega) (by decide)) dX1_times_203 ?_
                    refine zl_as (a := U 4 ((v27).toNat)) (by rw [iZ_cl (by omega) (by omega)]) ?_
                    refine lv_aload_n hx hb dX1_times_204 rfl (lv_at hl 4 rfl) ?_
                    refine va_get (D := D) (ci := 1) (C := RX1) (T := TX1) (N := 8) hx hb hT inX1 hown hK hP 0 rfl rfl 4 (by decide) (hT _ tb_406) (fun _ h9 => h9) rfl dX1_times_205 ?_
                    refine lv_iload_n hx hb dX1_times_208 rfl (lv_at hl 7 rfl) ?_
                    refine va_lald hx hb hK hP 3 1 rfl rfl (iZ_in (by omega) (by omega) (by decide)) dX1_times_209 ?_
                    refine zl_as (a := U 2 ((i).toNat)) (by rw [iZ_cl (by omega) (by omega)]) ?_
                    refine lv_aload_n hx hb dX1_times_210 rfl (lv_at hl 4 rfl) ?_
                    refine va_get (D := D) (ci := 1) (C := RX1) (T := TX1) (N := 8) hx hb hT inX1 hown hK hP 0 rfl rfl 5 (by decide) (hT _ tb_407) (fun _ h9 => h9) rfl dX1_times_211 ?_
                    refine lv_iload hx hb dX1_times_214 (lv_at hl 8 rfl) ?_
                    refine va_lald hx hb hK hP 4 1 rfl rfl (iZ_in (by omega) (by omega) (by decide)) dX1_times_216 ?_
                    refine zl_as (a := U 3 ((i4).toNat)) (by rw [iZ_cl (by omega) (by omega)]) ?_
                    refine zl_mul hx hb dX1_times_217 ?_
                    refine zl_top (fun v28 ev28 => ?_)
                    have hvv : v28 = V 0 ((f * 72).toNat + i.toNat) * V 0 ((g * 72).toNat + i4.toNat) := by
                      rw [ev28, hpu, hqi]
                    have hnz : V 0 ((f * 72).toNat + i.toNat) * V 0 ((g * 72).toNat + i4.toNat) ≠ 0 := Int.mul_ne_zero (by omega) (by omega)
                    refine zl_add hx hb dX1_times_218 ?_
                    refine zl_ldc hx hb 32003 hown (hT _ tb_448) (by decide) dX1_times_219 ?_
                    refine zl_rem hx hb dX1_times_222 (by omega) (by omega) ?_
                    have hxx : (Int.tmod ((U 4 (v27).toNat) + v28) 32003 : Int) = (U 4 (v27).toNat + V 0 ((f * 72).toNat + i.toNat) * V 0 ((g * 72).toNat + i4.toNat)) % 32003 := by
                      rw [← hvv]
                      exact tmP (by omega)
                    refine mm_l hx hb hK hP hd hA hS 4 304 rfl (fun g => rfl) (by omega) dX1_times_223 (fun H locs hP hS => ?_)
                    obtain ⟨V29, eV29⟩ : ∃ Z : Nat → Nat → Int, Z = sV U 4 (uZ (U 4) (v27).toNat (Int.tmod ((U 4 (v27).toNat) + v28) 32003)) := ⟨_, rfl⟩
                    rw [← eV29] at hP
                    refine zi_inc (lv' := [(4, .int (iZ (i4 + 1))), (8, .int (iZ v27)), (7, .int (iZ v26)), (6, .int (iZ v25)), (5, .int (iZ v24)), (0, .ref mo), (1, .int (iZ f)), (2, .int (iZ g)), (3, .int (iZ i))]) hx hb dX1_times_224 hl (k := 8) rfl (by decide) rfl (fun ls hl => ?_)
                    refine lv_goto (tgt := 100) hx hb dX1_times_227 (by decide) ?_
                    exact ih100 (m100 - 1) (V29, i4 + 1) (by omega) (by (try dsimp only); exact ⟨by omega, by omega, by rw [eV29, sV_a, am_go (by omega), hxx]; exact rw_step hI100.2.2.1 hrl.1 (by rw [(jCz (i := i4) (by omega)).1, (jCz (i := i) (by omega)).1]; exact hrl.2) (by omega) (by omega) hnz, by rw [eV29, sV_b (by decide)]; exact hI100.2.2.2.1, by rw [eV29, sV_b (by decide)]; exact hI100.2.2.2.2.1, by rw [eV29, sV_b (by decide)]; exact hI100.2.2.2.2.2⟩) _ _ hP hS ls (lv_sub hl [5, 6, 7, 8, 0] rfl)
                  · refine lv_iload hx hb dX1_times_141 (lv_at hl 0 rfl) ?_
                    refine zi_const hx hb 4 dX1_times_143 ?_
                    refine zi_cge (tgt := 155) hx hb dX1_times_144 (by decide) (by omega) (by omega) (fun hc144 => ?_) (fun hc144 => ?_)
                    · refine zi_bi hx hb 11 dX1_times_155 (by decide) ?_
                      refine lv_iload hx hb dX1_times_157 (lv_at hl 1 rfl) ?_
                      refine rd_S (As := [.int (iZ v24)]) (rest := [.int (iZ 11)]) (st1 := [.int (iZ (xpZ v24)), .int (iZ 11)]) S (k_X1_exponent l v24 (by omega)) tb_491 tb_492 tb_2 tb_493 hd_X1_exponent ⟨rfl, rfl, by decide, by decide⟩ bl_T (fun _ _ _ => trivial) rfl hl.1 rfl (Nat.le_of_ble_eq_true rfl) dX1_times_159 ⟨Nat.zero_le _, Nat.zero_le _⟩ rfl ?_
                      have hxe162 : xpZ v24 = (if v24 < 4 then 0 else if v24 < 6 then v24 - 6 else v24 - 5) := rfl
                      refine zi_add hx hb dX1_times_162 ?_
                      refine lv_iload hx hb dX1_times_163 (lv_at hl 0 rfl) ?_
                      refine rd_S (As := [.int (iZ v25)]) (rest := [.int (iZ (11 + (xpZ v24)))]) (st1 := [.int (iZ (xpZ v25)), .int (iZ (11 + (xpZ v24)))]) S (k_X1_exponent l v25 (by omega)) tb_491 tb_492 tb_2 tb_493 hd_X1_exponent ⟨rfl, rfl, by decide, by decide⟩ bl_T (fun _ _ _ => trivial) rfl hl.1 rfl (Nat.le_of_ble_eq_true rfl) dX1_times_165 ⟨Nat.zero_le _, Nat.zero_le _⟩ rfl ?_
                      have hxe168 : xpZ v25 = (if v25 < 4 then 0 else if v25 < 6 then v25 - 6 else v25 - 5) := rfl
                      refine zi_add hx hb dX1_times_168 ?_
                      refine zi_top (fun v30 ev30 => ?_)
                      refine lv_istore (lv' := [(7, .int (iZ v30)), (6, .int (iZ v25)), (5, .int (iZ v24)), (0, .ref mo), (1, .int (iZ f)), (2, .int (iZ g)), (3, .int (iZ i)), (4, .int (iZ i4))]) hx hb dX1_times_169 hl (by decide) rfl (fun ls hl => ?_)
                      have hrl := rw_lz (a := v24) (b := v25) (row := v30) (by omega) (by omega) (by omega) (by omega) (by rw [ev30]; first | rw [if_pos (by omega)] | rw [if_neg (by omega)])
                      rw [show v24 = i / 9 by omega, show v25 = i4 / 9 by omega] at hrl
                      refine zi_bi hx hb 19 dX1_times_171 (by decide) ?_
                      refine lv_iload hx hb dX1_times_173 (lv_at hl 0 rfl) ?_
                      refine zi_mul hx hb dX1_times_175 ?_
                      refine lv_iload_n hx hb dX1_times_176 rfl (lv_at hl 6 rfl) ?_
                      refine zi_bi hx hb 9 dX1_times_177 (by decide) ?_
                      refine zi_rem hx hb dX1_times_179 (by omega) (by omega) ?_
                      refine zi_add hx hb dX1_times_180 ?_
                      refine lv_iload hx hb dX1_times_181 (lv_at hl 7 rfl) ?_
                      refine zi_bi hx hb 9 dX1_times_183 (by decide) ?_
                      refine zi_rem hx hb dX1_times_185 (by omega) (by omega) ?_
                      refine zi_add hx hb dX1_times_186 ?_
                      refine zi_const hx hb 1 dX1_times_187 ?_
                      refine zi_add hx hb dX1_times_188 ?_
                      refine zi_top (fun v31 ev31 => ?_)
                      refine lv_istore (lv' := [(8, .int (iZ v31)), (7, .int (iZ v30)), (6, .int (iZ v25)), (5, .int (iZ v24)), (0, .ref mo), (1, .int (iZ f)), (2, .int (iZ g)), (3, .int (iZ i)), (4, .int (iZ i4))]) hx hb dX1_times_189 hl (by decide) rfl (fun ls hl => ?_)
                      have hur := hI100.2.2.1.1 (v31).toNat (by omega)
                      refine lv_aload_n hx hb dX1_times_191 rfl (lv_at hl 4 rfl) ?_
                      refine va_get (D := D) (ci := 1) (C := RX1) (T := TX1) (N := 8) hx hb hT inX1 hown hK hP 0 rfl rfl 6 (by decide) (hT _ tb_408) (fun _ h9 => h9) rfl dX1_times_192 ?_
                      refine lv_iload hx hb dX1_times_195 (lv_at hl 0 rfl) ?_
                      refine lv_aload_n hx hb dX1_times_197 rfl (lv_at hl 4 rfl) ?_
                      refine va_get (D := D) (ci := 1) (C := RX1) (T := TX1) (N := 8) hx hb hT inX1 hown hK hP 0 rfl rfl 6 (by decide) (hT _ tb_408) (fun _ h9 => h9) rfl dX1_times_198 ?_
                      refine lv_iload hx hb dX1_times_201 (lv_at hl 0 rfl) ?_
                      refine va_lald hx hb hK hP 5 1 rfl rfl (iZ_in (by omega) (by omega) (by decide)) dX1_times_203 ?_
                      refine zl_as (a := U 4 ((v31).toNat)) (by rw [iZ_cl (by omega) (by omega)]) ?_
                      refine lv_aload_n hx hb dX1_times_204 rfl (lv_at hl 4 rfl) ?_
                      refine va_get (D := D) (ci := 1) (C := RX1) (T := TX1) (N := 8) hx hb hT inX1 hown hK hP 0 rfl rfl 4 (by decide) (hT _ tb_406) (fun _ h9 => h9) rfl dX1_times_205 ?_
                      refine lv_iload_n hx hb dX1_times_208 rfl (lv_at hl 7 rfl) ?_
                      refine va_lald hx hb hK hP 3 1 rfl rfl (iZ_in (by omega) (by omega) (by decide)) dX1_times_209 ?_
                      refine zl_as (a := U 2 ((i).toNat)) (by rw [iZ_cl (by omega) (by omega)]) ?_
                      refine lv_aload_n hx hb dX1_times_210 rfl (lv_at hl 4 rfl) ?_
                      refine va_get (D := D) (ci := 1) (C := RX1) (T := TX1) (N := 8) hx hb hT inX1 hown hK hP 0 rfl rfl 5 (by decide) (hT _ tb_407) (fun _ h9 => h9) rfl dX1_times_211 ?_
                      refine lv_iload hx hb dX1_times_214 (lv_at hl 8 rfl) ?_
                      refine va_lald hx hb hK hP 4 1 rfl rfl (iZ_in (by omega) (by omega) (by decide)) dX1_times_216 ?_
                      refine zl_as (a := U 3 ((i4).toNat)) (by rw [iZ_cl (by omega) (by omega)]) ?_
                      refine zl_mul hx hb dX1_times_217 ?_
                      refine zl_top (fun v32 ev32 => ?_)
                      have hvv : v32 = V 0 ((f * 72).toNat + i.toNat) * V 0 ((g * 72).toNat + i4.toNat) := by
                        rw [ev32, hpu, hqi]
                      have hnz : V 0 ((f * 72).toNat + i.toNat) * V 0 ((g * 72).toNat + i4.toNat) ≠ 0 := Int.mul_ne_zero (by omega) (by omega)
                      refine zl_add hx hb dX1_times_218 ?_
                      refine zl_ldc hx hb 32003 hown (hT _ tb_448) (by decide) dX1_times_219 ?_
                      refine zl_rem hx hb dX1_times_222 (by omega) (by omega) ?_
                      have hxx : (Int.tmod ((U 4 (v31).toNat) + v32) 32003 : Int) = (U 4 (v31).toNat + V 0 ((f * 72).toNat + i.toNat) * V 0 ((g * 72).toNat + i4.toNat)) % 32003 := by
                        rw [← hvv]
                        exact tmP (by omega)
                      refine mm_l hx hb hK hP hd hA hS 4 304 rfl (fun g => rfl) (by omega) dX1_times_223 (fun H locs hP hS => ?_)
                      obtain ⟨V33, eV33⟩ : ∃ Z : Nat → Nat → Int, Z = sV U 4 (uZ (U 4) (v31).toNat (Int.tmod ((U 4 (v31).toNat) + v32) 32003)) := ⟨_, rfl⟩
                      rw [← eV33] at hP
                      refine zi_inc (lv' := [(4, .int (iZ (i4 + 1))), (8, .int (iZ v31)), (7, .int (iZ v30)), (6, .int (iZ v25)), (5, .int (iZ v24)), (0, .ref mo), (1, .int (iZ f)), (2, .int (iZ g)), (3, .int (iZ i))]) hx hb dX1_times_224 hl (k := 8) rfl (by decide) rfl (fun ls hl => ?_)
                      refine lv_goto (tgt := 100) hx hb dX1_times_227 (by decide) ?_
                      exact ih100 (m100 - 1) (V33, i4 + 1) (by omega) (by (try dsimp only); exact ⟨by omega, by omega, by rw [eV33, sV_a, am_go (by omega), hxx]; exact rw_step hI100.2.2.1 hrl.1 (by rw [(jCz (i := i4) (by omega)).1, (jCz (i := i) (by omega)).1]; exact hrl.2) (by omega) (by omega) hnz, by rw [eV33, sV_b (by decide)]; exact hI100.2.2.2.1, by rw [eV33, sV_b (by decide)]; exact hI100.2.2.2.2.1, by rw [eV33, sV_b (by decide)]; exact hI100.2.2.2.2.2⟩) _ _ hP hS ls (lv_sub hl [5, 6, 7, 8, 0] rfl)
                    · refine lv_iload hx hb dX1_times_147 (lv_at hl 1 rfl) ?_
                      refine lv_iload hx hb dX1_times_149 (lv_at hl 0 rfl) ?_
                      refine zi_add hx hb dX1_times_151 ?_
                      refine lv_goto (tgt := 169) hx hb dX1_times_152 (by decide) ?_
                      refine zi_top (fun v34 ev34 => ?_)
                      refine lv_istore (lv' := [(7, .int (iZ v34)), (6, .int (iZ v25)), (5, .int (iZ v24)), (0, .ref mo), (1, .int (iZ f)), (2, .int (iZ g)), (3, .int (iZ i)), (4, .int (iZ i4))]) hx hb dX1_times_169 hl (by decide) rfl (fun ls hl => ?_)
                      have hrl := rw_lz (a := v24) (b := v25) (row := v34) (by omega) (by omega) (by omega) (by omega) (by rw [ev34]; first | rw [if_pos (by omega)] | rw [if_neg (by omega)])
                      rw [show v24 = i / 9 by omega, show v25 = i4 / 9 by omega] at hrl
                      refine zi_bi hx hb 19 dX1_times_171 (by decide) ?_
                      refine lv_iload hx hb dX1_times_173 (lv_at hl 0 rfl) ?_
                      refine zi_mul hx hb dX1_times_175 ?_
                      refine lv_iload_n hx hb dX1_times_176 rfl (lv_at hl 6 rfl) ?_
                      refine zi_bi hx hb 9 dX1_times_177 (by decide) ?_
                      refine zi_rem hx hb dX1_times_179 (by omega) (by omega) ?_
                      refine zi_add hx hb dX1_times_180 ?_
                      refine lv_iload hx hb dX1_times_181 (lv_at hl 7 rfl) ?_
                      refine zi_bi hx hb 9 dX1_times_183 (by decide) ?_
                      refine zi_rem hx hb dX1_times_185 (by omega) (by omega) ?_
                      refine zi_add hx hb dX1_times_186 ?_
                      refine zi_const hx hb 1 dX1_times_187 ?_
                      refine zi_add hx hb dX1_times_188 ?_
                      refine zi_top (fun v35 ev35 => ?_)
                      refine lv_istore (lv' := [(8, .int (iZ v35)), (7, .int (iZ v34)), (6, .int (iZ v25)), (5, .int (iZ v24)), (0, .ref mo), (1, .int (iZ f)), (2, .int (iZ g)), (3, .int (iZ i)), (4, .int (iZ i4))]) hx hb dX1_times_189 hl (by decide) rfl (fun ls hl => ?_)
                      have hur := hI100.2.2.1.1 (v35).toNat (by omega)
                      refine lv_aload_n hx hb dX1_times_191 rfl (lv_at hl 4 rfl) ?_
                      refine va_get (D := D) (ci := 1) (C := RX1) (T := TX1) (N := 8) hx hb hT inX1 hown hK hP 0 rfl rfl 6 (by decide) (hT _ tb_408) (fun _ h9 => h9) rfl dX1_times_192 ?_
                      refine lv_iload hx hb dX1_times_195 (lv_at hl 0 rfl) ?_
                      refine lv_aload_n hx hb dX1_times_197 rfl (lv_at hl 4 rfl) ?_
                      refine va_get (D := D) (ci := 1) (C := RX1) (T := TX1) (N := 8) hx hb hT inX1 hown hK hP 0 rfl rfl 6 (by decide) (hT _ tb_408) (fun _ h9 => h9) rfl dX1_times_198 ?_
                      refine lv_iload hx hb dX1_times_201 (lv_at hl 0 rfl) ?_
                      refine va_lald hx hb hK hP 5 1 rfl rfl (iZ_in (by omega) (by omega) (by decide)) dX1_times_203 ?_
                      refine zl_as (a := U 4 ((v35).toNat)) (by rw [iZ_cl (by omega) (by omega)]) ?_
                      refine lv_aload_n hx hb dX1_times_204 rfl (lv_at hl 4 rfl) ?_
                      refine va_get (D := D) (ci := 1) (C := RX1) (T := TX1) (N := 8) hx hb hT inX1 hown hK hP 0 rfl rfl 4 (by decide) (hT _ tb_406) (fun _ h9 => h9) rfl dX1_times_205 ?_
                      refine lv_iload_n hx hb dX1_times_208 rfl (lv_at hl 7 rfl) ?_
                      refine va_lald hx hb hK hP 3 1 rfl rfl (iZ_in (by omega) (by omega) (by decide)) dX1_times_209 ?_
                      refine zl_as (a := U 2 ((i).toNat)) (by rw [iZ_cl (by omega) (by omega)]) ?_
                      refine lv_aload_n hx hb dX1_times_210 rfl (lv_at hl 4 rfl) ?_
                      refine va_get (D := D) (ci := 1) (C := RX1) (T := TX1) (N := 8) hx hb hT inX1 hown hK hP 0 rfl rfl 5 (by decide) (hT _ tb_407) (fun _ h9 => h9) rfl dX1_times_211 ?_
                      refine lv_iload hx hb dX1_times_214 (lv_at hl 8 rfl) ?_
                      refine va_lald hx hb hK hP 4 1 rfl rfl (iZ_in (by omega) (by omega) (by decide)) dX1_times_216 ?_
                      refine zl_as (a := U 3 ((i4).toNat)) (by rw [iZ_cl (by omega) (by omega)]) ?_
                      refine zl_mul hx hb dX1_times_217 ?_
                      refine zl_top (fun v36 ev36 => ?_)
                      have hvv : v36 = V 0 ((f * 72).toNat + i.toNat) * V 0 ((g * 72).toNat + i4.toNat) := by
                        rw [ev36, hpu, hqi]
                      have hnz : V 0 ((f * 72).toNat + i.toNat) * V 0 ((g * 72).toNat + i4.toNat) ≠ 0 := Int.mul_ne_zero (by omega) (by omega)
                      refine zl_add hx hb dX1_times_218 ?_
                      refine zl_ldc hx hb 32003 hown (hT _ tb_448) (by decide) dX1_times_219 ?_
                      refine zl_rem hx hb dX1_times_222 (by omega) (by omega) ?_
                      have hxx : (Int.tmod ((U 4 (v35).toNat) + v36) 32003 : Int) = (U 4 (v35).toNat + V 0 ((f * 72).toNat + i.toNat) * V 0 ((g * 72).toNat + i4.toNat)) % 32003 := by
                        rw [← hvv]
                        exact tmP (by omega)
                      refine mm_l hx hb hK hP hd hA hS 4 304 rfl (fun g => rfl) (by omega) dX1_times_223 (fun H locs hP hS => ?_)
                      obtain ⟨V37, eV37⟩ : ∃ Z : Nat → Nat → Int, Z = sV U 4 (uZ (U 4) (v35).toNat (Int.tmod ((U 4 (v35).toNat) + v36) 32003)) := ⟨_, rfl⟩
                      rw [← eV37] at hP
                      refine zi_inc (lv' := [(4, .int (iZ (i4 + 1))), (8, .int (iZ v35)), (7, .int (iZ v34)), (6, .int (iZ v25)), (5, .int (iZ v24)), (0, .ref mo), (1, .int (iZ f)), (2, .int (iZ g)), (3, .int (iZ i))]) hx hb dX1_times_224 hl (k := 8) rfl (by decide) rfl (fun ls hl => ?_)
                      refine lv_goto (tgt := 100) hx hb dX1_times_227 (by decide) ?_
                      exact ih100 (m100 - 1) (V37, i4 + 1) (by omega) (by (try dsimp only); exact ⟨by omega, by omega, by rw [eV37, sV_a, am_go (by omega), hxx]; exact rw_step hI100.2.2.1 hrl.1 (by rw [(jCz (i := i4) (by omega)).1, (jCz (i := i) (by omega)).1]; exact hrl.2) (by omega) (by omega) hnz, by rw [eV37, sV_b (by decide)]; exact hI100.2.2.2.1, by rw [eV37, sV_b (by decide)]; exact hI100.2.2.2.2.1, by rw [eV37, sV_b (by decide)]; exact hI100.2.2.2.2.2⟩) _ _ hP hS ls (lv_sub hl [5, 6, 7, 8, 0] rfl)
                · refine lv_goto (tgt := 224) hx hb dX1_times_119 (by decide) ?_
                  refine zi_inc (lv' := [(4, .int (iZ (i4 + 1))), (0, .ref mo), (1, .int (iZ f)), (2, .int (iZ g)), (3, .int (iZ i))]) hx hb dX1_times_224 hl (k := 4) rfl (by decide) rfl (fun ls hl => ?_)
                  refine lv_goto (tgt := 100) hx hb dX1_times_227 (by decide) ?_
                  exact ih100 (m100 - 1) (U, i4 + 1) (by omega) (by (try dsimp only); exact ⟨by omega, by omega, by rw [am_skip (by omega) (by omega)]; exact hI100.2.2.1, hI100.2.2.2⟩) _ _ hP hS ls (lv_sub hl [1, 2, 3, 4, 0] rfl)
            · refine lv_goto (tgt := 230) hx hb dX1_times_94 (by decide) ?_
              refine zi_inc (lv' := [(3, .int (iZ (i + 1))), (0, .ref mo), (1, .int (iZ f)), (2, .int (iZ g))]) hx hb dX1_times_230 hl (k := 3) rfl (by decide) rfl (fun ls hl => ?_)
              refine lv_goto (tgt := 77) hx hb dX1_times_233 (by decide) ?_
              exact ih77 (m77 - 1) (Y, i + 1) (by omega) (by (try dsimp only); exact ⟨by omega, by omega, by rw [sp_go (by omega), if_pos (by omega)]; exact hI77.2.2.1, hI77.2.2.2⟩) _ _ hP hS ls (lv_sub hl [1, 2, 3, 0] rfl)
        · exfalso
          omega
    · refine lv_aload_n hx hb dX1_times_24 rfl (lv_at hl 0 rfl) ?_
      refine lv_aload_n hx hb dX1_times_25 rfl (lv_at hl 0 rfl) ?_
      refine va_get (D := D) (ci := 1) (C := RX1) (T := TX1) (N := 8) hx hb hT inX1 hown hK hP 0 rfl rfl 5 (by decide) (hT _ tb_407) (fun _ h9 => h9) rfl dX1_times_26 ?_
      refine zi_const hx hb 4 dX1_times_29 ?_
      refine zi_bi hx hb 8 dX1_times_30 (by decide) ?_
      refine rd_V (As := [.ref (na 3), .int (iZ ((4 : Int))), .int (iZ ((8 : Int)))]) (rest := []) (st1 := [.int (iZ (hsZ (V1 3) (((4 : Int)) * 9).toNat ((((8 : Int)) - ((4 : Int))) * 9).toNat))]) S (k3_X1_has l D mo na cI cJ 0 k V1 ((4 : Int)) ((8 : Int)) (by omega) hp3) tb_479 tb_481 ts_X1_has tb_2 tb_482 hd_X1_has ⟨rfl, rfl, by decide, by decide⟩ rM_bl (rM_mv hP hK) (va_recv hK hP (ci := 1) (q0 := 0) rfl rfl) rfl hl.1 rfl (Nat.le_of_ble_eq_true rfl) dX1_times_32 ⟨Nat.zero_le _, Nat.zero_le _⟩ rfl ?_
      refine zi_fne (tgt := 65) hx hb dX1_times_35 (by decide) (by omega) (fun hc35 => ?_) (fun hc35 => ?_)
      · exfalso
        omega
      · refine lv_aload_n hx hb dX1_times_38 rfl (lv_at hl 0 rfl) ?_
        refine lv_aload_n hx hb dX1_times_39 rfl (lv_at hl 0 rfl) ?_
        refine va_get (D := D) (ci := 1) (C := RX1) (T := TX1) (N := 8) hx hb hT inX1 hown hK hP 0 rfl rfl 4 (by decide) (hT _ tb_406) (fun _ h9 => h9) rfl dX1_times_40 ?_
        refine zi_const hx hb 4 dX1_times_43 ?_
        refine zi_bi hx hb 8 dX1_times_44 (by decide) ?_
        refine rd_V (As := [.ref (na 2), .int (iZ ((4 : Int))), .int (iZ ((8 : Int)))]) (rest := []) (st1 := [.int (iZ (hsZ (V1 2) (((4 : Int)) * 9).toNat ((((8 : Int)) - ((4 : Int))) * 9).toNat))]) S (k2_X1_has l D mo na cI cJ 0 k V1 ((4 : Int)) ((8 : Int)) (by omega) hp2) tb_479 tb_481 ts_X1_has tb_2 tb_482 hd_X1_has ⟨rfl, rfl, by decide, by decide⟩ rM_bl (rM_mv hP hK) (va_recv hK hP (ci := 1) (q0 := 0) rfl rfl) rfl hl.1 rfl (Nat.le_of_ble_eq_true rfl) dX1_times_46 ⟨Nat.zero_le _, Nat.zero_le _⟩ rfl ?_
        refine zi_feq (tgt := 71) hx hb dX1_times_49 (by decide) (by omega) (fun hc49 => ?_) (fun hc49 => ?_)
        · refine lv_aload_n hx hb dX1_times_71 rfl (lv_at hl 0 rfl) ?_
          refine wm_V (As := []) (rest := []) (st1 := []) (c1 := 0) (k1 := k) S (k_X1_start l D mo na cI cJ 0 k V1  hd ) tb_487 tb_489 ts_X1_start tb_2 tb_490 hd_X1_start ⟨rfl, rfl, by decide, by decide⟩ hP hK hS hA hAn rfl hl.1 rfl (Nat.le_of_ble_eq_true rfl) dX1_times_72 ⟨Nat.zero_le _, Nat.zero_le _⟩ rfl (fun V38 H locs hRV38 hP hS _ _ => ?_)
          refine zi_const hx hb 0 dX1_times_75 ?_
          refine lv_istore_n (lv' := [(3, .int (iZ 0)), (0, .ref mo), (1, .int (iZ f)), (2, .int (iZ g))]) hx hb dX1_times_76 rfl hl (by decide) rfl (fun ls hl => ?_)
          refine lp_goM (nL := 9) (α := (Nat → Nat → Int) × Int) (fun z => [(0, .ref mo), (1, .int (iZ f)), (2, .int (iZ g)), (3, .int (iZ z.2))]) (fun _ => 0) (fun _ => k) (fun z => z.1) (fun m77 z => 0 ≤ z.2 ∧ z.2 + (m77 : Int) = 72 ∧ rwR (z.1 4) (spZ (V 0) G f g z.2.toNat) ∧ z.1 2 = V1 2 ∧ z.1 3 = V1 3 ∧ z.1 0 = V 0) ?_ 72 (V38, (0 : Int)) (by (try dsimp only); exact ⟨by omega, by omega, rw_0 hRV38.1 (fun j hj => (by show fiZ G 0 255 (fun _ => (0 : Int)) j = 0; unfold fiZ; rw [if_pos (by omega)])), hRV38.2 2 (by decide), hRV38.2 3 (by decide), (hRV38.2 0 (by decide)).trans hRV1.2.2⟩) _ _ hP hS ls (lv_sub hl [1, 2, 3, 0] rfl)
          intro m77 z39 hI77 ih77 H locs hP hS ls hl
          obtain ⟨Y, i⟩ := z39
          have hl : lv_has ls 9 [(0, .ref mo), (1, .int (iZ f)), (2, .int (iZ g)), (3, .int (iZ i))] := hl
          have hI77 : 0 ≤ i ∧ i + (m77 : Int) = 72 ∧ rwR (Y 4) (spZ (V 0) G f g i.toNat) ∧ Y 2 = V1 2 ∧ Y 3 = V1 3 ∧ Y 0 = V 0 := hI77
          have hP : va_P D vwCl (mX mo na cI cJ 0 k Y) H := hP
          refine lv_iload_n hx hb dX1_times_77 rfl (lv_at hl 3 rfl) ?_
          refine zi_bi hx hb 72 dX1_times_78 (by decide) ?_
          refine zi_cge (tgt := 236) hx hb dX1_times_80 (by decide) (by omega) (by omega) (fun hc80 => ?_) (fun hc80 => ?_)
          · have hsp : rwR (Y 4) (spZ (V 0) G f g 72) := (show i.toNat = 72 by omega) ▸ hI77.2.2.1
            refine lv_aload_n hx hb dX1_times_236 rfl (lv_at hl 0 rfl) ?_
            refine wm_V (As := []) (rest := []) (st1 := [.int (iZ k)]) (c1 := 0) (k1 := k + 1) S (k_X1_narrow l D mo na cI cJ 0 k Y  hd (by omega) hsp.1 ((rw_ok hsp).mpr h1)) tb_494 tb_496 ts_X1_narrow tb_2 tb_497 hd_X1_narrow ⟨rfl, rfl, by decide, by decide⟩ hP hK hS hA hAn rfl hl.1 rfl (Nat.le_of_ble_eq_true rfl) dX1_times_237 ⟨Nat.zero_le _, Nat.zero_le _⟩ rfl (fun V40 H locs hRV40 hP hS _ _ => ?_)
            exact wm_iret hx hb hr hlk hP (⟨fun j hj => by rw [hRV40.1 j hj]; obtain ⟨a1, a2, a3, a4, a5⟩ := jr_72 hj; exact rw_row hsp ⟨a1, a2⟩ ⟨a3, a4⟩, fun j hj => by rw [hRV40.2 j hj]; exact congrFun hI77.2.2.2.2.2 j⟩) rfl rfl hS (congrArg (fun z => some (Value.int (iZ z))) (show (k : Int) = k from rfl)) dX1_times_240
          · have hpi : Y 2 i.toNat = V 0 ((f * 72).toNat + i.toNat) := by
              rw [hI77.2.2.2.1]
              exact hRV1.1 _ (by omega)
            have hpr := hN ((f * 72).toNat + i.toNat)
            refine lv_aload_n hx hb dX1_times_83 rfl (lv_at hl 0 rfl) ?_
            refine va_get (D := D) (ci := 1) (C := RX1) (T := TX1) (N := 8) hx hb hT inX1 hown hK hP 0 rfl rfl 4 (by decide) (hT _ tb_406) (fun _ h9 => h9) rfl dX1_times_84 ?_
            refine lv_iload_n hx hb dX1_times_87 rfl (lv_at hl 3 rfl) ?_
            refine va_lald hx hb hK hP 3 1 rfl rfl (iZ_in (by omega) (by omega) (by decide)) dX1_times_88 ?_
            refine zl_as (a := Y 2 ((i).toNat)) (by rw [iZ_cl (by omega) (by omega)]) ?_
            refine zl_const hx hb 0 dX1_times_89 (by decide) ?_
            refine zl_cne (tgt := 97) hx hb dX1_times_90 dX1_times_91 (by decide) (by omega) (by omega) (fun hc90 => ?_) (fun hc90 => ?_)
            · refine zi_const hx hb 0 dX1_times_97 ?_
              refine lv_istore (lv' := [(4, .int (iZ 0)), (0, .ref mo), (1, .int (iZ f)), (2, .int (iZ g)), (3, .int (iZ i))]) hx hb dX1_times_98 hl (by decide) rfl (fun ls hl => ?_)
              refine lp_goM (nL := 9) (α := (Nat → Nat → Int) × Int) (fun z => [(0, .ref mo), (1, .int (iZ f)), (2, .int (iZ g)), (3, .int (iZ i)), (4, .int (iZ z.2))]) (fun _ => 0) (fun _ => k) (fun z => z.1) (fun m100 z => 0 ≤ z.2 ∧ z.2 + (m100 : Int) = 72 ∧ rwR (z.1 4) (amZ (V 0) (spZ (V 0) G f g i.toNat) g (jC i.toNat) (jN i.toNat) (V 0 ((f * 72).toNat + i.toNat)) z.2.toNat) ∧ z.1 2 = V1 2 ∧ z.1 3 = V1 3 ∧ z.1 0 = V 0) ?_ 72 (Y, (0 : Int)) (by (try dsimp only); exact ⟨by omega, by omega, hI77.2.2.1, hI77.2.2.2⟩) _ _ hP hS ls (lv_sub hl [1, 2, 3, 4, 0] rfl)
              intro m100 z41 hI100 ih100 H locs hP hS ls hl
              obtain ⟨U, i4⟩ := z41
              have hl : lv_has ls 9 [(0, .ref mo), (1, .int (iZ f)), (2, .int (iZ g)), (3, .int (iZ i)), (4, .int (iZ i4))] := hl
              have hI100 : 0 ≤ i4 ∧ i4 + (m100 : Int) = 72 ∧ rwR (U 4) (amZ (V 0) (spZ (V 0) G f g i.toNat) g (jC i.toNat) (jN i.toNat) (V 0 ((f * 72).toNat + i.toNat)) i4.toNat) ∧ U 2 = V1 2 ∧ U 3 = V1 3 ∧ U 0 = V 0 := hI100
              have hP : va_P D vwCl (mX mo na cI cJ 0 k U) H := hP
              refine lv_iload hx hb dX1_times_100 (lv_at hl 4 rfl) ?_
              refine zi_bi hx hb 72 dX1_times_102 (by decide) ?_
              refine zi_cge (tgt := 230) hx hb dX1_times_104 (by decide) (by omega) (by omega) (fun hc104 => ?_) (fun hc104 => ?_)
              · refine zi_inc (lv' := [(3, .int (iZ (i + 1))), (0, .ref mo), (1, .int (iZ f)), (2, .int (iZ g)), (4, .int (iZ i4))]) hx hb dX1_times_230 hl (k := 3) rfl (by decide) rfl (fun ls hl => ?_)
                refine lv_goto (tgt := 77) hx hb dX1_times_233 (by decide) ?_
                exact ih77 (m77 - 1) (U, i + 1) (by omega) (by (try dsimp only); exact ⟨by omega, by omega, by rw [sp_go (by omega), if_neg (by omega)]; exact (show i4.toNat = 72 by omega) ▸ hI100.2.2.1, hI100.2.2.2⟩) _ _ hP hS ls (lv_sub hl [1, 2, 3, 0] rfl)
              · have hqi : U 3 i4.toNat = V 0 ((g * 72).toNat + i4.toNat) := by
                  rw [hI100.2.2.2.2.1]
                  exact hRV1.2.1 _ (by omega)
                have hpu : U 2 i.toNat = V 0 ((f * 72).toNat + i.toNat) := by
                  rw [hI100.2.2.2.1]
                  exact hRV1.1 _ (by omega)
                have hqr := hN ((g * 72).toNat + i4.toNat)
                refine lv_aload_n hx hb dX1_times_107 rfl (lv_at hl 0 rfl) ?_
                refine va_get (D := D) (ci := 1) (C := RX1) (T := TX1) (N := 8) hx hb hT inX1 hown hK hP 0 rfl rfl 5 (by decide) (hT _ tb_407) (fun _ h9 => h9) rfl dX1_times_108 ?_
                refine lv_iload hx hb dX1_times_111 (lv_at hl 4 rfl) ?_
                refine va_lald hx hb hK hP 4 1 rfl rfl (iZ_in (by omega) (by omega) (by decide)) dX1_times_113 ?_
                refine zl_as (a := U 3 ((i4).toNat)) (by rw [iZ_cl (by omega) (by omega)]) ?_
                refine zl_const hx hb 0 dX1_times_114 (by decide) ?_
                refine zl_cne (tgt := 122) hx hb dX1_times_115 dX1_times_116 (by decide) (by omega) (by omega) (fun hc115 => ?_) (fun hc115 => ?_)
                · have t1 := td9 (n := i) (by omega)
                  have t2 := td9 (n := i4) (by omega)
                  have t3 := tm9 (n := i) (by omega)
                  have t4 := tm9 (n := i4) (by omega)
                  have j1 := jCz (i := i) (by omega)
                  have j2 := jCz (i := i4) (by omega)
                  have hl1 : ¬ (1 ≤ i / 9 ∧ i / 9 < 4 ∧ 4 ≤ i4 / 9) := fun q => lm_leg h0.1 (i := i.toNat) (k := i4.toNat) (by omega) (by omega) (by omega) (by omega) (by omega) (by omega)
                  have hl2 : ¬ (4 ≤ i / 9 ∧ 1 ≤ i4 / 9 ∧ i4 / 9 < 4) := fun q => lm_leg h0.2 (i := i4.toNat) (k := i.toNat) (by omega) (by omega) (by omega) (by omega) (by omega) (by omega)
                  have hmr := mul_rng hpr hqr
                  refine lv_iload_n hx hb dX1_times_122 rfl (lv_at hl 3 rfl) ?_
                  refine zi_bi hx hb 9 dX1_times_123 (by decide) ?_
                  refine zi_div hx hb dX1_times_125 (by omega) (by omega) ?_
                  refine zi_top (fun v42 ev42 => ?_)
                  refine lv_istore (lv' := [(5, .int (iZ v42)), (0, .ref mo), (1, .int (iZ f)), (2, .int (iZ g)), (3, .int (iZ i)), (4, .int (iZ i4))]) hx hb dX1_times_126 hl (by decide) rfl (fun ls hl => ?_)
                  refine lv_iload hx hb dX1_times_128 (lv_at hl 5 rfl) ?_
                  refine zi_bi hx hb 9 dX1_times_130 (by decide) ?_
                  refine zi_div hx hb dX1_times_132 (by omega) (by omega) ?_
                  refine zi_top (fun v43 ev43 => ?_)
                  refine lv_istore (lv' := [(6, .int (iZ v43)), (5, .int (iZ v42)), (0, .ref mo), (1, .int (iZ f)), (2, .int (iZ g)), (3, .int (iZ i)), (4, .int (iZ i4))]) hx hb dX1_times_133 hl (by decide) rfl (fun ls hl => ?_)
                  refine lv_iload hx hb dX1_times_135 (lv_at hl 1 rfl) ?_
                  refine zi_const hx hb 4 dX1_times_137 ?_
                  refine zi_cge (tgt := 155) hx hb dX1_times_138 (by decide) (by omega) (by omega) (fun hc138 => ?_) (fun hc138 => ?_)
                  · refine zi_bi hx hb 11 dX1_times_155 (by decide) ?_
                    refine lv_iload hx hb dX1_times_157 (lv_at hl 1 rfl) ?_
                    refine rd_S (As := [.int (iZ v42)]) (rest := [.int (iZ 11)]) (st1 := [.int (iZ (xpZ v42)), .int (iZ 11)]) S (k_X1_exponent l v42 (by omega)) tb_491 tb_492 tb_2 tb_493 hd_X1_exponent ⟨rfl, rfl, by decide, by decide⟩ bl_T (fun _ _ _ => trivial) rfl hl.1 rfl (Nat.le_of_ble_eq_true rfl) dX1_times_159 ⟨Nat.zero_le _, Nat.zero_le _⟩ rfl ?_
                    have hxe162 : xpZ v42 = (if v42 < 4 then 0 else if v42 < 6 then v42 - 6 else v42 - 5) := rfl
                    refine zi_add hx hb dX1_times_162 ?_
                    refine lv_iload hx hb dX1_times_163 (lv_at hl 0 rfl) ?_
                    refine rd_S (As := [.int (iZ v43)]) (rest := [.int (iZ (11 + (xpZ v42)))]) (st1 := [.int (iZ (xpZ v43)), .int (iZ (11 + (xpZ v42)))]) S (k_X1_exponent l v43 (by omega)) tb_491 tb_492 tb_2 tb_493 hd_X1_exponent ⟨rfl, rfl, by decide, by decide⟩ bl_T (fun _ _ _ => trivial) rfl hl.1 rfl (Nat.le_of_ble_eq_true rfl) dX1_times_165 ⟨Nat.zero_le _, Nat.zero_le _⟩ rfl ?_
                    have hxe168 : xpZ v43 = (if v43 < 4 then 0 else if v43 < 6 then v43 - 6 else v43 - 5) := rfl
                    refine zi_add hx hb dX1_times_168 ?_
                    refine zi_top (fun v44 ev44 => ?_)
                    refine lv_istore (lv' := [(7, .int (iZ v44)), (6, .int (iZ v43)), (5, .int (iZ v42)), (0, .ref mo), (1, .int (iZ f)), (2, .int (iZ g)), (3, .int (iZ i)), (4, .int (iZ i4))]) hx hb dX1_times_169 hl (by decide) rfl (fun ls hl => ?_)
                    have hrl := rw_lz (a := v42) (b := v43) (row := v44) (by omega) (by omega) (by omega) (by omega) (by rw [ev44]; first | rw [if_pos (by omega)] | rw [if_neg (by omega)])
                    rw [show v42 = i / 9 by omega, show v43 = i4 / 9 by omega] at hrl
                    refine zi_bi hx hb 19 dX1_times_171 (by decide) ?_
                    refine lv_iload hx hb dX1_times_173 (lv_at hl 0 rfl) ?_
                    refine zi_mul hx hb dX1_times_175 ?_
                    refine lv_iload_n hx hb dX1_times_176 rfl (lv_at hl 6 rfl) ?_
                    refine zi_bi hx hb 9 dX1_times_177 (by decide) ?_
                    refine zi_rem hx hb dX1_times_179 (by omega) (by omega) ?_
                    refine zi_add hx hb dX1_times_180 ?_
                    refine lv_iload hx hb dX1_times_181 (lv_at hl 7 rfl) ?_
                    refine zi_bi hx hb 9 dX1_times_183 (by decide) ?_
                    refine zi_rem hx hb dX1_times_185 (by omega) (by omega) ?_
                    refine zi_add hx hb dX1_times_186 ?_
                    refine zi_const hx hb 1 dX1_times_187 ?_
                    refine zi_add hx hb dX1_times_188 ?_
                    refine zi_top (fun v45 ev45 => ?_)
                    refine lv_istore (lv' := [(8, .int (iZ v45)), (7, .int (iZ v44)), (6, .int (iZ v43)), (5, .int (iZ v42)), (0, .ref mo), (1, .int (iZ f)), (2, .int (iZ g)), (3, .int (iZ i)), (4, .int (iZ i4))]) hx hb dX1_times_189 hl (by decide) rfl (fun ls hl => ?_)
                    have hur := hI100.2.2.1.1 (v45).toNat (by omega)
                    refine lv_aload_n hx hb dX1_times_191 rfl (lv_at hl 4 rfl) ?_
                    refine va_get (D := D) (ci := 1) (C := RX1) (T := TX1) (N := 8) hx hb hT inX1 hown hK hP 0 rfl rfl 6 (by decide) (hT _ tb_408) (fun _ h9 => h9) rfl dX1_times_192 ?_
                    refine lv_iload hx hb dX1_times_195 (lv_at hl 0 rfl) ?_
                    refine lv_aload_n hx hb dX1_times_197 rfl (lv_at hl 4 rfl) ?_
                    refine va_get (D := D) (ci := 1) (C := RX1) (T := TX1) (N := 8) hx hb hT inX1 hown hK hP 0 rfl rfl 6 (by decide) (hT _ tb_408) (fun _ h9 => h9) rfl dX1_times_198 ?_
                    refine lv_iload hx hb dX1_times_201 (lv_at hl 0 rfl) ?_
                    refine va_lald hx hb hK hP 5 1 rfl rfl (iZ_in (by omega) (by omega) (by decide)) dX1_times_203 ?_
                    refine zl_as (a := U 4 ((v45).toNat)) (by rw [iZ_cl (by omega) (by omega)]) ?_
                    refine lv_aload_n hx hb dX1_times_204 rfl (lv_at hl 4 rfl) ?_
                    refine va_get (D := D) (ci := 1) (C := RX1) (T := TX1) (N := 8) hx hb hT inX1 hown hK hP 0 rfl rfl 4 (by decide) (hT _ tb_406) (fun _ h9 => h9) rfl dX1_times_205 ?_
                    refine lv_iload_n hx hb dX1_times_208 rfl (lv_at hl 7 rfl) ?_
                    refine va_lald hx hb hK hP 3 1 rfl rfl (iZ_in (by omega) (by omega) (by decide)) dX1_times_209 ?_
                    refine zl_as (a := U 2 ((i).toNat)) (by rw [iZ_cl (by omega) (by omega)]) ?_
                    refine lv_aload_n hx hb dX1_times_210 rfl (lv_at hl 4 rfl) ?_
                    refine va_get (D := D) (ci := 1) (C := RX1) (T := TX1) (N := 8) hx hb hT inX1 hown hK hP 0 rfl rfl 5 (by decide) (hT _ tb_407) (fun _ h9 => h9) rfl dX1_times_211 ?_
                    refine lv_iload hx hb dX1_times_214 (lv_at hl 8 rfl) ?_
                    refine va_lald hx hb hK hP 4 1 rfl rfl (iZ_in (by omega) (by omega) (by decide)) dX1_times_216 ?_
                    refine zl_as (a := U 3 ((i4).toNat)) (by rw [iZ_cl (by omega) (by omega)]) ?_
                    refine zl_mul hx hb dX1_times_217 ?_
                    refine zl_top (fun v46 ev46 => ?_)
                    have hvv : v46 = V 0 ((f * 72).toNat + i.toNat) * V 0 ((g * 72).toNat + i4.toNat) := by
                      rw [ev46, hpu, hqi]
                    have hnz : V 0 ((f * 72).toNat + i.toNat) * V 0 ((g * 72).toNat + i4.toNat) ≠ 0 := Int.mul_ne_zero (by omega) (by omega)
                    refine zl_add hx hb dX1_times_218 ?_
                    refine zl_ldc hx hb 32003 hown (hT _ tb_448) (by decide) dX1_times_219 ?_
                    refine zl_rem hx hb dX1_times_222 (by omega) (by omega) ?_
                    have hxx : (Int.tmod ((U 4 (v45).toNat) + v46) 32003 : Int) = (U 4 (v45).toNat + V 0 ((f * 72).toNat + i.toNat) * V 0 ((g * 72).toNat + i4.toNat)) % 32003 := by
                      rw [← hvv]
                      exact tmP (by omega)
                    refine mm_l hx hb hK hP hd hA hS 4 304 rfl (fun g => rfl) (by omega) dX1_times_223 (fun H locs hP hS => ?_)
                    obtain ⟨V47, eV47⟩ : ∃ Z : Nat → Nat → Int, Z = sV U 4 (uZ (U 4) (v45).toNat (Int.tmod ((U 4 (v45).toNat) + v46) 32003)) := ⟨_, rfl⟩
                    rw [← eV47] at hP
                    refine zi_inc (lv' := [(4, .int (iZ (i4 + 1))), (8, .int (iZ v45)), (7, .int (iZ v44)), (6, .int (iZ v43)), (5, .int (iZ v42)), (0, .ref mo), (1, .int (iZ f)), (2, .int (iZ g)), (3, .int (iZ i))]) hx hb dX1_times_224 hl (k := 8) rfl (by decide) rfl (fun ls hl => ?_)
                    refine lv_goto (tgt := 100) hx hb dX1_times_227 (by decide) ?_
                    exact ih100 (m100 - 1) (V47, i4 + 1) (by omega) (by (try dsimp only); exact ⟨by omega, by omega, by rw [eV47, sV_a, am_go (by omega), hxx]; exact rw_step hI100.2.2.1 hrl.1 (by rw [(jCz (i := i4) (by omega)).1, (jCz (i := i) (by omega)).1]; exact hrl.2) (by omega) (by omega) hnz, by rw [eV47, sV_b (by decide)]; exact hI100.2.2.2.1, by rw [eV47, sV_b (by decide)]; exact hI100.2.2.2.2.1, by rw [eV47, sV_b (by decide)]; exact hI100.2.2.2.2.2⟩) _ _ hP hS ls (lv_sub hl [5, 6, 7, 8, 0] rfl)
                  · refine lv_iload hx hb dX1_times_141 (lv_at hl 0 rfl) ?_
                    refine zi_const hx hb 4 dX1_times_143 ?_
                    refine zi_cge (tgt := 155) hx hb dX1_times_144 (by decide) (by omega) (by omega) (fun hc144 => ?_) (fun hc144 => ?_)
                    · refine zi_bi hx hb 11 dX1_times_155 (by decide) ?_
                      refine lv_iload hx hb dX1_times_157 (lv_at hl 1 rfl) ?_
                      refine rd_S (As := [.int (iZ v42)]) (rest := [.int (iZ 11)]) (st1 := [.int (iZ (xpZ v42)), .int (iZ 11)]) S (k_X1_exponent l v42 (by omega)) tb_491 tb_492 tb_2 tb_493 hd_X1_exponent ⟨rfl, rfl, by decide, by decide⟩ bl_T (fun _ _ _ => trivial) rfl hl.1 rfl (Nat.le_of_ble_eq_true rfl) dX1_times_159 ⟨Nat.zero_le _, Nat.zero_le _⟩ rfl ?_
                      have hxe162 : xpZ v42 = (if v42 < 4 then 0 else if v42 < 6 then v42 - 6 else v42 - 5) := rfl
                      refine zi_add hx hb dX1_times_162 ?_
                      refine lv_iload hx hb dX1_times_163 (lv_at hl 0 rfl) ?_
                      refine rd_S (As := [.int (iZ v43)]) (rest := [.int (iZ (11 + (xpZ v42)))]) (st1 := [.int (iZ (xpZ v43)), .int (iZ (11 + (xpZ v42)))]) S (k_X1_exponent l v43 (by omega)) tb_491 tb_492 tb_2 tb_493 hd_X1_exponent ⟨rfl, rfl, by decide, by decide⟩ bl_T (fun _ _ _ => trivial) rfl hl.1 rfl (Nat.le_of_ble_eq_true rfl) dX1_times_165 ⟨Nat.zero_le _, Nat.zero_le _⟩ rfl ?_
                      have hxe168 : xpZ v43 = (if v43 < 4 then 0 else if v43 < 6 then v43 - 6 else v43 - 5) := rfl
                      refine zi_add hx hb dX1_times_168 ?_
                      refine zi_top (fun v48 ev48 => ?_)
                      refine lv_istore (lv' := [(7, .int (iZ v48)), (6, .int (iZ v43)), (5, .int (iZ v42)), (0, .ref mo), (1, .int (iZ f)), (2, .int (iZ g)), (3, .int (iZ i)), (4, .int (iZ i4))]) hx hb dX1_times_169 hl (by decide) rfl (fun ls hl => ?_)
                      have hrl := rw_lz (a := v42) (b := v43) (row := v48) (by omega) (by omega) (by omega) (by omega) (by rw [ev48]; first | rw [if_pos (by omega)] | rw [if_neg (by omega)])
                      rw [show v42 = i / 9 by omega, show v43 = i4 / 9 by omega] at hrl
                      refine zi_bi hx hb 19 dX1_times_171 (by decide) ?_
                      refine lv_iload hx hb dX1_times_173 (lv_at hl 0 rfl) ?_
                      refine zi_mul hx hb dX1_times_175 ?_
                      refine lv_iload_n hx hb dX1_times_176 rfl (lv_at hl 6 rfl) ?_
                      refine zi_bi hx hb 9 dX1_times_177 (by decide) ?_
                      refine zi_rem hx hb dX1_times_179 (by omega) (by omega) ?_
                      refine zi_add hx hb dX1_times_180 ?_
                      refine lv_iload hx hb dX1_times_181 (lv_at hl 7 rfl) ?_
                      refine zi_bi hx hb 9 dX1_times_183 (by decide) ?_
                      refine zi_rem hx hb dX1_times_185 (by omega) (by omega) ?_
                      refine zi_add hx hb dX1_times_186 ?_
                      refine zi_const hx hb 1 dX1_times_187 ?_
                      refine zi_add hx hb dX1_times_188 ?_
                      refine zi_top (fun v49 ev49 => ?_)
                      refine lv_istore (lv' := [(8, .int (iZ v49)), (7, .int (iZ v48)), (6, .int (iZ v43)), (5, .int (iZ v42)), (0, .ref mo), (1, .int (iZ f)), (2, .int (iZ g)), (3, .int (iZ i)), (4, .int (iZ i4))]) hx hb dX1_times_189 hl (by decide) rfl (fun ls hl => ?_)
                      have hur := hI100.2.2.1.1 (v49).toNat (by omega)
                      refine lv_aload_n hx hb dX1_times_191 rfl (lv_at hl 4 rfl) ?_
                      refine va_get (D := D) (ci := 1) (C := RX1) (T := TX1) (N := 8) hx hb hT inX1 hown hK hP 0 rfl rfl 6 (by decide) (hT _ tb_408) (fun _ h9 => h9) rfl dX1_times_192 ?_
                      refine lv_iload hx hb dX1_times_195 (lv_at hl 0 rfl) ?_
                      refine lv_aload_n hx hb dX1_times_197 rfl (lv_at hl 4 rfl) ?_
                      refine va_get (D := D) (ci := 1) (C := RX1) (T := TX1) (N := 8) hx hb hT inX1 hown hK hP 0 rfl rfl 6 (by decide) (hT _ tb_408) (fun _ h9 => h9) rfl dX1_times_198 ?_
                      refine lv_iload hx hb dX1_times_201 (lv_at hl 0 rfl) ?_
                      refine va_lald hx hb hK hP 5 1 rfl rfl (iZ_in (by omega) (by omega) (by decide)) dX1_times_203 ?_
                      refine zl_as (a := U 4 ((v49).toNat)) (by rw [iZ_cl (by omega) (by omega)]) ?_
                      refine lv_aload_n hx hb dX1_times_204 rfl (lv_at hl 4 rfl) ?_
                      refine va_get (D := D) (ci := 1) (C := RX1) (T := TX1) (N := 8) hx hb hT inX1 hown hK hP 0 rfl rfl 4 (by decide) (hT _ tb_406) (fun _ h9 => h9) rfl dX1_times_205 ?_
                      refine lv_iload_n hx hb dX1_times_208 rfl (lv_at hl 7 rfl) ?_
                      refine va_lald hx hb hK hP 3 1 rfl rfl (iZ_in (by omega) (by omega) (by decide)) dX1_times_209 ?_
                      refine zl_as (a := U 2 ((i).toNat)) (by rw [iZ_cl (by omega) (by omega)]) ?_
                      refine lv_aload_n hx hb dX1_times_210 rfl (lv_at hl 4 rfl) ?_
                      refine va_get (D := D) (ci := 1) (C := RX1) (T := TX1) (N := 8) hx hb hT inX1 hown hK hP 0 rfl rfl 5 (by decide) (hT _ tb_407) (fun _ h9 => h9) rfl dX1_times_211 ?_
                      refine lv_iload hx hb dX1_times_214 (lv_at hl 8 rfl) ?_
                      refine va_lald hx hb hK hP 4 1 rfl rfl (iZ_in (by omega) (by omega) (by decide)) dX1_times_216 ?_
                      refine zl_as (a := U 3 ((i4).toNat)) (by rw [iZ_cl (by omega) (by omega)]) ?_
                      refine zl_mul hx hb dX1_times_217 ?_
                      refine zl_top (fun v50 ev50 => ?_)
                      have hvv : v50 = V 0 ((f * 72).toNat + i.toNat) * V 0 ((g * 72).toNat + i4.toNat) := by
                        rw [ev50, hpu, hqi]
                      have hnz : V 0 ((f * 72).toNat + i.toNat) * V 0 ((g * 72).toNat + i4.toNat) ≠ 0 := Int.mul_ne_zero (by omega) (by omega)
                      refine zl_add hx hb dX1_times_218 ?_
                      refine zl_ldc hx hb 32003 hown (hT _ tb_448) (by decide) dX1_times_219 ?_
                      refine zl_rem hx hb dX1_times_222 (by omega) (by omega) ?_
                      have hxx : (Int.tmod ((U 4 (v49).toNat) + v50) 32003 : Int) = (U 4 (v49).toNat + V 0 ((f * 72).toNat + i.toNat) * V 0 ((g * 72).toNat + i4.toNat)) % 32003 := by
                        rw [← hvv]
                        exact tmP (by omega)
                      refine mm_l hx hb hK hP hd hA hS 4 304 rfl (fun g => rfl) (by omega) dX1_times_223 (fun H locs hP hS => ?_)
                      obtain ⟨V51, eV51⟩ : ∃ Z : Nat → Nat → Int, Z = sV U 4 (uZ (U 4) (v49).toNat (Int.tmod ((U 4 (v49).toNat) + v50) 32003)) := ⟨_, rfl⟩
                      rw [← eV51] at hP
                      refine zi_inc (lv' := [(4, .int (iZ (i4 + 1))), (8, .int (iZ v49)), (7, .int (iZ v48)), (6, .int (iZ v43)), (5, .int (iZ v42)), (0, .ref mo), (1, .int (iZ f)), (2, .int (iZ g)), (3, .int (iZ i))]) hx hb dX1_times_224 hl (k := 8) rfl (by decide) rfl (fun ls hl => ?_)
                      refine lv_goto (tgt := 100) hx hb dX1_times_227 (by decide) ?_
                      exact ih100 (m100 - 1) (V51, i4 + 1) (by omega) (by (try dsimp only); exact ⟨by omega, by omega, by rw [eV51, sV_a, am_go (by omega), hxx]; exact rw_step hI100.2.2.1 hrl.1 (by rw [(jCz (i := i4) (by omega)).1, (jCz (i := i) (by omega)).1]; exact hrl.2) (by omega) (by omega) hnz, by rw [eV51, sV_b (by decide)]; exact hI100.2.2.2.1, by rw [eV51, sV_b (by decide)]; exact hI100.2.2.2.2.1, by rw [eV51, sV_b (by decide)]; exact hI100.2.2.2.2.2⟩) _ _ hP hS ls (lv_sub hl [5, 6, 7, 8, 0] rfl)
                    · refine lv_iload hx hb dX1_times_147 (lv_at hl 1 rfl) ?_
                      refine lv_iload hx hb dX1_times_149 (lv_at hl 0 rfl) ?_
                      refine zi_add hx hb dX1_times_151 ?_
                      refine lv_goto (tgt := 169) hx hb dX1_times_152 (by decide) ?_
                      refine zi_top (fun v52 ev52 => ?_)
                      refine lv_istore (lv' := [(7, .int (iZ v52)), (6, .int (iZ v43)), (5, .int (iZ v42)), (0, .ref mo), (1, .int (iZ f)), (2, .int (iZ g)), (3, .int (iZ i)), (4, .int (iZ i4))]) hx hb dX1_times_169 hl (by decide) rfl (fun ls hl => ?_)
                      have hrl := rw_lz (a := v42) (b := v43) (row := v52) (by omega) (by omega) (by omega) (by omega) (by rw [ev52]; first | rw [if_pos (by omega)] | rw [if_neg (by omega)])
                      rw [show v42 = i / 9 by omega, show v43 = i4 / 9 by omega] at hrl
                      refine zi_bi hx hb 19 dX1_times_171 (by decide) ?_
                      refine lv_iload hx hb dX1_times_173 (lv_at hl 0 rfl) ?_
                      refine zi_mul hx hb dX1_times_175 ?_
                      refine lv_iload_n hx hb dX1_times_176 rfl (lv_at hl 6 rfl) ?_
                      refine zi_bi hx hb 9 dX1_times_177 (by decide) ?_
                      refine zi_rem hx hb dX1_times_179 (by omega) (by omega) ?_
                      refine zi_add hx hb dX1_times_180 ?_
                      refine lv_iload hx hb dX1_times_181 (lv_at hl 7 rfl) ?_
                      refine zi_bi hx hb 9 dX1_times_183 (by decide) ?_
                      refine zi_rem hx hb dX1_times_185 (by omega) (by omega) ?_
                      refine zi_add hx hb dX1_times_186 ?_
                      refine zi_const hx hb 1 dX1_times_187 ?_
                      refine zi_add hx hb dX1_times_188 ?_
                      refine zi_top (fun v53 ev53 => ?_)
                      refine lv_istore (lv' := [(8, .int (iZ v53)), (7, .int (iZ v52)), (6, .int (iZ v43)), (5, .int (iZ v42)), (0, .ref mo), (1, .int (iZ f)), (2, .int (iZ g)), (3, .int (iZ i)), (4, .int (iZ i4))]) hx hb dX1_times_189 hl (by decide) rfl (fun ls hl => ?_)
                      have hur := hI100.2.2.1.1 (v53).toNat (by omega)
                      refine lv_aload_n hx hb dX1_times_191 rfl (lv_at hl 4 rfl) ?_
                      refine va_get (D := D) (ci := 1) (C := RX1) (T := TX1) (N := 8) hx hb hT inX1 hown hK hP 0 rfl rfl 6 (by decide) (hT _ tb_408) (fun _ h9 => h9) rfl dX1_times_192 ?_
                      refine lv_iload hx hb dX1_times_195 (lv_at hl 0 rfl) ?_
                      refine lv_aload_n hx hb dX1_times_197 rfl (lv_at hl 4 rfl) ?_
                      refine va_get (D := D) (ci := 1) (C := RX1) (T := TX1) (N := 8) hx hb hT inX1 hown hK hP 0 rfl rfl 6 (by decide) (hT _ tb_408) (fun _ h9 => h9) rfl dX1_times_198 ?_
                      refine lv_iload hx hb dX1_times_201 (lv_at hl 0 rfl) ?_
                      refine va_lald hx hb hK hP 5 1 rfl rfl (iZ_in (by omega) (by omega) (by decide)) dX1_times_203 ?_
                      refine zl_as (a := U 4 ((v53).toNat)) (by rw [iZ_cl (by omega) (by omega)]) ?_
                      refine lv_aload_n hx hb dX1_times_204 rfl (lv_at hl 4 rfl) ?_
                      refine va_get (D := D) (ci := 1) (C := RX1) (T := TX1) (N := 8) hx hb hT inX1 hown hK hP 0 rfl rfl 4 (by decide) (hT _ tb_406) (fun _ h9 => h9) rfl dX1_times_205 ?_
                      refine lv_iload_n hx hb dX1_times_208 rfl (lv_at hl 7 rfl) ?_
                      refine va_lald hx hb hK hP 3 1 rfl rfl (iZ_in (by omega) (by omega) (by decide)) dX1_times_209 ?_
                      refine zl_as (a := U 2 ((i).toNat)) (by rw [iZ_cl (by omega) (by omega)]) ?_
                      refine lv_aload_n hx hb dX1_times_210 rfl (lv_at hl 4 rfl) ?_
                      refine va_get (D := D) (ci := 1) (C := RX1) (T := TX1) (N := 8) hx hb hT inX1 hown hK hP 0 rfl rfl 5 (by decide) (hT _ tb_407) (fun _ h9 => h9) rfl dX1_times_211 ?_
                      refine lv_iload hx hb dX1_times_214 (lv_at hl 8 rfl) ?_
                      refine va_lald hx hb hK hP 4 1 rfl rfl (iZ_in (by omega) (by omega) (by decide)) dX1_times_216 ?_
                      refine zl_as (a := U 3 ((i4).toNat)) (by rw [iZ_cl (by omega) (by omega)]) ?_
                      refine zl_mul hx hb dX1_times_217 ?_
                      refine zl_top (fun v54 ev54 => ?_)
                      have hvv : v54 = V 0 ((f * 72).toNat + i.toNat) * V 0 ((g * 72).toNat + i4.toNat) := by
                        rw [ev54, hpu, hqi]
                      have hnz : V 0 ((f * 72).toNat + i.toNat) * V 0 ((g * 72).toNat + i4.toNat) ≠ 0 := Int.mul_ne_zero (by omega) (by omega)
                      refine zl_add hx hb dX1_times_218 ?_
                      refine zl_ldc hx hb 32003 hown (hT _ tb_448) (by decide) dX1_times_219 ?_
                      refine zl_rem hx hb dX1_times_222 (by omega) (by omega) ?_
                      have hxx : (Int.tmod ((U 4 (v53).toNat) + v54) 32003 : Int) = (U 4 (v53).toNat + V 0 ((f * 72).toNat + i.toNat) * V 0 ((g * 72).toNat + i4.toNat)) % 32003 := by
                        rw [← hvv]
                        exact tmP (by omega)
                      refine mm_l hx hb hK hP hd hA hS 4 304 rfl (fun g => rfl) (by omega) dX1_times_223 (fun H locs hP hS => ?_)
                      obtain ⟨V55, eV55⟩ : ∃ Z : Nat → Nat → Int, Z = sV U 4 (uZ (U 4) (v53).toNat (Int.tmod ((U 4 (v53).toNat) + v54) 32003)) := ⟨_, rfl⟩
                      rw [← eV55] at hP
                      refine zi_inc (lv' := [(4, .int (iZ (i4 + 1))), (8, .int (iZ v53)), (7, .int (iZ v52)), (6, .int (iZ v43)), (5, .int (iZ v42)), (0, .ref mo), (1, .int (iZ f)), (2, .int (iZ g)), (3, .int (iZ i))]) hx hb dX1_times_224 hl (k := 8) rfl (by decide) rfl (fun ls hl => ?_)
                      refine lv_goto (tgt := 100) hx hb dX1_times_227 (by decide) ?_
                      exact ih100 (m100 - 1) (V55, i4 + 1) (by omega) (by (try dsimp only); exact ⟨by omega, by omega, by rw [eV55, sV_a, am_go (by omega), hxx]; exact rw_step hI100.2.2.1 hrl.1 (by rw [(jCz (i := i4) (by omega)).1, (jCz (i := i) (by omega)).1]; exact hrl.2) (by omega) (by omega) hnz, by rw [eV55, sV_b (by decide)]; exact hI100.2.2.2.1, by rw [eV55, sV_b (by decide)]; exact hI100.2.2.2.2.1, by rw [eV55, sV_b (by decide)]; exact hI100.2.2.2.2.2⟩) _ _ hP hS ls (lv_sub hl [5, 6, 7, 8, 0] rfl)
                · refine lv_goto (tgt := 224) hx hb dX1_times_119 (by decide) ?_
                  refine zi_inc (lv' := [(4, .int (iZ (i4 + 1))), (0, .ref mo), (1, .int (iZ f)), (2, .int (iZ g)), (3, .int (iZ i))]) hx hb dX1_times_224 hl (k := 4) rfl (by decide) rfl (fun ls hl => ?_)
                  refine lv_goto (tgt := 100) hx hb dX1_times_227 (by decide) ?_
                  exact ih100 (m100 - 1) (U, i4 + 1) (by omega) (by (try dsimp only); exact ⟨by omega, by omega, by rw [am_skip (by omega) (by omega)]; exact hI100.2.2.1, hI100.2.2.2⟩) _ _ hP hS ls (lv_sub hl [1, 2, 3, 4, 0] rfl)
            · refine lv_goto (tgt := 230) hx hb dX1_times_94 (by decide) ?_
              refine zi_inc (lv' := [(3, .int (iZ (i + 1))), (0, .ref mo), (1, .int (iZ f)), (2, .int (iZ g))]) hx hb dX1_times_230 hl (k := 3) rfl (by decide) rfl (fun ls hl => ?_)
              refine lv_goto (tgt := 77) hx hb dX1_times_233 (by decide) ?_
              exact ih77 (m77 - 1) (Y, i + 1) (by omega) (by (try dsimp only); exact ⟨by omega, by omega, by rw [sp_go (by omega), if_pos (by omega)]; exact hI77.2.2.1, hI77.2.2.2⟩) _ _ hP hS ls (lv_sub hl [1, 2, 3, 0] rfl)
        · refine lv_aload_n hx hb dX1_times_52 rfl (lv_at hl 0 rfl) ?_
          refine lv_aload_n hx hb dX1_times_53 rfl (lv_at hl 0 rfl) ?_
          refine va_get (D := D) (ci := 1) (C := RX1) (T := TX1) (N := 8) hx hb hT inX1 hown hK hP 0 rfl rfl 5 (by decide) (hT _ tb_407) (fun _ h9 => h9) rfl dX1_times_54 ?_
          refine zi_const hx hb 1 dX1_times_57 ?_
          refine zi_const hx hb 4 dX1_times_58 ?_
          refine rd_V (As := [.ref (na 3), .int (iZ ((1 : Int))), .int (iZ ((4 : Int)))]) (rest := []) (st1 := [.int (iZ (hsZ (V1 3) (((1 : Int)) * 9).toNat ((((4 : Int)) - ((1 : Int))) * 9).toNat))]) S (k3_X1_has l D mo na cI cJ 0 k V1 ((1 : Int)) ((4 : Int)) (by omega) hp3) tb_479 tb_481 ts_X1_has tb_2 tb_482 hd_X1_has ⟨rfl, rfl, by decide, by decide⟩ rM_bl (rM_mv hP hK) (va_recv hK hP (ci := 1) (q0 := 0) rfl rfl) rfl hl.1 rfl (Nat.le_of_ble_eq_true rfl) dX1_times_59 ⟨Nat.zero_le _, Nat.zero_le _⟩ rfl ?_
          refine zi_feq (tgt := 71) hx hb dX1_times_62 (by decide) (by omega) (fun hc62 => ?_) (fun hc62 => ?_)
          · refine lv_aload_n hx hb dX1_times_71 rfl (lv_at hl 0 rfl) ?_
            refine wm_V (As := []) (rest := []) (st1 := []) (c1 := 0) (k1 := k) S (k_X1_start l D mo na cI cJ 0 k V1  hd ) tb_487 tb_489 ts_X1_start tb_2 tb_490 hd_X1_start ⟨rfl, rfl, by decide, by decide⟩ hP hK hS hA hAn rfl hl.1 rfl (Nat.le_of_ble_eq_true rfl) dX1_times_72 ⟨Nat.zero_le _, Nat.zero_le _⟩ rfl (fun V56 H locs hRV56 hP hS _ _ => ?_)
            refine zi_const hx hb 0 dX1_times_75 ?_
            refine lv_istore_n (lv' := [(3, .int (iZ 0)), (0, .ref mo), (1, .int (iZ f)), (2, .int (iZ g))]) hx hb dX1_times_76 rfl hl (by decide) rfl (fun ls hl => ?_)
            refine lp_goM (nL := 9) (α := (Nat → Nat → Int) × Int) (fun z => [(0, .ref mo), (1, .int (iZ f)), (2, .int (iZ g)), (3, .int (iZ z.2))]) (fun _ => 0) (fun _ => k) (fun z => z.1) (fun m77 z => 0 ≤ z.2 ∧ z.2 + (m77 : Int) = 72 ∧ rwR (z.1 4) (spZ (V 0) G f g z.2.toNat) ∧ z.1 2 = V1 2 ∧ z.1 3 = V1 3 ∧ z.1 0 = V 0) ?_ 72 (V56, (0 : Int)) (by (try dsimp only); exact ⟨by omega, by omega, rw_0 hRV56.1 (fun j hj => (by show fiZ G 0 255 (fun _ => (0 : Int)) j = 0; unfold fiZ; rw [if_pos (by omega)])), hRV56.2 2 (by decide), hRV56.2 3 (by decide), (hRV56.2 0 (by decide)).trans hRV1.2.2⟩) _ _ hP hS ls (lv_sub hl [1, 2, 3, 0] rfl)
            intro m77 z57 hI77 ih77 H locs hP hS ls hl
            obtain ⟨Y, i⟩ := z57
            have hl : lv_has ls 9 [(0, .ref mo), (1, .int (iZ f)), (2, .int (iZ g)), (3, .int (iZ i))] := hl
            have hI77 : 0 ≤ i ∧ i + (m77 : Int) = 72 ∧ rwR (Y 4) (spZ (V 0) G f g i.toNat) ∧ Y 2 = V1 2 ∧ Y 3 = V1 3 ∧ Y 0 = V 0 := hI77
            have hP : va_P D vwCl (mX mo na cI cJ 0 k Y) H := hP
            refine lv_iload_n hx hb dX1_times_77 rfl (lv_at hl 3 rfl) ?_
            refine zi_bi hx hb 72 dX1_times_78 (by decide) ?_
            refine zi_cge (tgt := 236) hx hb dX1_times_80 (by decide) (by omega) (by omega) (fun hc80 => ?_) (fun hc80 => ?_)
            · have hsp : rwR (Y 4) (spZ (V 0) G f g 72) := (show i.toNat = 72 by omega) ▸ hI77.2.2.1
              refine lv_aload_n hx hb dX1_times_236 rfl (lv_at hl 0 rfl) ?_
              refine wm_V (As := []) (rest := []) (st1 := [.int (iZ k)]) (c1 := 0) (k1 := k + 1) S (k_X1_narrow l D mo na cI cJ 0 k Y  hd (by omega) hsp.1 ((rw_ok hsp).mpr h1)) tb_494 tb_496 ts_X1_narrow tb_2 tb_497 hd_X1_narrow ⟨rfl, rfl, by decide, by decide⟩ hP hK hS hA hAn rfl hl.1 rfl (Nat.le_of_ble_eq_true rfl) dX1_times_237 ⟨Nat.zero_le _, Nat.zero_le _⟩ rfl (fun V58 H locs hRV58 hP hS _ _ => ?_)
              exact wm_iret hx hb hr hlk hP (⟨fun j hj => by rw [hRV58.1 j hj]; obtain ⟨a1, a2, a3, a4, a5⟩ := jr_72 hj; exact rw_row hsp ⟨a1, a2⟩ ⟨a3, a4⟩, fun j hj => by rw [hRV58.2 j hj]; exact congrFun hI77.2.2.2.2.2 j⟩) rfl rfl hS (congrArg (fun z => some (Value.int (iZ z))) (show (k : Int) = k from rfl)) dX1_times_240
            · have hpi : Y 2 i.toNat = V 0 ((f * 72).toNat + i.toNat) := by
                rw [hI77.2.2.2.1]
                exact hRV1.1 _ (by omega)
              have hpr := hN ((f * 72).toNat + i.toNat)
              refine lv_aload_n hx hb dX1_times_83 rfl (lv_at hl 0 rfl) ?_
              refine va_get (D := D) (ci := 1) (C := RX1) (T := TX1) (N := 8) hx hb hT inX1 hown hK hP 0 rfl rfl 4 (by decide) (hT _ tb_406) (fun _ h9 => h9) rfl dX1_times_84 ?_
              refine lv_iload_n hx hb dX1_times_87 rfl (lv_at hl 3 rfl) ?_
              refine va_lald hx hb hK hP 3 1 rfl rfl (iZ_in (by omega) (by omega) (by decide)) dX1_times_88 ?_
              refine zl_as (a := Y 2 ((i).toNat)) (by rw [iZ_cl (by omega) (by omega)]) ?_
              refine zl_const hx hb 0 dX1_times_89 (by decide) ?_
              refine zl_cne (tgt := 97) hx hb dX1_times_90 dX1_times_91 (by decide) (by omega) (by omega) (fun hc90 => ?_) (fun hc90 => ?_)
              · refine zi_const hx hb 0 dX1_times_97 ?_
                refine lv_istore (lv' := [(4, .int (iZ 0)), (0, .ref mo), (1, .int (iZ f)), (2, .int (iZ g)), (3, .int (iZ i))]) hx hb dX1_times_98 hl (by decide) rfl (fun ls hl => ?_)
                refine lp_goM (nL := 9) (α := (Nat → Nat → Int) × Int) (fun z => [(0, .ref mo), (1, .int (iZ f)), (2, .int (iZ g)), (3, .int (iZ i)), (4, .int (iZ z.2))]) (fun _ => 0) (fun _ => k) (fun z => z.1) (fun m100 z => 0 ≤ z.2 ∧ z.2 + (m100 : Int) = 72 ∧ rwR (z.1 4) (amZ (V 0) (spZ (V 0) G f g i.toNat) g (jC i.toNat) (jN i.toNat) (V 0 ((f * 72).toNat + i.toNat)) z.2.toNat) ∧ z.1 2 = V1 2 ∧ z.1 3 = V1 3 ∧ z.1 0 = V 0) ?_ 72 (Y, (0 : Int)) (by (try dsimp only); exact ⟨by omega, by omega, hI77.2.2.1, hI77.2.2.2⟩) _ _ hP hS ls (lv_sub hl [1, 2, 3, 4, 0] rfl)
                intro m100 z59 hI100 ih100 H locs hP hS ls hl
                obtain ⟨U, i4⟩ := z59
                have hl : lv_has ls 9 [(0, .ref mo), (1, .int (iZ f)), (2, .int (iZ g)), (3, .int (iZ i)), (4, .int (iZ i4))] := hl
                have hI100 : 0 ≤ i4 ∧ i4 + (m100 : Int) = 72 ∧ rwR (U 4) (amZ (V 0) (spZ (V 0) G f g i.toNat) g (jC i.toNat) (jN i.toNat) (V 0 ((f * 72).toNat + i.toNat)) i4.toNat) ∧ U 2 = V1 2 ∧ U 3 = V1 3 ∧ U 0 = V 0 := hI100
                have hP : va_P D vwCl (mX mo na cI cJ 0 k U) H := hP
                refine lv_iload hx hb dX1_times_100 (lv_at hl 4 rfl) ?_
                refine zi_bi hx hb 72 dX1_times_102 (by decide) ?_
                refine zi_cge (tgt := 230) hx hb dX1_times_104 (by decide) (by omega) (by omega) (fun hc104 => ?_) (fun hc104 => ?_)
                · refine zi_inc (lv' := [(3, .int (iZ (i + 1))), (0, .ref mo), (1, .int (iZ f)), (2, .int (iZ g)), (4, .int (iZ i4))]) hx hb dX1_times_230 hl (k := 3) rfl (by decide) rfl (fun ls hl => ?_)
                  refine lv_goto (tgt := 77) hx hb dX1_times_233 (by decide) ?_
                  exact ih77 (m77 - 1) (U, i + 1) (by omega) (by (try dsimp only); exact ⟨by omega, by omega, by rw [sp_go (by omega), if_neg (by omega)]; exact (show i4.toNat = 72 by omega) ▸ hI100.2.2.1, hI100.2.2.2⟩) _ _ hP hS ls (lv_sub hl [1, 2, 3, 0] rfl)
                · have hqi : U 3 i4.toNat = V 0 ((g * 72).toNat + i4.toNat) := by
                    rw [hI100.2.2.2.2.1]
                    exact hRV1.2.1 _ (by omega)
                  have hpu : U 2 i.toNat = V 0 ((f * 72).toNat + i.toNat) := by
                    rw [hI100.2.2.2.1]
                    exact hRV1.1 _ (by omega)
                  have hqr := hN ((g * 72).toNat + i4.toNat)
                  refine lv_aload_n hx hb dX1_times_107 rfl (lv_at hl 0 rfl) ?_
                  refine va_get (D := D) (ci := 1) (C := RX1) (T := TX1) (N := 8) hx hb hT inX1 hown hK hP 0 rfl rfl 5 (by decide) (hT _ tb_407) (fun _ h9 => h9) rfl dX1_times_108 ?_
                  refine lv_iload hx hb dX1_times_111 (lv_at hl 4 rfl) ?_
                  refine va_lald hx hb hK hP 4 1 rfl rfl (iZ_in (by omega) (by omega) (by decide)) dX1_times_113 ?_
                  refine zl_as (a := U 3 ((i4).toNat)) (by rw [iZ_cl (by omega) (by omega)]) ?_
                  refine zl_const hx hb 0 dX1_times_114 (by decide) ?_
                  refine zl_cne (tgt := 122) hx hb dX1_times_115 dX1_times_116 (by decide) (by omega) (by omega) (fun hc115 => ?_) (fun hc115 => ?_)
                  · have t1 := td9 (n := i) (by omega)
                    have t2 := td9 (n := i4) (by omega)
                    have t3 := tm9 (n := i) (by omega)
                    have t4 := tm9 (n := i4) (by omega)
                    have j1 := jCz (i := i) (by omega)
                    have j2 := jCz (i := i4) (by omega)
                    have hl1 : ¬ (1 ≤ i / 9 ∧ i / 9 < 4 ∧ 4 ≤ i4 / 9) := fun q => lm_leg h0.1 (i := i.toNat) (k := i4.toNat) (by omega) (by omega) (by omega) (by omega) (by omega) (by omega)
                    have hl2 : ¬ (4 ≤ i / 9 ∧ 1 ≤ i4 / 9 ∧ i4 / 9 < 4) := fun q => lm_leg h0.2 (i := i4.toNat) (k := i.toNat) (by omega) (by omega) (by omega) (by omega) (by omega) (by omega)
                    have hmr := mul_rng hpr hqr
                    refine lv_iload_n hx hb dX1_times_122 rfl (lv_at hl 3 rfl) ?_
                    refine zi_bi hx hb 9 dX1_times_123 (by decide) ?_
                    refine zi_div hx hb dX1_times_125 (by omega) (by omega) ?_
                    refine zi_top (fun v60 ev60 => ?_)
                    refine lv_istore (lv' := [(5, .int (iZ v60)), (0, .ref mo), (1, .int (iZ f)), (2, .int (iZ g)), (3, .int (iZ i)), (4, .int (iZ i4))]) hx hb dX1_times_126 hl (by decide) rfl (fun ls hl => ?_)
                    refine lv_iload hx hb dX1_times_128 (lv_at hl 5 rfl) ?_
                    refine zi_bi hx hb 9 dX1_times_130 (by decide) ?_
                    refine zi_div hx hb dX1_times_132 (by omega) (by omega) ?_
                    refine zi_top (fun v61 ev61 => ?_)
                    refine lv_istore (lv' := [(6, .int (iZ v61)), (5, .int (iZ v60)), (0, .ref mo), (1, .int (iZ f)), (2, .int (iZ g)), (3, .int (iZ i)), (4, .int (iZ i4))]) hx hb dX1_times_133 hl (by decide) rfl (fun ls hl => ?_)
                    refine lv_iload hx hb dX1_times_135 (lv_at hl 1 rfl) ?_
                    refine zi_const hx hb 4 dX1_times_137 ?_
                    refine zi_cge (tgt := 155) hx hb dX1_times_138 (by decide) (by omega) (by omega) (fun hc138 => ?_) (fun hc138 => ?_)
                    · refine zi_bi hx hb 11 dX1_times_155 (by decide) ?_
                      refine lv_iload hx hb dX1_times_157 (lv_at hl 1 rfl) ?_
                      refine rd_S (As := [.int (iZ v60)]) (rest := [.int (iZ 11)]) (st1 := [.int (iZ (xpZ v60)), .int (iZ 11)]) S (k_X1_exponent l v60 (by omega)) tb_491 tb_492 tb_2 tb_493 hd_X1_exponent ⟨rfl, rfl, by decide, by decide⟩ bl_T (fun _ _ _ => trivial) rfl hl.1 rfl (Nat.le_of_ble_eq_true rfl) dX1_times_159 ⟨Nat.zero_le _, Nat.zero_le _⟩ rfl ?_
                      have hxe162 : xpZ v60 = (if v60 < 4 then 0 else if v60 < 6 then v60 - 6 else v60 - 5) := rfl
                      refine zi_add hx hb dX1_times_162 ?_
                      refine lv_iload hx hb dX1_times_163 (lv_at hl 0 rfl) ?_
                      refine rd_S (As := [.int (iZ v61)]) (rest := [.int (iZ (11 + (xpZ v60)))]) (st1 := [.int (iZ (xpZ v61)), .int (iZ (11 + (xpZ v60)))]) S (k_X1_exponent l v61 (by omega)) tb_491 tb_492 tb_2 tb_493 hd_X1_exponent ⟨rfl, rfl, by decide, by decide⟩ bl_T (fun _ _ _ => trivial) rfl hl.1 rfl (Nat.le_of_ble_eq_true rfl) dX1_times_165 ⟨Nat.zero_le _, Nat.zero_le _⟩ rfl ?_
                      have hxe168 : xpZ v61 = (if v61 < 4 then 0 else if v61 < 6 then v61 - 6 else v61 - 5) := rfl
                      refine zi_add hx hb dX1_times_168 ?_
                      refine zi_top (fun v62 ev62 => ?_)
                      refine lv_istore (lv' := [(7, .int (iZ v62)), (6, .int (iZ v61)), (5, .int (iZ v60)), (0, .ref mo), (1, .int (iZ f)), (2, .int (iZ g)), (3, .int (iZ i)), (4, .int (iZ i4))]) hx hb dX1_times_169 hl (by decide) rfl (fun ls hl => ?_)
                      have hrl := rw_lz (a := v60) (b := v61) (row := v62) (by omega) (by omega) (by omega) (by omega) (by rw [ev62]; first | rw [if_pos (by omega)] | rw [if_neg (by omega)])
                      rw [show v60 = i / 9 by omega, show v61 = i4 / 9 by omega] at hrl
                      refine zi_bi hx hb 19 dX1_times_171 (by decide) ?_
                      refine lv_iload hx hb dX1_times_173 (lv_at hl 0 rfl) ?_
                      refine zi_mul hx hb dX1_times_175 ?_
                      refine lv_iload_n hx hb dX1_times_176 rfl (lv_at hl 6 rfl) ?_
                      refine zi_bi hx hb 9 dX1_times_177 (by decide) ?_
                      refine zi_rem hx hb dX1_times_179 (by omega) (by omega) ?_
                      refine zi_add hx hb dX1_times_180 ?_
                      refine lv_iload hx hb dX1_times_181 (lv_at hl 7 rfl) ?_
                      refine zi_bi hx hb 9 dX1_times_183 (by decide) ?_
                      refine zi_rem hx hb dX1_times_185 (by omega) (by omega) ?_
                      refine zi_add hx hb dX1_times_186 ?_
                      refine zi_const hx hb 1 dX1_times_187 ?_
                      refine zi_add hx hb dX1_times_188 ?_
                      refine zi_top (fun v63 ev63 => ?_)
                      refine lv_istore (lv' := [(8, .int (iZ v63)), (7, .int (iZ v62)), (6, .int (iZ v61)), (5, .int (iZ v60)), (0, .ref mo), (1, .int (iZ f)), (2, .int (iZ g)), (3, .int (iZ i)), (4, .int (iZ i4))]) hx hb dX1_times_189 hl (by decide) rfl (fun ls hl => ?_)
                      have hur := hI100.2.2.1.1 (v63).toNat (by omega)
                      refine lv_aload_n hx hb dX1_times_191 rfl (lv_at hl 4 rfl) ?_
                      refine va_get (D := D) (ci := 1) (C := RX1) (T := TX1) (N := 8) hx hb hT inX1 hown hK hP 0 rfl rfl 6 (by decide) (hT _ tb_408) (fun _ h9 => h9) rfl dX1_times_192 ?_
                      refine lv_iload hx hb dX1_times_195 (lv_at hl 0 rfl) ?_
                      refine lv_aload_n hx hb dX1_times_197 rfl (lv_at hl 4 rfl) ?_
                      refine va_get (D := D) (ci := 1) (C := RX1) (T := TX1) (N := 8) hx hb hT inX1 hown hK hP 0 rfl rfl 6 (by decide) (hT _ tb_408) (fun _ h9 => h9) rfl dX1_times_198 ?_
                      refine lv_iload hx hb dX1_times_201 (lv_at hl 0 rfl) ?_
                      refine va_lald hx hb hK hP 5 1 rfl rfl (iZ_in (by omega) (by omega) (by decide)) dX1_times_203 ?_
                      refine zl_as (a := U 4 ((v63).toNat)) (by rw [iZ_cl (by omega) (by omega)]) ?_
                      refine lv_aload_n hx hb dX1_times_204 rfl (lv_at hl 4 rfl) ?_
                      refine va_get (D := D) (ci := 1) (C := RX1) (T := TX1) (N := 8) hx hb hT inX1 hown hK hP 0 rfl rfl 4 (by decide) (hT _ tb_406) (fun _ h9 => h9) rfl dX1_times_205 ?_
                      refine lv_iload_n hx hb dX1_times_208 rfl (lv_at hl 7 rfl) ?_
                      refine va_lald hx hb hK hP 3 1 rfl rfl (iZ_in (by omega) (by omega) (by decide)) dX1_times_209 ?_
                      refine zl_as (a := U 2 ((i).toNat)) (by rw [iZ_cl (by omega) (by omega)]) ?_
                      refine lv_aload_n hx hb dX1_times_210 rfl (lv_at hl 4 rfl) ?_
                      refine va_get (D := D) (ci := 1) (C := RX1) (T := TX1) (N := 8) hx hb hT inX1 hown hK hP 0 rfl rfl 5 (by decide) (hT _ tb_407) (fun _ h9 => h9) rfl dX1_times_211 ?_
                      refine lv_iload hx hb dX1_times_214 (lv_at hl 8 rfl) ?_
                      refine va_lald hx hb hK hP 4 1 rfl rfl (iZ_in (by omega) (by omega) (by decide)) dX1_times_216 ?_
                      refine zl_as (a := U 3 ((i4).toNat)) (by rw [iZ_cl (by omega) (by omega)]) ?_
                      refine zl_mul hx hb dX1_times_217 ?_
                      refine zl_top (fun v64 ev64 => ?_)
                      have hvv : v64 = V 0 ((f * 72).toNat + i.toNat) * V 0 ((g * 72).toNat + i4.toNat) := by
                        rw [ev64, hpu, hqi]
                      have hnz : V 0 ((f * 72).toNat + i.toNat) * V 0 ((g * 72).toNat + i4.toNat) ≠ 0 := Int.mul_ne_zero (by omega) (by omega)
                      refine zl_add hx hb dX1_times_218 ?_
                      refine zl_ldc hx hb 32003 hown (hT _ tb_448) (by decide) dX1_times_219 ?_
                      refine zl_rem hx hb dX1_times_222 (by omega) (by omega) ?_
                      have hxx : (Int.tmod ((U 4 (v63).toNat) + v64) 32003 : Int) = (U 4 (v63).toNat + V 0 ((f * 72).toNat + i.toNat) * V 0 ((g * 72).toNat + i4.toNat)) % 32003 := by
                        rw [← hvv]
                        exact tmP (by omega)
                      refine mm_l hx hb hK hP hd hA hS 4 304 rfl (fun g => rfl) (by omega) dX1_times_223 (fun H locs hP hS => ?_)
                      obtain ⟨V65, eV65⟩ : ∃ Z : Nat → Nat → Int, Z = sV U 4 (uZ (U 4) (v63).toNat (Int.tmod ((U 4 (v63).toNat) + v64) 32003)) := ⟨_, rfl⟩
                      rw [← eV65] at hP
                      refine zi_inc (lv' := [(4, .int (iZ (i4 + 1))), (8, .int (iZ v63)), (7, .int (iZ v62)), (6, .int (iZ v61)), (5, .int (iZ v60)), (0, .ref mo), (1, .int (iZ f)), (2, .int (iZ g)), (3, .int (iZ i))]) hx hb dX1_times_224 hl (k := 8) rfl (by decide) rfl (fun ls hl => ?_)
                      refine lv_goto (tgt := 100) hx hb dX1_times_227 (by decide) ?_
                      exact ih100 (m100 - 1) (V65, i4 + 1) (by omega) (by (try dsimp only); exact ⟨by omega, by omega, by rw [eV65, sV_a, am_go (by omega), hxx]; exact rw_step hI100.2.2.1 hrl.1 (by rw [(jCz (i := i4) (by omega)).1, (jCz (i := i) (by omega)).1]; exact hrl.2) (by omega) (by omega) hnz, by rw [eV65, sV_b (by decide)]; exact hI100.2.2.2.1, by rw [eV65, sV_b (by decide)]; exact hI100.2.2.2.2.1, by rw [eV65, sV_b (by decide)]; exact hI100.2.2.2.2.2⟩) _ _ hP hS ls (lv_sub hl [5, 6, 7, 8, 0] rfl)
                    · refine lv_iload hx hb dX1_times_141 (lv_at hl 0 rfl) ?_
                      refine zi_const hx hb 4 dX1_times_143 ?_
                      refine zi_cge (tgt := 155) hx hb dX1_times_144 (by decide) (by omega) (by omega) (fun hc144 => ?_) (fun hc144 => ?_)
                      · refine zi_bi hx hb 11 dX1_times_155 (by decide) ?_
                        refine lv_iload hx hb dX1_times_157 (lv_at hl 1 rfl) ?_
                        refine rd_S (As := [.int (iZ v60)]) (rest := [.int (iZ 11)]) (st1 := [.int (iZ (xpZ v60)), .int (iZ 11)]) S (k_X1_exponent l v60 (by omega)) tb_491 tb_492 tb_2 tb_493 hd_X1_exponent ⟨rfl, rfl, by decide, by decide⟩ bl_T (fun _ _ _ => trivial) rfl hl.1 rfl (Nat.le_of_ble_eq_true rfl) dX1_times_159 ⟨Nat.zero_le _, Nat.zero_le _⟩ rfl ?_
                        have hxe162 : xpZ v60 = (if v60 < 4 then 0 else if v60 < 6 then v60 - 6 else v60 - 5) := rfl
                        refine zi_add hx hb dX1_times_162 ?_
                        refine lv_iload hx hb dX1_times_163 (lv_at hl 0 rfl) ?_
                        refine rd_S (As := [.int (iZ v61)]) (rest := [.int (iZ (11 + (xpZ v60)))]) (st1 := [.int (iZ (xpZ v61)), .int (iZ (11 + (xpZ v60)))]) S (k_X1_exponent l v61 (by omega)) tb_491 tb_492 tb_2 tb_493 hd_X1_exponent ⟨rfl, rfl, by decide, by decide⟩ bl_T (fun _ _ _ => trivial) rfl hl.1 rfl (Nat.le_of_ble_eq_true rfl) dX1_times_165 ⟨Nat.zero_le _, Nat.zero_le _⟩ rfl ?_
                        have hxe168 : xpZ v61 = (if v61 < 4 then 0 else if v61 < 6 then v61 - 6 else v61 - 5) := rfl
                        refine zi_add hx hb dX1_times_168 ?_
                        refine zi_top (fun v66 ev66 => ?_)
                        refine lv_istore (lv' := [(7, .int (iZ v66)), (6, .int (iZ v61)), (5, .int (iZ v60)), (0, .ref mo), (1, .int (iZ f)), (2, .int (iZ g)), (3, .int (iZ i)), (4, .int (iZ i4))]) hx hb dX1_times_169 hl (by decide) rfl (fun ls hl => ?_)
                        have hrl := rw_lz (a := v60) (b := v61) (row := v66) (by omega) (by omega) (by omega) (by omega) (by rw [ev66]; first | rw [if_pos (by omega)] | rw [if_neg (by omega)])
                        rw [show v60 = i / 9 by omega, show v61 = i4 / 9 by omega] at hrl
                        refine zi_bi hx hb 19 dX1_times_171 (by decide) ?_
                        refine lv_iload hx hb dX1_times_173 (lv_at hl 0 rfl) ?_
                        refine zi_mul hx hb dX1_times_175 ?_
                        refine lv_iload_n hx hb dX1_times_176 rfl (lv_at hl 6 rfl) ?_
                        refine zi_bi hx hb 9 dX1_times_177 (by decide) ?_
                        refine zi_rem hx hb dX1_times_179 (by omega) (by omega) ?_
                        refine zi_add hx hb dX1_times_180 ?_
                        refine lv_iload hx hb dX1_times_181 (lv_at hl 7 rfl) ?_
                        refine zi_bi hx hb 9 dX1_times_183 (by decide) ?_
                        refine zi_rem hx hb dX1_times_185 (by omega) (by omega) ?_
                        refine zi_add hx hb dX1_times_186 ?_
                        refine zi_const hx hb 1 dX1_times_187 ?_
                        refine zi_add hx hb dX1_times_188 ?_
                        refine zi_top (fun v67 ev67 => ?_)
                        refine lv_istore (lv' := [(8, .int (iZ v67)), (7, .int (iZ v66)), (6, .int (iZ v61)), (5, .int (iZ v60)), (0, .ref mo), (1, .int (iZ f)), (2, .int (iZ g)), (3, .int (iZ i)), (4, .int (iZ i4))]) hx hb dX1_times_189 hl (by decide) rfl (fun ls hl => ?_)
                        have hur := hI100.2.2.1.1 (v67).toNat (by omega)
                        refine lv_aload_n hx hb dX1_times_191 rfl (lv_at hl 4 rfl) ?_
                        refine va_get (D := D) (ci := 1) (C := RX1) (T := TX1) (N := 8) hx hb hT inX1 hown hK hP 0 rfl rfl 6 (by decide) (hT _ tb_408) (fun _ h9 => h9) rfl dX1_times_192 ?_
                        refine lv_iload hx hb dX1_times_195 (lv_at hl 0 rfl) ?_
                        refine lv_aload_n hx hb dX1_times_197 rfl (lv_at hl 4 rfl) ?_
                        refine va_get (D := D) (ci := 1) (C := RX1) (T := TX1) (N := 8) hx hb hT inX1 hown hK hP 0 rfl rfl 6 (by decide) (hT _ tb_408) (fun _ h9 => h9) rfl dX1_times_198 ?_
                        refine lv_iload hx hb dX1_times_201 (lv_at hl 0 rfl) ?_
                        refine va_lald hx hb hK hP 5 1 rfl rfl (iZ_in (by omega) (by omega) (by decide)) dX1_times_203 ?_
                        refine zl_as (a := U 4 ((v67).toNat)) (by rw [iZ_cl (by omega) (by omega)]) ?_
                        refine lv_aload_n hx hb dX1_times_204 rfl (lv_at hl 4 rfl) ?_
                        refine va_get (D := D) (ci := 1) (C := RX1) (T := TX1) (N := 8) hx hb hT inX1 hown hK hP 0 rfl rfl 4 (by decide) (hT _ tb_406) (fun _ h9 => h9) rfl dX1_times_205 ?_
                        refine lv_iload_n hx hb dX1_times_208 rfl (lv_at hl 7 rfl) ?_
                        refine va_lald hx hb hK hP 3 1 rfl rfl (iZ_in (by omega) (by omega) (by decide)) dX1_times_209 ?_
                        refine zl_as (a := U 2 ((i).toNat)) (by rw [iZ_cl (by omega) (by omega)]) ?_
                        refine lv_aload_n hx hb dX1_times_210 rfl (lv_at hl 4 rfl) ?_
                        refine va_get (D := D) (ci := 1) (C := RX1) (T := TX1) (N := 8) hx hb hT inX1 hown hK hP 0 rfl rfl 5 (by decide) (hT _ tb_407) (fun _ h9 => h9) rfl dX1_times_211 ?_
                        refine lv_iload hx hb dX1_times_214 (lv_at hl 8 rfl) ?_
                        refine va_lald hx hb hK hP 4 1 rfl rfl (iZ_in (by omega) (by omega) (by decide)) dX1_times_216 ?_
                        refine zl_as (a := U 3 ((i4).toNat)) (by rw [iZ_cl (by omega) (by omega)]) ?_
                        refine zl_mul hx hb dX1_times_217 ?_
                        refine zl_top (fun v68 ev68 => ?_)
                        have hvv : v68 = V 0 ((f * 72).toNat + i.toNat) * V 0 ((g * 72).toNat + i4.toNat) := by
                          rw [ev68, hpu, hqi]
                        have hnz : V 0 ((f * 72).toNat + i.toNat) * V 0 ((g * 72).toNat + i4.toNat) ≠ 0 := Int.mul_ne_zero (by omega) (by omega)
                        refine zl_add hx hb dX1_times_218 ?_
                        refine zl_ldc hx hb 32003 hown (hT _ tb_448) (by decide) dX1_times_219 ?_
                        refine zl_rem hx hb dX1_times_222 (by omega) (by omega) ?_
                        have hxx : (Int.tmod ((U 4 (v67).toNat) + v68) 32003 : Int) = (U 4 (v67).toNat + V 0 ((f * 72).toNat + i.toNat) * V 0 ((g * 72).toNat + i4.toNat)) % 32003 := by
                          rw [← hvv]
                          exact tmP (by omega)
                        refine mm_l hx hb hK hP hd hA hS 4 304 rfl (fun g => rfl) (by omega) dX1_times_223 (fun H locs hP hS => ?_)
                        obtain ⟨V69, eV69⟩ : ∃ Z : Nat → Nat → Int, Z = sV U 4 (uZ (U 4) (v67).toNat (Int.tmod ((U 4 (v67).toNat) + v68) 32003)) := ⟨_, rfl⟩
                        rw [← eV69] at hP
                        refine zi_inc (lv' := [(4, .int (iZ (i4 + 1))), (8, .int (iZ v67)), (7, .int (iZ v66)), (6, .int (iZ v61)), (5, .int (iZ v60)), (0, .ref mo), (1, .int (iZ f)), (2, .int (iZ g)), (3, .int (iZ i))]) hx hb dX1_times_224 hl (k := 8) rfl (by decide) rfl (fun ls hl => ?_)
                        refine lv_goto (tgt := 100) hx hb dX1_times_227 (by decide) ?_
                        exact ih100 (m100 - 1) (V69, i4 + 1) (by omega) (by (try dsimp only); exact ⟨by omega, by omega, by rw [eV69, sV_a, am_go (by omega), hxx]; exact rw_step hI100.2.2.1 hrl.1 (by rw [(jCz (i := i4) (by omega)).1, (jCz (i := i) (by omega)).1]; exact hrl.2) (by omega) (by omega) hnz, by rw [eV69, sV_b (by decide)]; exact hI100.2.2.2.1, by rw [eV69, sV_b (by decide)]; exact hI100.2.2.2.2.1, by rw [eV69, sV_b (by decide)]; exact hI100.2.2.2.2.2⟩) _ _ hP hS ls (lv_sub hl [5, 6, 7, 8, 0] rfl)
                      · refine lv_iload hx hb dX1_times_147 (lv_at hl 1 rfl) ?_
                        refine lv_iload hx hb dX1_times_149 (lv_at hl 0 rfl) ?_
                        refine zi_add hx hb dX1_times_151 ?_
                        refine lv_goto (tgt := 169) hx hb dX1_times_152 (by decide) ?_
                        refine zi_top (fun v70 ev70 => ?_)
                        refine lv_istore (lv' := [(7, .int (iZ v70)), (6, .int (iZ v61)), (5, .int (iZ v60)), (0, .ref mo), (1, .int (iZ f)), (2, .int (iZ g)), (3, .int (iZ i)), (4, .int (iZ i4))]) hx hb dX1_times_169 hl (by decide) rfl (fun ls hl => ?_)
                        have hrl := rw_lz (a := v60) (b := v61) (row := v70) (by omega) (by omega) (by omega) (by omega) (by rw [ev70]; first | rw [if_pos (by omega)] | rw [if_neg (by omega)])
                        rw [show v60 = i / 9 by omega, show v61 = i4 / 9 by omega] at hrl
                        refine zi_bi hx hb 19 dX1_times_171 (by decide) ?_
                        refine lv_iload hx hb dX1_times_173 (lv_at hl 0 rfl) ?_
                        refine zi_mul hx hb dX1_times_175 ?_
                        refine lv_iload_n hx hb dX1_times_176 rfl (lv_at hl 6 rfl) ?_
                        refine zi_bi hx hb 9 dX1_times_177 (by decide) ?_
                        refine zi_rem hx hb dX1_times_179 (by omega) (by omega) ?_
                        refine zi_add hx hb dX1_times_180 ?_
                        refine lv_iload hx hb dX1_times_181 (lv_at hl 7 rfl) ?_
                        refine zi_bi hx hb 9 dX1_times_183 (by decide) ?_
                        refine zi_rem hx hb dX1_times_185 (by omega) (by omega) ?_
                        refine zi_add hx hb dX1_times_186 ?_
                        refine zi_const hx hb 1 dX1_times_187 ?_
                        refine zi_add hx hb dX1_times_188 ?_
                        refine zi_top (fun v71 ev71 => ?_)
                        refine lv_istore (lv' := [(8, .int (iZ v71)), (7, .int (iZ v70)), (6, .int (iZ v61)), (5, .int (iZ v60)), (0, .ref mo), (1, .int (iZ f)), (2, .int (iZ g)), (3, .int (iZ i)), (4, .int (iZ i4))]) hx hb dX1_times_189 hl (by decide) rfl (fun ls hl => ?_)
                        have hur := hI100.2.2.1.1 (v71).toNat (by omega)
                        refine lv_aload_n hx hb dX1_times_191 rfl (lv_at hl 4 rfl) ?_
                        refine va_get (D := D) (ci := 1) (C := RX1) (T := TX1) (N := 8) hx hb hT inX1 hown hK hP 0 rfl rfl 6 (by decide) (hT _ tb_408) (fun _ h9 => h9) rfl dX1_times_192 ?_
                        refine lv_iload hx hb dX1_times_195 (lv_at hl 0 rfl) ?_
                        refine lv_aload_n hx hb dX1_times_197 rfl (lv_at hl 4 rfl) ?_
                        refine va_get (D := D) (ci := 1) (C := RX1) (T := TX1) (N := 8) hx hb hT inX1 hown hK hP 0 rfl rfl 6 (by decide) (hT _ tb_408) (fun _ h9 => h9) rfl dX1_times_198 ?_
                        refine lv_iload hx hb dX1_times_201 (lv_at hl 0 rfl) ?_
                        refine va_lald hx hb hK hP 5 1 rfl rfl (iZ_in (by omega) (by omega) (by decide)) dX1_times_203 ?_
                        refine zl_as (a := U 4 ((v71).toNat)) (by rw [iZ_cl (by omega) (by omega)]) ?_
                        refine lv_aload_n hx hb dX1_times_204 rfl (lv_at hl 4 rfl) ?_
                        refine va_get (D := D) (ci := 1) (C := RX1) (T := TX1) (N := 8) hx hb hT inX1 hown hK hP 0 rfl rfl 4 (by decide) (hT _ tb_406) (fun _ h9 => h9) rfl dX1_times_205 ?_
                        refine lv_iload_n hx hb dX1_times_208 rfl (lv_at hl 7 rfl) ?_
                        refine va_lald hx hb hK hP 3 1 rfl rfl (iZ_in (by omega) (by omega) (by decide)) dX1_times_209 ?_
                        refine zl_as (a := U 2 ((i).toNat)) (by rw [iZ_cl (by omega) (by omega)]) ?_
                        refine lv_aload_n hx hb dX1_times_210 rfl (lv_at hl 4 rfl) ?_
                        refine va_get (D := D) (ci := 1) (C := RX1) (T := TX1) (N := 8) hx hb hT inX1 hown hK hP 0 rfl rfl 5 (by decide) (hT _ tb_407) (fun _ h9 => h9) rfl dX1_times_211 ?_
                        refine lv_iload hx hb dX1_times_214 (lv_at hl 8 rfl) ?_
                        refine va_lald hx hb hK hP 4 1 rfl rfl (iZ_in (by omega) (by omega) (by decide)) dX1_times_216 ?_
                        refine zl_as (a := U 3 ((i4).toNat)) (by rw [iZ_cl (by omega) (by omega)]) ?_
                        refine zl_mul hx hb dX1_times_217 ?_
                        refine zl_top (fun v72 ev72 => ?_)
                        have hvv : v72 = V 0 ((f * 72).toNat + i.toNat) * V 0 ((g * 72).toNat + i4.toNat) := by
                          rw [ev72, hpu, hqi]
                        have hnz : V 0 ((f * 72).toNat + i.toNat) * V 0 ((g * 72).toNat + i4.toNat) ≠ 0 := Int.mul_ne_zero (by omega) (by omega)
                        refine zl_add hx hb dX1_times_218 ?_
                        refine zl_ldc hx hb 32003 hown (hT _ tb_448) (by decide) dX1_times_219 ?_
                        refine zl_rem hx hb dX1_times_222 (by omega) (by omega) ?_
                        have hxx : (Int.tmod ((U 4 (v71).toNat) + v72) 32003 : Int) = (U 4 (v71).toNat + V 0 ((f * 72).toNat + i.toNat) * V 0 ((g * 72).toNat + i4.toNat)) % 32003 := by
                          rw [← hvv]
                          exact tmP (by omega)
                        refine mm_l hx hb hK hP hd hA hS 4 304 rfl (fun g => rfl) (by omega) dX1_times_223 (fun H locs hP hS => ?_)
                        obtain ⟨V73, eV73⟩ : ∃ Z : Nat → Nat → Int, Z = sV U 4 (uZ (U 4) (v71).toNat (Int.tmod ((U 4 (v71).toNat) + v72) 32003)) := ⟨_, rfl⟩
                        rw [← eV73] at hP
                        refine zi_inc (lv' := [(4, .int (iZ (i4 + 1))), (8, .int (iZ v71)), (7, .int (iZ v70)), (6, .int (iZ v61)), (5, .int (iZ v60)), (0, .ref mo), (1, .int (iZ f)), (2, .int (iZ g)), (3, .int (iZ i))]) hx hb dX1_times_224 hl (k := 8) rfl (by decide) rfl (fun ls hl => ?_)
                        refine lv_goto (tgt := 100) hx hb dX1_times_227 (by decide) ?_
                        exact ih100 (m100 - 1) (V73, i4 + 1) (by omega) (by (try dsimp only); exact ⟨by omega, by omega, by rw [eV73, sV_a, am_go (by omega), hxx]; exact rw_step hI100.2.2.1 hrl.1 (by rw [(jCz (i := i4) (by omega)).1, (jCz (i := i) (by omega)).1]; exact hrl.2) (by omega) (by omega) hnz, by rw [eV73, sV_b (by decide)]; exact hI100.2.2.2.1, by rw [eV73, sV_b (by decide)]; exact hI100.2.2.2.2.1, by rw [eV73, sV_b (by decide)]; exact hI100.2.2.2.2.2⟩) _ _ hP hS ls (lv_sub hl [5, 6, 7, 8, 0] rfl)
                  · refine lv_goto (tgt := 224) hx hb dX1_times_119 (by decide) ?_
                    refine zi_inc (lv' := [(4, .int (iZ (i4 + 1))), (0, .ref mo), (1, .int (iZ f)), (2, .int (iZ g)), (3, .int (iZ i))]) hx hb dX1_times_224 hl (k := 4) rfl (by decide) rfl (fun ls hl => ?_)
                    refine lv_goto (tgt := 100) hx hb dX1_times_227 (by decide) ?_
                    exact ih100 (m100 - 1) (U, i4 + 1) (by omega) (by (try dsimp only); exact ⟨by omega, by omega, by rw [am_skip (by omega) (by omega)]; exact hI100.2.2.1, hI100.2.2.2⟩) _ _ hP hS ls (lv_sub hl [1, 2, 3, 4, 0] rfl)
              · refine lv_goto (tgt := 230) hx hb dX1_times_94 (by decide) ?_
                refine zi_inc (lv' := [(3, .int (iZ (i + 1))), (0, .ref mo), (1, .int (iZ f)), (2, .int (iZ g))]) hx hb dX1_times_230 hl (k := 3) rfl (by decide) rfl (fun ls hl => ?_)
                refine lv_goto (tgt := 77) hx hb dX1_times_233 (by decide) ?_
                exact ih77 (m77 - 1) (Y, i + 1) (by omega) (by (try dsimp only); exact ⟨by omega, by omega, by rw [sp_go (by omega), if_pos (by omega)]; exact hI77.2.2.1, hI77.2.2.2⟩) _ _ hP hS ls (lv_sub hl [1, 2, 3, 0] rfl)
          · exfalso
            omega
  · exfalso
    omega
set_option maxHeartbeats 4000000 in
set_option maxRecDepth 100000 in
theorem kP_X1_times (l : Launch) (D : va_G) (mo : Nat) (na : Nat → Nat) (cI cJ : ClassId) (c0 k : Int) (V : Nat → Nat → Int) (f g : Int) (hd : dM mo na) (G : Nat → Int) (hN : ∀ j, 0 ≤ V 0 j ∧ V 0 j < 32003) (hk : 0 ≤ k ∧ k < 60) (hf : 0 ≤ f ∧ f < k) (hg : 0 ≤ g ∧ g < k) (h0 : lmZ (V 0) f g = 0 ∧ lmZ (V 0) g f = 0) (h1 : ptZ (spZ (V 0) G f g 72) = 1) : wm_M l yX1_times cX1_times 9 (some .int) ({ frames := 3, cells := 0, slots := 0, locals := 68 }) [.int (iZ f), .int (iZ g)] D mo na cI cJ c0 k V (some (.int (iZ 0))) 2 k (fun Z => Z 0 = V 0) := by
  refine wm_of (by decide) rfl (Nat.le_of_ble_eq_true rfl) ?_
  intro p e s m below meth c A hAe S hr hlk hP hK hA hAn hS ls hl
  obtain ⟨hx, hb, hml, hown, hT⟩ := id S
  have hl : lv_has ls 9 [(0, .ref mo), (1, .int (iZ f)), (2, .int (iZ g))] := hl
  refine lv_aload_n hx hb dX1_times_0 rfl (lv_at hl 0 rfl) ?_
  refine lv_iload_n hx hb dX1_times_1 rfl (lv_at hl 1 rfl) ?_
  refine lv_iload_n hx hb dX1_times_2 rfl (lv_at hl 2 rfl) ?_
  refine wm_V (As := [.int (iZ f), .int (iZ g)]) (rest := []) (st1 := [.int (iZ 1)]) (c1 := 0) (k1 := k) S (k_X1_may l D mo na cI cJ c0 k V f g hd hN (by omega) (by omega) (by omega)) tb_462 tb_464 ts_X1_may tb_2 tb_465 hd_X1_may ⟨rfl, rfl, by decide, by decide⟩ hP hK hS hA hAn rfl hl.1 rfl (Nat.le_of_ble_eq_true rfl) dX1_times_3 ⟨Nat.zero_le _, Nat.zero_le _⟩ rfl (fun V1 H locs hRV1 hP hS _ _ => ?_)
  have hp2 : ∀ j : Nat, j < 72 → 0 ≤ V1 2 j ∧ V1 2 j < 32003 := fun j hj => by rw [hRV1.1 j hj]; exact hN _
  have hp3 : ∀ j : Nat, j < 72 → 0 ≤ V1 3 j ∧ V1 3 j < 32003 := fun j hj => by rw [hRV1.2.1 j hj]; exact hN _
  have hc2_9 : cnZ (V1 2) (1 * 9 : Int).toNat ((4 - 1) * 9 : Int).toNat = cnZ (V 0) (f * 72 + 9).toNat 27 := cn_cg 27 (fun j hj => by rw [show (1 * 9 : Int).toNat + j = 9 + j from rfl, hRV1.1 _ (by omega)]; exact congrArg (V 0) (by omega))
  have hc2_36 : cnZ (V1 2) (4 * 9 : Int).toNat ((8 - 4) * 9 : Int).toNat = cnZ (V 0) (f * 72 + 36).toNat 36 := cn_cg 36 (fun j hj => by rw [show (4 * 9 : Int).toNat + j = 36 + j from rfl, hRV1.1 _ (by omega)]; exact congrArg (V 0) (by omega))
  have hc3_9 : cnZ (V1 3) (1 * 9 : Int).toNat ((4 - 1) * 9 : Int).toNat = cnZ (V 0) (g * 72 + 9).toNat 27 := cn_cg 27 (fun j hj => by rw [show (1 * 9 : Int).toNat + j = 9 + j from rfl, hRV1.2.1 _ (by omega)]; exact congrArg (V 0) (by omega))
  have hc3_36 : cnZ (V1 3) (4 * 9 : Int).toNat ((8 - 4) * 9 : Int).toNat = cnZ (V 0) (g * 72 + 36).toNat 36 := cn_cg 36 (fun j hj => by rw [show (4 * 9 : Int).toNat + j = 36 + j from rfl, hRV1.2.1 _ (by omega)]; exact congrArg (V 0) (by omega))
  have hlm1 := lmZ_or (V 0) f g
  have hlm2 := lmZ_or (V 0) g f
  have hs2_9 := hsZ_or (V1 2) (1 * 9 : Int).toNat ((4 - 1) * 9 : Int).toNat
  rw [hc2_9] at hs2_9
  have hs2_36 := hsZ_or (V1 2) (4 * 9 : Int).toNat ((8 - 4) * 9 : Int).toNat
  rw [hc2_36] at hs2_36
  have hs3_9 := hsZ_or (V1 3) (1 * 9 : Int).toNat ((4 - 1) * 9 : Int).toNat
  rw [hc3_9] at hs3_9
  have hs3_36 := hsZ_or (V1 3) (4 * 9 : Int).toNat ((8 - 4) * 9 : Int).toNat
  rw [hc3_36] at hs3_36
  refine zi_fne (tgt := 11) hx hb dX1_times_6 (by decide) (by omega) (fun hc6 => ?_) (fun hc6 => ?_)
  · refine lv_aload_n hx hb dX1_times_11 rfl (lv_at hl 0 rfl) ?_
    refine lv_aload_n hx hb dX1_times_12 rfl (lv_at hl 0 rfl) ?_
    refine va_get (D := D) (ci := 1) (C := RX1) (T := TX1) (N := 8) hx hb hT inX1 hown hK hP 0 rfl rfl 4 (by decide) (hT _ tb_406) (fun _ h9 => h9) rfl dX1_times_13 ?_
    refine zi_const hx hb 1 dX1_times_16 ?_
    refine zi_const hx hb 4 dX1_times_17 ?_
    refine rd_V (As := [.ref (na 2), .int (iZ ((1 : Int))), .int (iZ ((4 : Int)))]) (rest := []) (st1 := [.int (iZ (hsZ (V1 2) (((1 : Int)) * 9).toNat ((((4 : Int)) - ((1 : Int))) * 9).toNat))]) S (k2_X1_has l D mo na cI cJ 0 k V1 ((1 : Int)) ((4 : Int)) (by omega) hp2) tb_479 tb_481 ts_X1_has tb_2 tb_482 hd_X1_has ⟨rfl, rfl, by decide, by decide⟩ rM_bl (rM_mv hP hK) (va_recv hK hP (ci := 1) (q0 := 0) rfl rfl) rfl hl.1 rfl (Nat.le_of_ble_eq_true rfl) dX1_times_18 ⟨Nat.zero_le _, Nat.zero_le _⟩ rfl ?_
    refine zi_feq (tgt := 38) hx hb dX1_times_21 (by decide) (by omega) (fun hc21 => ?_) (fun hc21 => ?_)
    · refine lv_aload_n hx hb dX1_times_38 rfl (lv_at hl 0 rfl) ?_
      refine lv_aload_n hx hb dX1_times_39 rfl (lv_at hl 0 rfl) ?_
      refine va_get (D := D) (ci := 1) (C := RX1) (T := TX1) (N := 8) hx hb hT inX1 hown hK hP 0 rfl rfl 4 (by decide) (hT _ tb_406) (fun _ h9 => h9) rfl dX1_times_40 ?_
      refine zi_const hx hb 4 dX1_times_43 ?_
      refine zi_bi hx hb 8 dX1_times_44 (by decide) ?_
      refine rd_V (As := [.ref (na 2), .int (iZ ((4 : Int))), .int (iZ ((8 : Int)))]) (rest := []) (st1 := [.int (iZ (hsZ (V1 2) (((4 : Int)) * 9).toNat ((((8 : Int)) - ((4 : Int))) * 9).toNat))]) S (k2_X1_has l D mo na cI cJ 0 k V1 ((4 : Int)) ((8 : Int)) (by omega) hp2) tb_479 tb_481 ts_X1_has tb_2 tb_482 hd_X1_has ⟨rfl, rfl, by decide, by decide⟩ rM_bl (rM_mv hP hK) (va_recv hK hP (ci := 1) (q0 := 0) rfl rfl) rfl hl.1 rfl (Nat.le_of_ble_eq_true rfl) dX1_times_46 ⟨Nat.zero_le _, Nat.zero_le _⟩ rfl ?_
      refine zi_feq (tgt := 71) hx hb dX1_times_49 (by decide) (by omega) (fun hc49 => ?_) (fun hc49 => ?_)
      · refine lv_aload_n hx hb dX1_times_71 rfl (lv_at hl 0 rfl) ?_
        refine wm_V (As := []) (rest := []) (st1 := []) (c1 := 0) (k1 := k) S (k_X1_start l D mo na cI cJ 0 k V1  hd ) tb_487 tb_489 ts_X1_start tb_2 tb_490 hd_X1_start ⟨rfl, rfl, by decide, by decide⟩ hP hK hS hA hAn rfl hl.1 rfl (Nat.le_of_ble_eq_true rfl) dX1_times_72 ⟨Nat.zero_le _, Nat.zero_le _⟩ rfl (fun V2 H locs hRV2 hP hS _ _ => ?_)
        refine zi_const hx hb 0 dX1_times_75 ?_
        refine lv_istore_n (lv' := [(3, .int (iZ 0)), (0, .ref mo), (1, .int (iZ f)), (2, .int (iZ g))]) hx hb dX1_times_76 rfl hl (by decide) rfl (fun ls hl => ?_)
        refine lp_goM (nL := 9) (α := (Nat → Nat → Int) × Int) (fun z => [(0, .ref mo), (1, .int (iZ f)), (2, .int (iZ g)), (3, .int (iZ z.2))]) (fun _ => 0) (fun _ => k) (fun z => z.1) (fun m77 z => 0 ≤ z.2 ∧ z.2 + (m77 : Int) = 72 ∧ rwR (z.1 4) (spZ (V 0) G f g z.2.toNat) ∧ z.1 2 = V1 2 ∧ z.1 3 = V1 3 ∧ z.1 0 = V 0) ?_ 72 (V2, (0 : Int)) (by (try dsimp only); exact ⟨by omega, by omega, rw_0 hRV2.1 (fun j hj => (by show fiZ G 0 255 (fun _ => (0 : Int)) j = 0; unfold fiZ; rw [if_pos (by omega)])), hRV2.2 2 (by decide), hRV2.2 3 (by decide), (hRV2.2 0 (by decide)).trans hRV1.2.2⟩) _ _ hP hS ls (lv_sub hl [1, 2, 3, 0] rfl)
        intro m77 z3 hI77 ih77 H locs hP hS ls hl
        obtain ⟨Y, i⟩ := z3
        have hl : lv_has ls 9 [(0, .ref mo), (1, .int (iZ f)), (2, .int (iZ g)), (3, .int (iZ i))] := hl
        have hI77 : 0 ≤ i ∧ i + (m77 : Int) = 72 ∧ rwR (Y 4) (spZ (V 0) G f g i.toNat) ∧ Y 2 = V1 2 ∧ Y 3 = V1 3 ∧ Y 0 = V 0 := hI77
        have hP : va_P D vwCl (mX mo na cI cJ 0 k Y) H := hP
        refine lv_iload_n hx hb dX1_times_77 rfl (lv_at hl 3 rfl) ?_
        refine zi_bi hx hb 72 dX1_times_78 (by decide) ?_
        refine zi_cge (tgt := 236) hx hb dX1_times_80 (by decide) (by omega) (by omega) (fun hc80 => ?_) (fun hc80 => ?_)
        · have hsp : rwR (Y 4) (spZ (V 0) G f g 72) := (show i.toNat = 72 by omega) ▸ hI77.2.2.1
          refine lv_aload_n hx hb dX1_times_236 rfl (lv_at hl 0 rfl) ?_
          refine wm_V (As := []) (rest := []) (st1 := [.int (iZ 0)]) (c1 := 2) (k1 := k) S (kF_X1_narrow l D mo na cI cJ 0 k Y  hd (by omega) hsp.1 (fun q => by have := (rw_ok hsp).mp q; omega)) tb_494 tb_496 ts_X1_narrow tb_2 tb_497 hd_X1_narrow ⟨rfl, rfl, by decide, by decide⟩ hP hK hS hA hAn rfl hl.1 rfl (Nat.le_of_ble_eq_true rfl) dX1_times_237 ⟨Nat.zero_le _, Nat.zero_le _⟩ rfl (fun V4 H locs hRV4 hP hS _ _ => ?_)
          exact wm_iret hx hb hr hlk hP ((show V4 0 = V 0 from hRV4.trans hI77.2.2.2.2.2)) rfl rfl hS (congrArg (fun z => some (Value.int (iZ z))) (show (0 : Int) = 0 from rfl)) dX1_times_240
        · have hpi : Y 2 i.toNat = V 0 ((f * 72).toNat + i.toNat) := by
            rw [hI77.2.2.2.1]
            exact hRV1.1 _ (by omega)
          have hpr := hN ((f * 72).toNat + i.toNat)
          refine lv_aload_n hx hb dX1_times_83 rfl (lv_at hl 0 rfl) ?_
          refine va_get (D := D) (ci := 1) (C := RX1) (T := TX1) (N := 8) hx hb hT inX1 hown hK hP 0 rfl rfl 4 (by decide) (hT _ tb_406) (fun _ h9 => h9) rfl dX1_times_84 ?_
          refine lv_iload_n hx hb dX1_times_87 rfl (lv_at hl 3 rfl) ?_
          refine va_lald hx hb hK hP 3 1 rfl rfl (iZ_in (by omega) (by omega) (by decide)) dX1_times_88 ?_
          refine zl_as (a := Y 2 ((i).toNat)) (by rw [iZ_cl (by omega) (by omega)]) ?_
          refine zl_const hx hb 0 dX1_times_89 (by decide) ?_
          refine zl_cne (tgt := 97) hx hb dX1_times_90 dX1_times_91 (by decide) (by omega) (by omega) (fun hc90 => ?_) (fun hc90 => ?_)
          · refine zi_const hx hb 0 dX1_times_97 ?_
            refine lv_istore (lv' := [(4, .int (iZ 0)), (0, .ref mo), (1, .int (iZ f)), (2, .int (iZ g)), (3, .int (iZ i))]) hx hb dX1_times_98 hl (by decide) rfl (fun ls hl => ?_)
            refine lp_goM (nL := 9) (α := (Nat → Nat → Int) × Int) (fun z => [(0, .ref mo), (1, .int (iZ f)), (2, .int (iZ g)), (3, .int (iZ i)), (4, .int (iZ z.2))]) (fun _ => 0) (fun _ => k) (fun z => z.1) (fun m100 z => 0 ≤ z.2 ∧ z.2 + (m100 : Int) = 72 ∧ rwR (z.1 4) (amZ (V 0) (spZ (V 0) G f g i.toNat) g (jC i.toNat) (jN i.toNat) (V 0 ((f * 72).toNat + i.toNat)) z.2.toNat) ∧ z.1 2 = V1 2 ∧ z.1 3 = V1 3 ∧ z.1 0 = V 0) ?_ 72 (Y, (0 : Int)) (by (try dsimp only); exact ⟨by omega, by omega, hI77.2.2.1, hI77.2.2.2⟩) _ _ hP hS ls (lv_sub hl [1, 2, 3, 4, 0] rfl)
            intro m100 z5 hI100 ih100 H locs hP hS ls hl
            obtain ⟨U, i4⟩ := z5
            have hl : lv_has ls 9 [(0, .ref mo), (1, .int (iZ f)), (2, .int (iZ g)), (3, .int (iZ i)), (4, .int (iZ i4))] := hl
            have hI100 : 0 ≤ i4 ∧ i4 + (m100 : Int) = 72 ∧ rwR (U 4) (amZ (V 0) (spZ (V 0) G f g i.toNat) g (jC i.toNat) (jN i.toNat) (V 0 ((f * 72).toNat + i.toNat)) i4.toNat) ∧ U 2 = V1 2 ∧ U 3 = V1 3 ∧ U 0 = V 0 := hI100
            have hP : va_P D vwCl (mX mo na cI cJ 0 k U) H := hP
            refine lv_iload hx hb dX1_times_100 (lv_at hl 4 rfl) ?_
            refine zi_bi hx hb 72 dX1_times_102 (by decide) ?_
            refine zi_cge (tgt := 230) hx hb dX1_times_104 (by decide) (by omega) (by omega) (fun hc104 => ?_) (fun hc104 => ?_)
            · refine zi_inc (lv' := [(3, .int (iZ (i + 1))), (0, .ref mo), (1, .int (iZ f)), (2, .int (iZ g)), (4, .int (iZ i4))]) hx hb dX1_times_230 hl (k := 3) rfl (by decide) rfl (fun ls hl => ?_)
              refine lv_goto (tgt := 77) hx hb dX1_times_233 (by decide) ?_
              exact ih77 (m77 - 1) (U, i + 1) (by omega) (by (try dsimp only); exact ⟨by omega, by omega, by rw [sp_go (by omega), if_neg (by omega)]; exact (show i4.toNat = 72 by omega) ▸ hI100.2.2.1, hI100.2.2.2⟩) _ _ hP hS ls (lv_sub hl [1, 2, 3, 0] rfl)
            · have hqi : U 3 i4.toNat = V 0 ((g * 72).toNat + i4.toNat) := by
                rw [hI100.2.2.2.2.1]
                exact hRV1.2.1 _ (by omega)
              have hpu : U 2 i.toNat = V 0 ((f * 72).toNat + i.toNat) := by
                rw [hI100.2.2.2.1]
                exact hRV1.1 _ (by omega)
              have hqr := hN ((g * 72).toNat + i4.toNat)
              refine lv_aload_n hx hb dX1_times_107 rfl (lv_at hl 0 rfl) ?_
              refine va_get (D := D) (ci := 1) (C := RX1) (T := TX1) (N := 8) hx hb hT inX1 hown hK hP 0 rfl rfl 5 (by decide) (hT _ tb_407) (fun _ h9 => h9) rfl dX1_times_108 ?_
              refine lv_iload hx hb dX1_times_111 (lv_at hl 4 rfl) ?_
              refine va_lald hx hb hK hP 4 1 rfl rfl (iZ_in (by omega) (by omega) (by decide)) dX1_times_113 ?_
              refine zl_as (a := U 3 ((i4).toNat)) (by rw [iZ_cl (by omega) (by omega)]) ?_
              refine zl_const hx hb 0 dX1_times_114 (by decide) ?_
              refine zl_cne (tgt := 122) hx hb dX1_times_115 dX1_times_116 (by decide) (by omega) (by omega) (fun hc115 => ?_) (fun hc115 => ?_)
              · have t1 := td9 (n := i) (by omega)
                have t2 := td9 (n := i4) (by omega)
                have t3 := tm9 (n := i) (by omega)
                have t4 := tm9 (n := i4) (by omega)
                have j1 := jCz (i := i) (by omega)
                have j2 := jCz (i := i4) (by omega)
                have hl1 : ¬ (1 ≤ i / 9 ∧ i / 9 < 4 ∧ 4 ≤ i4 / 9) := fun q => lm_leg h0.1 (i := i.toNat) (k := i4.toNat) (by omega) (by omega) (by omega) (by omega) (by omega) (by omega)
                have hl2 : ¬ (4 ≤ i / 9 ∧ 1 ≤ i4 / 9 ∧ i4 / 9 < 4) := fun q => lm_leg h0.2 (i := i4.toNat) (k := i.toNat) (by omega) (by omega) (by omega) (by omega) (by omega) (by omega)
                have hmr := mul_rng hpr hqr
                refine lv_iload_n hx hb dX1_times_122 rfl (lv_at hl 3 rfl) ?_
                refine zi_bi hx hb 9 dX1_times_123 (by decide) ?_
                refine zi_div hx hb dX1_times_125 (by omega) (by omega) ?_
                refine zi_top (fun v6 ev6 => ?_)
                refine lv_istore (lv' := [(5, .int (iZ v6)), (0, .ref mo), (1, .int (iZ f)), (2, .int (iZ g)), (3, .int (iZ i)), (4, .int (iZ i4))]) hx hb dX1_times_126 hl (by decide) rfl (fun ls hl => ?_)
                refine lv_iload hx hb dX1_times_128 (lv_at hl 5 rfl) ?_
                refine zi_bi hx hb 9 dX1_times_130 (by decide) ?_
                refine zi_div hx hb dX1_times_132 (by omega) (by omega) ?_
                refine zi_top (fun v7 ev7 => ?_)
                refine lv_istore (lv' := [(6, .int (iZ v7)), (5, .int (iZ v6)), (0, .ref mo), (1, .int (iZ f)), (2, .int (iZ g)), (3, .int (iZ i)), (4, .int (iZ i4))]) hx hb dX1_times_133 hl (by decide) rfl (fun ls hl => ?_)
                refine lv_iload hx hb dX1_times_135 (lv_at hl 1 rfl) ?_
                refine zi_const hx hb 4 dX1_times_137 ?_
                refine zi_cge (tgt := 155) hx hb dX1_times_138 (by decide) (by omega) (by omega) (fun hc138 => ?_) (fun hc138 => ?_)
                · refine zi_bi hx hb 11 dX1_times_155 (by decide) ?_
                  refine lv_iload hx hb dX1_times_157 (lv_at hl 1 rfl) ?_
                  refine rd_S (As := [.int (iZ v6)]) (rest := [.int (iZ 11)]) (st1 := [.int (iZ (xpZ v6)), .int (iZ 11)]) S (k_X1_exponent l v6 (by omega)) tb_491 tb_492 tb_2 tb_493 hd_X1_exponent ⟨rfl, rfl, by decide, by decide⟩ bl_T (fun _ _ _ => trivial) rfl hl.1 rfl (Nat.le_of_ble_eq_true rfl) dX1_times_159 ⟨Nat.zero_le _, Nat.zero_le _⟩ rfl ?_
                  have hxe162 : xpZ v6 = (if v6 < 4 then 0 else if v6 < 6 then v6 - 6 else v6 - 5) := rfl
                  refine zi_add hx hb dX1_times_162 ?_
                  refine lv_iload hx hb dX1_times_163 (lv_at hl 0 rfl) ?_
                  refine rd_S (As := [.int (iZ v7)]) (rest := [.int (iZ (11 + (xpZ v6)))]) (st1 := [.int (iZ (xpZ v7)), .int (iZ (11 + (xpZ v6)))]) S (k_X1_exponent l v7 (by omega)) tb_491 tb_492 tb_2 tb_493 hd_X1_exponent ⟨rfl, rfl, by decide, by decide⟩ bl_T (fun _ _ _ => trivial) rfl hl.1 rfl (Nat.le_of_ble_eq_true rfl) dX1_times_165 ⟨Nat.zero_le _, Nat.zero_le _⟩ rfl ?_
                  have hxe168 : xpZ v7 = (if v7 < 4 then 0 else if v7 < 6 then v7 - 6 else v7 - 5) := rfl
                  refine zi_add hx hb dX1_times_168 ?_
                  refine zi_top (fun v8 ev8 => ?_)
                  refine lv_istore (lv' := [(7, .int (iZ v8)), (6, .int (iZ v7)), (5, .int (iZ v6)), (0, .ref mo), (1, .int (iZ f)), (2, .int (iZ g)), (3, .int (iZ i)), (4, .int (iZ i4))]) hx hb dX1_times_169 hl (by decide) rfl (fun ls hl => ?_)
                  have hrl := rw_lz (a := v6) (b := v7) (row := v8) (by omega) (by omega) (by omega) (by omega) (by rw [ev8]; first | rw [if_pos (by omega)] | rw [if_neg (by omega)])
                  rw [show v6 = i / 9 by omega, show v7 = i4 / 9 by omega] at hrl
                  refine zi_bi hx hb 19 dX1_times_171 (by decide) ?_
                  refine lv_iload hx hb dX1_times_173 (lv_at hl 0 rfl) ?_
                  refine zi_mul hx hb dX1_times_175 ?_
                  refine lv_iload_n hx hb dX1_times_176 rfl (lv_at hl 6 rfl) ?_
                  refine zi_bi hx hb 9 dX1_times_177 (by decide) ?_
                  refine zi_rem hx hb dX1_times_179 (by omega) (by omega) ?_
                  refine zi_add hx hb dX1_times_180 ?_
                  refine lv_iload hx hb dX1_times_181 (lv_at hl 7 rfl) ?_
                  refine zi_bi hx hb 9 dX1_times_183 (by decide) ?_
                  refine zi_rem hx hb dX1_times_185 (by omega) (by omega) ?_
                  refine zi_add hx hb dX1_times_186 ?_
                  refine zi_const hx hb 1 dX1_times_187 ?_
                  refine zi_add hx hb dX1_times_188 ?_
                  refine zi_top (fun v9 ev9 => ?_)
                  refine lv_istore (lv' := [(8, .int (iZ v9)), (7, .int (iZ v8)), (6, .int (iZ v7)), (5, .int (iZ v6)), (0, .ref mo), (1, .int (iZ f)), (2, .int (iZ g)), (3, .int (iZ i)), (4, .int (iZ i4))]) hx hb dX1_times_189 hl (by decide) rfl (fun ls hl => ?_)
                  have hur := hI100.2.2.1.1 (v9).toNat (by omega)
                  refine lv_aload_n hx hb dX1_times_191 rfl (lv_at hl 4 rfl) ?_
                  refine va_get (D := D) (ci := 1) (C := RX1) (T := TX1) (N := 8) hx hb hT inX1 hown hK hP 0 rfl rfl 6 (by decide) (hT _ tb_408) (fun _ h9 => h9) rfl dX1_times_192 ?_
                  refine lv_iload hx hb dX1_times_195 (lv_at hl 0 rfl) ?_
                  refine lv_aload_n hx hb dX1_times_197 rfl (lv_at hl 4 rfl) ?_
                  refine va_get (D := D) (ci := 1) (C := RX1) (T := TX1) (N := 8) hx hb hT inX1 hown hK hP 0 rfl rfl 6 (by decide) (hT _ tb_408) (fun _ h9 => h9) rfl dX1_times_198 ?_
                  refine lv_iload hx hb dX1_times_201 (lv_at hl 0 rfl) ?_
                  refine va_lald hx hb hK hP 5 1 rfl rfl (iZ_in (by omega) (by omega) (by decide)) dX1_times_203 ?_
                  refine zl_as (a := U 4 ((v9).toNat)) (by rw [iZ_cl (by omega) (by omega)]) ?_
                  refine lv_aload_n hx hb dX1_times_204 rfl (lv_at hl 4 rfl) ?_
                  refine va_get (D := D) (ci := 1) (C := RX1) (T := TX1) (N := 8) hx hb hT inX1 hown hK hP 0 rfl rfl 4 (by decide) (hT _ tb_406) (fun _ h9 => h9) rfl dX1_times_205 ?_
                  refine lv_iload_n hx hb dX1_times_208 rfl (lv_at hl 7 rfl) ?_
                  refine va_lald hx hb hK hP 3 1 rfl rfl (iZ_in (by omega) (by omega) (by decide)) dX1_times_209 ?_
                  refine zl_as (a := U 2 ((i).toNat)) (by rw [iZ_cl (by omega) (by omega)]) ?_
                  refine lv_aload_n hx hb dX1_times_210 rfl (lv_at hl 4 rfl) ?_
                  refine va_get (D := D) (ci := 1) (C := RX1) (T := TX1) (N := 8) hx hb hT inX1 hown hK hP 0 rfl rfl 5 (by decide) (hT _ tb_407) (fun _ h9 => h9) rfl dX1_times_211 ?_
                  refine lv_iload hx hb dX1_times_214 (lv_at hl 8 rfl) ?_
                  refine va_lald hx hb hK hP 4 1 rfl rfl (iZ_in (by omega) (by omega) (by decide)) dX1_times_216 ?_
                  refine zl_as (a := U 3 ((i4).toNat)) (by rw [iZ_cl (by omega) (by omega)]) ?_
                  refine zl_mul hx hb dX1_times_217 ?_
                  refine zl_top (fun v10 ev10 => ?_)
                  have hvv : v10 = V 0 ((f * 72).toNat + i.toNat) * V 0 ((g * 72).toNat + i4.toNat) := by
                    rw [ev10, hpu, hqi]
                  have hnz : V 0 ((f * 72).toNat + i.toNat) * V 0 ((g * 72).toNat + i4.toNat) ≠ 0 := Int.mul_ne_zero (by omega) (by omega)
                  refine zl_add hx hb dX1_times_218 ?_
                  refine zl_ldc hx hb 32003 hown (hT _ tb_448) (by decide) dX1_times_219 ?_
                  refine zl_rem hx hb dX1_times_222 (by omega) (by omega) ?_
                  have hxx : (Int.tmod ((U 4 (v9).toNat) + v10) 32003 : Int) = (U 4 (v9).toNat + V 0 ((f * 72).toNat + i.toNat) * V 0 ((g * 72).toNat + i4.toNat)) % 32003 := by
                    rw [← hvv]
                    exact tmP (by omega)
                  refine mm_l hx hb hK hP hd hA hS 4 304 rfl (fun g => rfl) (by omega) dX1_times_223 (fun H locs hP hS => ?_)
                  obtain ⟨V11, eV11⟩ : ∃ Z : Nat → Nat → Int, Z = sV U 4 (uZ (U 4) (v9).toNat (Int.tmod ((U 4 (v9).toNat) + v10) 32003)) := ⟨_, rfl⟩
                  rw [← eV11] at hP
                  refine zi_inc (lv' := [(4, .int (iZ (i4 + 1))), (8, .int (iZ v9)), (7, .int (iZ v8)), (6, .int (iZ v7)), (5, .int (iZ v6)), (0, .ref mo), (1, .int (iZ f)), (2, .int (iZ g)), (3, .int (iZ i))]) hx hb dX1_times_224 hl (k := 8) rfl (by decide) rfl (fun ls hl => ?_)
                  refine lv_goto (tgt := 100) hx hb dX1_times_227 (by decide) ?_
                  exact ih100 (m100 - 1) (V11, i4 + 1) (by omega) (by (try dsimp only); exact ⟨by omega, by omega, by rw [eV11, sV_a, am_go (by omega), hxx]; exact rw_step hI100.2.2.1 hrl.1 (by rw [(jCz (i := i4) (by omega)).1, (jCz (i := i) (by omega)).1]; exact hrl.2) (by omega) (by omega) hnz, by rw [eV11, sV_b (by decide)]; exact hI100.2.2.2.1, by rw [eV11, sV_b (by decide)]; exact hI100.2.2.2.2.1, by rw [eV11, sV_b (by decide)]; exact hI100.2.2.2.2.2⟩) _ _ hP hS ls (lv_sub hl [5, 6, 7, 8, 0] rfl)
                · refine lv_iload hx hb dX1_times_141 (lv_at hl 0 rfl) ?_
                  refine zi_const hx hb 4 dX1_times_143 ?_
                  refine zi_cge (tgt := 155) hx hb dX1_times_144 (by decide) (by omega) (by omega) (fun hc144 => ?_) (fun hc144 => ?_)
                  · refine zi_bi hx hb 11 dX1_times_155 (by decide) ?_
                    refine lv_iload hx hb dX1_times_157 (lv_at hl 1 rfl) ?_
                    refine rd_S (As := [.int (iZ v6)]) (rest := [.int (iZ 11)]) (st1 := [.int (iZ (xpZ v6)), .int (iZ 11)]) S (k_X1_exponent l v6 (by omega)) tb_491 tb_492 tb_2 tb_493 hd_X1_exponent ⟨rfl, rfl, by decide, by decide⟩ bl_T (fun _ _ _ => trivial) rfl hl.1 rfl (Nat.le_of_ble_eq_true rfl) dX1_times_159 ⟨Nat.zero_le _, Nat.zero_le _⟩ rfl ?_
                    have hxe162 : xpZ v6 = (if v6 < 4 then 0 else if v6 < 6 then v6 - 6 else v6 - 5) := rfl
                    refine zi_add hx hb dX1_times_162 ?_
                    refine lv_iload hx hb dX1_times_163 (lv_at hl 0 rfl) ?_
                    refine rd_S (As := [.int (iZ v7)]) (rest := [.int (iZ (11 + (xpZ v6)))]) (st1 := [.int (iZ (xpZ v7)), .int (iZ (11 + (xpZ v6)))]) S (k_X1_exponent l v7 (by omega)) tb_491 tb_492 tb_2 tb_493 hd_X1_exponent ⟨rfl, rfl, by decide, by decide⟩ bl_T (fun _ _ _ => trivial) rfl hl.1 rfl (Nat.le_of_ble_eq_true rfl) dX1_times_165 ⟨Nat.zero_le _, Nat.zero_le _⟩ rfl ?_
                    have hxe168 : xpZ v7 = (if v7 < 4 then 0 else if v7 < 6 then v7 - 6 else v7 - 5) := rfl
                    refine zi_add hx hb dX1_times_168 ?_
                    refine zi_top (fun v12 ev12 => ?_)
                    refine lv_istore (lv' := [(7, .int (iZ v12)), (6, .int (iZ v7)), (5, .int (iZ v6)), (0, .ref mo), (1, .int (iZ f)), (2, .int (iZ g)), (3, .int (iZ i)), (4, .int (iZ i4))]) hx hb dX1_times_169 hl (by decide) rfl (fun ls hl => ?_)
                    have hrl := rw_lz (a := v6) (b := v7) (row := v12) (by omega) (by omega) (by omega) (by omega) (by rw [ev12]; first | rw [if_pos (by omega)] | rw [if_neg (by omega)])
                    rw [show v6 = i / 9 by omega, show v7 = i4 / 9 by omega] at hrl
                    refine zi_bi hx hb 19 dX1_times_171 (by decide) ?_
                    refine lv_iload hx hb dX1_times_173 (lv_at hl 0 rfl) ?_
                    refine zi_mul hx hb dX1_times_175 ?_
                    refine lv_iload_n hx hb dX1_times_176 rfl (lv_at hl 6 rfl) ?_
                    refine zi_bi hx hb 9 dX1_times_177 (by decide) ?_
                    refine zi_rem hx hb dX1_times_179 (by omega) (by omega) ?_
                    refine zi_add hx hb dX1_times_180 ?_
                    refine lv_iload hx hb dX1_times_181 (lv_at hl 7 rfl) ?_
                    refine zi_bi hx hb 9 dX1_times_183 (by decide) ?_
                    refine zi_rem hx hb dX1_times_185 (by omega) (by omega) ?_
                    refine zi_add hx hb dX1_times_186 ?_
                    refine zi_const hx hb 1 dX1_times_187 ?_
                    refine zi_add hx hb dX1_times_188 ?_
                    refine zi_top (fun v13 ev13 => ?_)
                    refine lv_istore (lv' := [(8, .int (iZ v13)), (7, .int (iZ v12)), (6, .int (iZ v7)), (5, .int (iZ v6)), (0, .ref mo), (1, .int (iZ f)), (2, .int (iZ g)), (3, .int (iZ i)), (4, .int (iZ i4))]) hx hb dX1_times_189 hl (by decide) rfl (fun ls hl => ?_)
                    have hur := hI100.2.2.1.1 (v13).toNat (by omega)
                    refine lv_aload_n hx hb dX1_times_191 rfl (lv_at hl 4 rfl) ?_
                    refine va_get (D := D) (ci := 1) (C := RX1) (T := TX1) (N := 8) hx hb hT inX1 hown hK hP 0 rfl rfl 6 (by decide) (hT _ tb_408) (fun _ h9 => h9) rfl dX1_times_192 ?_
                    refine lv_iload hx hb dX1_times_195 (lv_at hl 0 rfl) ?_
                    refine lv_aload_n hx hb dX1_times_197 rfl (lv_at hl 4 rfl) ?_
                    refine va_get (D := D) (ci := 1) (C := RX1) (T := TX1) (N := 8) hx hb hT inX1 hown hK hP 0 rfl rfl 6 (by decide) (hT _ tb_408) (fun _ h9 => h9) rfl dX1_times_198 ?_
                    refine lv_iload hx hb dX1_times_201 (lv_at hl 0 rfl) ?_
                    refine va_lald hx hb hK hP 5 1 rfl rfl (iZ_in (by omega) (by omega) (by decide)) dX1_times_203 ?_
                    refine zl_as (a := U 4 ((v13).toNat)) (by rw [iZ_cl (by omega) (by omega)]) ?_
                    refine lv_aload_n hx hb dX1_times_204 rfl (lv_at hl 4 rfl) ?_
                    refine va_get (D := D) (ci := 1) (C := RX1) (T := TX1) (N := 8) hx hb hT inX1 hown hK hP 0 rfl rfl 4 (by decide) (hT _ tb_406) (fun _ h9 => h9) rfl dX1_times_205 ?_
                    refine lv_iload_n hx hb dX1_times_208 rfl (lv_at hl 7 rfl) ?_
                    refine va_lald hx hb hK hP 3 1 rfl rfl (iZ_in (by omega) (by omega) (by decide)) dX1_times_209 ?_
                    refine zl_as (a := U 2 ((i).toNat)) (by rw [iZ_cl (by omega) (by omega)]) ?_
                    refine lv_aload_n hx hb dX1_times_210 rfl (lv_at hl 4 rfl) ?_
                    refine va_get (D := D) (ci := 1) (C := RX1) (T := TX1) (N := 8) hx hb hT inX1 hown hK hP 0 rfl rfl 5 (by decide) (hT _ tb_407) (fun _ h9 => h9) rfl dX1_times_211 ?_
                    refine lv_iload hx hb dX1_times_214 (lv_at hl 8 rfl) ?_
                    refine va_lald hx hb hK hP 4 1 rfl rfl (iZ_in (by omega) (by omega) (by decide)) dX1_times_216 ?_
                    refine zl_as (a := U 3 ((i4).toNat)) (by rw [iZ_cl (by omega) (by omega)]) ?_
                    refine zl_mul hx hb dX1_times_217 ?_
                    refine zl_top (fun v14 ev14 => ?_)
                    have hvv : v14 = V 0 ((f * 72).toNat + i.toNat) * V 0 ((g * 72).toNat + i4.toNat) := by
                      rw [ev14, hpu, hqi]
                    have hnz : V 0 ((f * 72).toNat + i.toNat) * V 0 ((g * 72).toNat + i4.toNat) ≠ 0 := Int.mul_ne_zero (by omega) (by omega)
                    refine zl_add hx hb dX1_times_218 ?_
                    refine zl_ldc hx hb 32003 hown (hT _ tb_448) (by decide) dX1_times_219 ?_
                    refine zl_rem hx hb dX1_times_222 (by omega) (by omega) ?_
                    have hxx : (Int.tmod ((U 4 (v13).toNat) + v14) 32003 : Int) = (U 4 (v13).toNat + V 0 ((f * 72).toNat + i.toNat) * V 0 ((g * 72).toNat + i4.toNat)) % 32003 := by
                      rw [← hvv]
                      exact tmP (by omega)
                    refine mm_l hx hb hK hP hd hA hS 4 304 rfl (fun g => rfl) (by omega) dX1_times_223 (fun H locs hP hS => ?_)
                    obtain ⟨V15, eV15⟩ : ∃ Z : Nat → Nat → Int, Z = sV U 4 (uZ (U 4) (v13).toNat (Int.tmod ((U 4 (v13).toNat) + v14) 32003)) := ⟨_, rfl⟩
                    rw [← eV15] at hP
                    refine zi_inc (lv' := [(4, .int (iZ (i4 + 1))), (8, .int (iZ v13)), (7, .int (iZ v12)), (6, .int (iZ v7)), (5, .int (iZ v6)), (0, .ref mo), (1, .int (iZ f)), (2, .int (iZ g)), (3, .int (iZ i))]) hx hb dX1_times_224 hl (k := 8) rfl (by decide) rfl (fun ls hl => ?_)
                    refine lv_goto (tgt := 100) hx hb dX1_times_227 (by decide) ?_
                    exact ih100 (m100 - 1) (V15, i4 + 1) (by omega) (by (try dsimp only); exact ⟨by omega, by omega, by rw [eV15, sV_a, am_go (by omega), hxx]; exact rw_step hI100.2.2.1 hrl.1 (by rw [(jCz (i := i4) (by omega)).1, (jCz (i := i) (by omega)).1]; exact hrl.2) (by omega) (by omega) hnz, by rw [eV15, sV_b (by decide)]; exact hI100.2.2.2.1, by rw [eV15, sV_b (by decide)]; exact hI100.2.2.2.2.1, by rw [eV15, sV_b (by decide)]; exact hI100.2.2.2.2.2⟩) _ _ hP hS ls (lv_sub hl [5, 6, 7, 8, 0] rfl)
                  · refine lv_iload hx hb dX1_times_147 (lv_at hl 1 rfl) ?_
                    refine lv_iload hx hb dX1_times_149 (lv_at hl 0 rfl) ?_
                    refine zi_add hx hb dX1_times_151 ?_
                    refine lv_goto (tgt := 169) hx hb dX1_times_152 (by decide) ?_
                    refine zi_top (fun v16 ev16 => ?_)
                    refine lv_istore (lv' := [(7, .int (iZ v16)), (6, .int (iZ v7)), (5, .int (iZ v6)), (0, .ref mo), (1, .int (iZ f)), (2, .int (iZ g)), (3, .int (iZ i)), (4, .int (iZ i4))]) hx hb dX1_times_169 hl (by decide) rfl (fun ls hl => ?_)
                    have hrl := rw_lz (a := v6) (b := v7) (row := v16) (by omega) (by omega) (by omega) (by omega) (by rw [ev16]; first | rw [if_pos (by omega)] | rw [if_neg (by omega)])
                    rw [show v6 = i / 9 by omega, show v7 = i4 / 9 by omega] at hrl
                    refine zi_bi hx hb 19 dX1_times_171 (by decide) ?_
                    refine lv_iload hx hb dX1_times_173 (lv_at hl 0 rfl) ?_
                    refine zi_mul hx hb dX1_times_175 ?_
                    refine lv_iload_n hx hb dX1_times_176 rfl (lv_at hl 6 rfl) ?_
                    refine zi_bi hx hb 9 dX1_times_177 (by decide) ?_
                    refine zi_rem hx hb dX1_times_179 (by omega) (by omega) ?_
                    refine zi_add hx hb dX1_times_180 ?_
                    refine lv_iload hx hb dX1_times_181 (lv_at hl 7 rfl) ?_
                    refine zi_bi hx hb 9 dX1_times_183 (by decide) ?_
                    refine zi_rem hx hb dX1_times_185 (by omega) (by omega) ?_
                    refine zi_add hx hb dX1_times_186 ?_
                    refine zi_const hx hb 1 dX1_times_187 ?_
                    refine zi_add hx hb dX1_times_188 ?_
                    refine zi_top (fun v17 ev17 => ?_)
                    refine lv_istore (lv' := [(8, .int (iZ v17)), (7, .int (iZ v16)), (6, .int (iZ v7)), (5, .int (iZ v6)), (0, .ref mo), (1, .int (iZ f)), (2, .int (iZ g)), (3, .int (iZ i)), (4, .int (iZ i4))]) hx hb dX1_times_189 hl (by decide) rfl (fun ls hl => ?_)
                    have hur := hI100.2.2.1.1 (v17).toNat (by omega)
                    refine lv_aload_n hx hb dX1_times_191 rfl (lv_at hl 4 rfl) ?_
                    refine va_get (D := D) (ci := 1) (C := RX1) (T := TX1) (N := 8) hx hb hT inX1 hown hK hP 0 rfl rfl 6 (by decide) (hT _ tb_408) (fun _ h9 => h9) rfl dX1_times_192 ?_
                    refine lv_iload hx hb dX1_times_195 (lv_at hl 0 rfl) ?_
                    refine lv_aload_n hx hb dX1_times_197 rfl (lv_at hl 4 rfl) ?_
                    refine va_get (D := D) (ci := 1) (C := RX1) (T := TX1) (N := 8) hx hb hT inX1 hown hK hP 0 rfl rfl 6 (by decide) (hT _ tb_408) (fun _ h9 => h9) rfl dX1_times_198 ?_
                    refine lv_iload hx hb dX1_times_201 (lv_at hl 0 rfl) ?_
                    refine va_lald hx hb hK hP 5 1 rfl rfl (iZ_in (by omega) (by omega) (by decide)) dX1_times_203 ?_
                    refine zl_as (a := U 4 ((v17).toNat)) (by rw [iZ_cl (by omega) (by omega)]) ?_
                    refine lv_aload_n hx hb dX1_times_204 rfl (lv_at hl 4 rfl) ?_
                    refine va_get (D := D) (ci := 1) (C := RX1) (T := TX1) (N := 8) hx hb hT inX1 hown hK hP 0 rfl rfl 4 (by decide) (hT _ tb_406) (fun _ h9 => h9) rfl dX1_times_205 ?_
                    refine lv_iload_n hx hb dX1_times_208 rfl (lv_at hl 7 rfl) ?_
                    refine va_lald hx hb hK hP 3 1 rfl rfl (iZ_in (by omega) (by omega) (by decide)) dX1_times_209 ?_
                    refine zl_as (a := U 2 ((i).toNat)) (by rw [iZ_cl (by omega) (by omega)]) ?_
                    refine lv_aload_n hx hb dX1_times_210 rfl (lv_at hl 4 rfl) ?_
                    refine va_get (D := D) (ci := 1) (C := RX1) (T := TX1) (N := 8) hx hb hT inX1 hown hK hP 0 rfl rfl 5 (by decide) (hT _ tb_407) (fun _ h9 => h9) rfl dX1_times_211 ?_
                    refine lv_iload hx hb dX1_times_214 (lv_at hl 8 rfl) ?_
                    refine va_lald hx hb hK hP 4 1 rfl rfl (iZ_in (by omega) (by omega) (by decide)) dX1_times_216 ?_
                    refine zl_as (a := U 3 ((i4).toNat)) (by rw [iZ_cl (by omega) (by omega)]) ?_
                    refine zl_mul hx hb dX1_times_217 ?_
                    refine zl_top (fun v18 ev18 => ?_)
                    have hvv : v18 = V 0 ((f * 72).toNat + i.toNat) * V 0 ((g * 72).toNat + i4.toNat) := by
                      rw [ev18, hpu, hqi]
                    have hnz : V 0 ((f * 72).toNat + i.toNat) * V 0 ((g * 72).toNat + i4.toNat) ≠ 0 := Int.mul_ne_zero (by omega) (by omega)
                    refine zl_add hx hb dX1_times_218 ?_
                    refine zl_ldc hx hb 32003 hown (hT _ tb_448) (by decide) dX1_times_219 ?_
                    refine zl_rem hx hb dX1_times_222 (by omega) (by omega) ?_
                    have hxx : (Int.tmod ((U 4 (v17).toNat) + v18) 32003 : Int) = (U 4 (v17).toNat + V 0 ((f * 72).toNat + i.toNat) * V 0 ((g * 72).toNat + i4.toNat)) % 32003 := by
                      rw [← hvv]
                      exact tmP (by omega)
                    refine mm_l hx hb hK hP hd hA hS 4 304 rfl (fun g => rfl) (by omega) dX1_times_223 (fun H locs hP hS => ?_)
                    obtain ⟨V19, eV19⟩ : ∃ Z : Nat → Nat → Int, Z = sV U 4 (uZ (U 4) (v17).toNat (Int.tmod ((U 4 (v17).toNat) + v18) 32003)) := ⟨_, rfl⟩
                    rw [← eV19] at hP
                    refine zi_inc (lv' := [(4, .int (iZ (i4 + 1))), (8, .int (iZ v17)), (7, .int (iZ v16)), (6, .int (iZ v7)), (5, .int (iZ v6)), (0, .ref mo), (1, .int (iZ f)), (2, .int (iZ g)), (3, .int (iZ i))]) hx hb dX1_times_224 hl (k := 8) rfl (by decide) rfl (fun ls hl => ?_)
                    refine lv_goto (tgt := 100) hx hb dX1_times_227 (by decide) ?_
                    exact ih100 (m100 - 1) (V19, i4 + 1) (by omega) (by (try dsimp only); exact ⟨by omega, by omega, by rw [eV19, sV_a, am_go (by omega), hxx]; exact rw_step hI100.2.2.1 hrl.1 (by rw [(jCz (i := i4) (by omega)).1, (jCz (i := i) (by omega)).1]; exact hrl.2) (by omega) (by omega) hnz, by rw [eV19, sV_b (by decide)]; exact hI100.2.2.2.1, by rw [eV19, sV_b (by decide)]; exact hI100.2.2.2.2.1, by rw [eV19, sV_b (by decide)]; exact hI100.2.2.2.2.2⟩) _ _ hP hS ls (lv_sub hl [5, 6, 7, 8, 0] rfl)
              · refine lv_goto (tgt := 224) hx hb dX1_times_119 (by decide) ?_
                refine zi_inc (lv' := [(4, .int (iZ (i4 + 1))), (0, .ref mo), (1, .int (iZ f)), (2, .int (iZ g)), (3, .int (iZ i))]) hx hb dX1_times_224 hl (k := 4) rfl (by decide) rfl (fun ls hl => ?_)
                refine lv_goto (tgt := 100) hx hb dX1_times_227 (by decide) ?_
                exact ih100 (m100 - 1) (U, i4 + 1) (by omega) (by (try dsimp only); exact ⟨by omega, by omega, by rw [am_skip (by omega) (by omega)]; exact hI100.2.2.1, hI100.2.2.2⟩) _ _ hP hS ls (lv_sub hl [1, 2, 3, 4, 0] rfl)
          · refine lv_goto (tgt := 230) hx hb dX1_times_94 (by decide) ?_
            refine zi_inc (lv' := [(3, .int (iZ (i + 1))), (0, .ref mo), (1, .int (iZ f)), (2, .int (iZ g))]) hx hb dX1_times_230 hl (k := 3) rfl (by decide) rfl (fun ls hl => ?_)
            refine lv_goto (tgt := 77) hx hb dX1_times_233 (by decide) ?_
            exact ih77 (m77 - 1) (Y, i + 1) (by omega) (by (try dsimp only); exact ⟨by omega, by omega, by rw [sp_go (by omega), if_pos (by omega)]; exact hI77.2.2.1, hI77.2.2.2⟩) _ _ hP hS ls (lv_sub hl [1, 2, 3, 0] rfl)
      · refine lv_aload_n hx hb dX1_times_52 rfl (lv_at hl 0 rfl) ?_
        refine lv_aload_n hx hb dX1_times_53 rfl (lv_at hl 0 rfl) ?_
        refine va_get (D := D) (ci := 1) (C := RX1) (T := TX1) (N := 8) hx hb hT inX1 hown hK hP 0 rfl rfl 5 (by decide) (hT _ tb_407) (fun _ h9 => h9) rfl dX1_times_54 ?_
        refine zi_const hx hb 1 dX1_times_57 ?_
        refine zi_const hx hb 4 dX1_times_58 ?_
        refine rd_V (As := [.ref (na 3), .int (iZ ((1 : Int))), .int (iZ ((4 : Int)))]) (rest := []) (st1 := [.int (iZ (hsZ (V1 3) (((1 : Int)) * 9).toNat ((((4 : Int)) - ((1 : Int))) * 9).toNat))]) S (k3_X1_has l D mo na cI cJ 0 k V1 ((1 : Int)) ((4 : Int)) (by omega) hp3) tb_479 tb_481 ts_X1_has tb_2 tb_482 hd_X1_has ⟨rfl, rfl, by decide, by decide⟩ rM_bl (rM_mv hP hK) (va_recv hK hP (ci := 1) (q0 := 0) rfl rfl) rfl hl.1 rfl (Nat.le_of_ble_eq_true rfl) dX1_times_59 ⟨Nat.zero_le _, Nat.zero_le _⟩ rfl ?_
        refine zi_feq (tgt := 71) hx hb dX1_times_62 (by decide) (by omega) (fun hc62 => ?_) (fun hc62 => ?_)
        · refine lv_aload_n hx hb dX1_times_71 rfl (lv_at hl 0 rfl) ?_
          refine wm_V (As := []) (rest := []) (st1 := []) (c1 := 0) (k1 := k) S (k_X1_start l D mo na cI cJ 0 k V1  hd ) tb_487 tb_489 ts_X1_start tb_2 tb_490 hd_X1_start ⟨rfl, rfl, by decide, by decide⟩ hP hK hS hA hAn rfl hl.1 rfl (Nat.le_of_ble_eq_true rfl) dX1_times_72 ⟨Nat.zero_le _, Nat.zero_le _⟩ rfl (fun V20 H locs hRV20 hP hS _ _ => ?_)
          refine zi_const hx hb 0 dX1_times_75 ?_
          refine lv_istore_n (lv' := [(3, .int (iZ 0)), (0, .ref mo), (1, .int (iZ f)), (2, .int (iZ g))]) hx hb dX1_times_76 rfl hl (by decide) rfl (fun ls hl => ?_)
          refine lp_goM (nL := 9) (α := (Nat → Nat → Int) × Int) (fun z => [(0, .ref mo), (1, .int (iZ f)), (2, .int (iZ g)), (3, .int (iZ z.2))]) (fun _ => 0) (fun _ => k) (fun z => z.1) (fun m77 z => 0 ≤ z.2 ∧ z.2 + (m77 : Int) = 72 ∧ rwR (z.1 4) (spZ (V 0) G f g z.2.toNat) ∧ z.1 2 = V1 2 ∧ z.1 3 = V1 3 ∧ z.1 0 = V 0) ?_ 72 (V20, (0 : Int)) (by (try dsimp only); exact ⟨by omega, by omega, rw_0 hRV20.1 (fun j hj => (by show fiZ G 0 255 (fun _ => (0 : Int)) j = 0; unfold fiZ; rw [if_pos (by omega)])), hRV20.2 2 (by decide), hRV20.2 3 (by decide), (hRV20.2 0 (by decide)).trans hRV1.2.2⟩) _ _ hP hS ls (lv_sub hl [1, 2, 3, 0] rfl)
          intro m77 z21 hI77 ih77 H locs hP hS ls hl
          obtain ⟨Y, i⟩ := z21
          have hl : lv_has ls 9 [(0, .ref mo), (1, .int (iZ f)), (2, .int (iZ g)), (3, .int (iZ i))] := hl
          have hI77 : 0 ≤ i ∧ i + (m77 : Int) = 72 ∧ rwR (Y 4) (spZ (V 0) G f g i.toNat) ∧ Y 2 = V1 2 ∧ Y 3 = V1 3 ∧ Y 0 = V 0 := hI77
          have hP : va_P D vwCl (mX mo na cI cJ 0 k Y) H := hP
          refine lv_iload_n hx hb dX1_times_77 rfl (lv_at hl 3 rfl) ?_
          refine zi_bi hx hb 72 dX1_times_78 (by decide) ?_
          refine zi_cge (tgt := 236) hx hb dX1_times_80 (by decide) (by omega) (by omega) (fun hc80 => ?_) (fun hc80 => ?_)
          · have hsp : rwR (Y 4) (spZ (V 0) G f g 72) := (show i.toNat = 72 by omega) ▸ hI77.2.2.1
            refine lv_aload_n hx hb dX1_times_236 rfl (lv_at hl 0 rfl) ?_
            refine wm_V (As := []) (rest := []) (st1 := [.int (iZ 0)]) (c1 := 2) (k1 := k) S (kF_X1_narrow l D mo na cI cJ 0 k Y  hd (by omega) hsp.1 (fun q => by have := (rw_ok hsp).mp q; omega)) tb_494 tb_496 ts_X1_narrow tb_2 tb_497 hd_X1_narrow ⟨rfl, rfl, by decide, by decide⟩ hP hK hS hA hAn rfl hl.1 rfl (Nat.le_of_ble_eq_true rfl) dX1_times_237 ⟨Nat.zero_le _, Nat.zero_le _⟩ rfl (fun V22 H locs hRV22 hP hS _ _ => ?_)
            exact wm_iret hx hb hr hlk hP ((show V22 0 = V 0 from hRV22.trans hI77.2.2.2.2.2)) rfl rfl hS (congrArg (fun z => some (Value.int (iZ z))) (show (0 : Int) = 0 from rfl)) dX1_times_240
          · have hpi : Y 2 i.toNat = V 0 ((f * 72).toNat + i.toNat) := by
              rw [hI77.2.2.2.1]
              exact hRV1.1 _ (by omega)
            have hpr := hN ((f * 72).toNat + i.toNat)
            refine lv_aload_n hx hb dX1_times_83 rfl (lv_at hl 0 rfl) ?_
            refine va_get (D := D) (ci := 1) (C := RX1) (T := TX1) (N := 8) hx hb hT inX1 hown hK hP 0 rfl rfl 4 (by decide) (hT _ tb_406) (fun _ h9 => h9) rfl dX1_times_84 ?_
            refine lv_iload_n hx hb dX1_times_87 rfl (lv_at hl 3 rfl) ?_
            refine va_lald hx hb hK hP 3 1 rfl rfl (iZ_in (by omega) (by omega) (by decide)) dX1_times_88 ?_
            refine zl_as (a := Y 2 ((i).toNat)) (by rw [iZ_cl (by omega) (by omega)]) ?_
            refine zl_const hx hb 0 dX1_times_89 (by decide) ?_
            refine zl_cne (tgt := 97) hx hb dX1_times_90 dX1_times_91 (by decide) (by omega) (by omega) (fun hc90 => ?_) (fun hc90 => ?_)
            · refine zi_const hx hb 0 dX1_times_97 ?_
              refine lv_istore (lv' := [(4, .int (iZ 0)), (0, .ref mo), (1, .int (iZ f)), (2, .int (iZ g)), (3, .int (iZ i))]) hx hb dX1_times_98 hl (by decide) rfl (fun ls hl => ?_)
              refine lp_goM (nL := 9) (α := (Nat → Nat → Int) × Int) (fun z => [(0, .ref mo), (1, .int (iZ f)), (2, .int (iZ g)), (3, .int (iZ i)), (4, .int (iZ z.2))]) (fun _ => 0) (fun _ => k) (fun z => z.1) (fun m100 z => 0 ≤ z.2 ∧ z.2 + (m100 : Int) = 72 ∧ rwR (z.1 4) (amZ (V 0) (spZ (V 0) G f g i.toNat) g (jC i.toNat) (jN i.toNat) (V 0 ((f * 72).toNat + i.toNat)) z.2.toNat) ∧ z.1 2 = V1 2 ∧ z.1 3 = V1 3 ∧ z.1 0 = V 0) ?_ 72 (Y, (0 : Int)) (by (try dsimp only); exact ⟨by omega, by omega, hI77.2.2.1, hI77.2.2.2⟩) _ _ hP hS ls (lv_sub hl [1, 2, 3, 4, 0] rfl)
              intro m100 z23 hI100 ih100 H locs hP hS ls hl
              obtain ⟨U, i4⟩ := z23
              have hl : lv_has ls 9 [(0, .ref mo), (1, .int (iZ f)), (2, .int (iZ g)), (3, .int (iZ i)), (4, .int (iZ i4))] := hl
              have hI100 : 0 ≤ i4 ∧ i4 + (m100 : Int) = 72 ∧ rwR (U 4) (amZ (V 0) (spZ (V 0) G f g i.toNat) g (jC i.toNat) (jN i.toNat) (V 0 ((f * 72).toNat + i.toNat)) i4.toNat) ∧ U 2 = V1 2 ∧ U 3 = V1 3 ∧ U 0 = V 0 := hI100
              have hP : va_P D vwCl (mX mo na cI cJ 0 k U) H := hP
              refine lv_iload hx hb dX1_times_100 (lv_at hl 4 rfl) ?_
              refine zi_bi hx hb 72 dX1_times_102 (by decide) ?_
              refine zi_cge (tgt := 230) hx hb dX1_times_104 (by decide) (by omega) (by omega) (fun hc104 => ?_) (fun hc104 => ?_)
              · refine zi_inc (lv' := [(3, .int (iZ (i + 1))), (0, .ref mo), (1, .int (iZ f)), (2, .int (iZ g)), (4, .int (iZ i4))]) hx hb dX1_times_230 hl (k := 3) rfl (by decide) rfl (fun ls hl => ?_)
                refine lv_goto (tgt := 77) hx hb dX1_times_233 (by decide) ?_
                exact ih77 (m77 - 1) (U, i + 1) (by omega) (by (try dsimp only); exact ⟨by omega, by omega, by rw [sp_go (by omega), if_neg (by omega)]; exact (show i4.toNat = 72 by omega) ▸ hI100.2.2.1, hI100.2.2.2⟩) _ _ hP hS ls (lv_sub hl [1, 2, 3, 0] rfl)
              · have hqi : U 3 i4.toNat = V 0 ((g * 72).toNat + i4.toNat) := by
                  rw [hI100.2.2.2.2.1]
                  exact hRV1.2.1 _ (by omega)
                have hpu : U 2 i.toNat = V 0 ((f * 72).toNat + i.toNat) := by
                  rw [hI100.2.2.2.1]
                  exact hRV1.1 _ (by omega)
                have hqr := hN ((g * 72).toNat + i4.toNat)
                refine lv_aload_n hx hb dX1_times_107 rfl (lv_at hl 0 rfl) ?_
                refine va_get (D := D) (ci := 1) (C := RX1) (T := TX1) (N := 8) hx hb hT inX1 hown hK hP 0 rfl rfl 5 (by decide) (hT _ tb_407) (fun _ h9 => h9) rfl dX1_times_108 ?_
                refine lv_iload hx hb dX1_times_111 (lv_at hl 4 rfl) ?_
                refine va_lald hx hb hK hP 4 1 rfl rfl (iZ_in (by omega) (by omega) (by decide)) dX1_times_113 ?_
                refine zl_as (a := U 3 ((i4).toNat)) (by rw [iZ_cl (by omega) (by omega)]) ?_
                refine zl_const hx hb 0 dX1_times_114 (by decide) ?_
                refine zl_cne (tgt := 122) hx hb dX1_times_115 dX1_times_116 (by decide) (by omega) (by omega) (fun hc115 => ?_) (fun hc115 => ?_)
                · have t1 := td9 (n := i) (by omega)
                  have t2 := td9 (n := i4) (by omega)
                  have t3 := tm9 (n := i) (by omega)
                  have t4 := tm9 (n := i4) (by omega)
                  have j1 := jCz (i := i) (by omega)
                  have j2 := jCz (i := i4) (by omega)
                  have hl1 : ¬ (1 ≤ i / 9 ∧ i / 9 < 4 ∧ 4 ≤ i4 / 9) := fun q => lm_leg h0.1 (i := i.toNat) (k := i4.toNat) (by omega) (by omega) (by omega) (by omega) (by omega) (by omega)
                  have hl2 : ¬ (4 ≤ i / 9 ∧ 1 ≤ i4 / 9 ∧ i4 / 9 < 4) := fun q => lm_leg h0.2 (i := i4.toNat) (k := i.toNat) (by omega) (by omega) (by omega) (by omega) (by omega) (by omega)
                  have hmr := mul_rng hpr hqr
                  refine lv_iload_n hx hb dX1_times_122 rfl (lv_at hl 3 rfl) ?_
                  refine zi_bi hx hb 9 dX1_times_123 (by decide) ?_
                  refine zi_div hx hb dX1_times_125 (by omega) (by omega) ?_
                  refine zi_top (fun v24 ev24 => ?_)
                  refine lv_istore (lv' := [(5, .int (iZ v24)), (0, .ref mo), (1, .int (iZ f)), (2, .int (iZ g)), (3, .int (iZ i)), (4, .int (iZ i4))]) hx hb dX1_times_126 hl (by decide) rfl (fun ls hl => ?_)
                  refine lv_iload hx hb dX1_times_128 (lv_at hl 5 rfl) ?_
                  refine zi_bi hx hb 9 dX1_times_130 (by decide) ?_
                  refine zi_div hx hb dX1_times_132 (by omega) (by omega) ?_
                  refine zi_top (fun v25 ev25 => ?_)
                  refine lv_istore (lv' := [(6, .int (iZ v25)), (5, .int (iZ v24)), (0, .ref mo), (1, .int (iZ f)), (2, .int (iZ g)), (3, .int (iZ i)), (4, .int (iZ i4))]) hx hb dX1_times_133 hl (by decide) rfl (fun ls hl => ?_)
                  refine lv_iload hx hb dX1_times_135 (lv_at hl 1 rfl) ?_
                  refine zi_const hx hb 4 dX1_times_137 ?_
                  refine zi_cge (tgt := 155) hx hb dX1_times_138 (by decide) (by omega) (by omega) (fun hc138 => ?_) (fun hc138 => ?_)
                  · refine zi_bi hx hb 11 dX1_times_155 (by decide) ?_
                    refine lv_iload hx hb dX1_times_157 (lv_at hl 1 rfl) ?_
                    refine rd_S (As := [.int (iZ v24)]) (rest := [.int (iZ 11)]) (st1 := [.int (iZ (xpZ v24)), .int (iZ 11)]) S (k_X1_exponent l v24 (by omega)) tb_491 tb_492 tb_2 tb_493 hd_X1_exponent ⟨rfl, rfl, by decide, by decide⟩ bl_T (fun _ _ _ => trivial) rfl hl.1 rfl (Nat.le_of_ble_eq_true rfl) dX1_times_159 ⟨Nat.zero_le _, Nat.zero_le _⟩ rfl ?_
                    have hxe162 : xpZ v24 = (if v24 < 4 then 0 else if v24 < 6 then v24 - 6 else v24 - 5) := rfl
                    refine zi_add hx hb dX1_times_162 ?_
                    refine lv_iload hx hb dX1_times_163 (lv_at hl 0 rfl) ?_
                    refine rd_S (As := [.int (iZ v25)]) (rest := [.int (iZ (11 + (xpZ v24)))]) (st1 := [.int (iZ (xpZ v25)), .int (iZ (11 + (xpZ v24)))]) S (k_X1_exponent l v25 (by omega)) tb_491 tb_492 tb_2 tb_493 hd_X1_exponent ⟨rfl, rfl, by decide, by decide⟩ bl_T (fun _ _ _ => trivial) rfl hl.1 rfl (Nat.le_of_ble_eq_true rfl) dX1_times_165 ⟨Nat.zero_le _, Nat.zero_le _⟩ rfl ?_
                    have hxe168 : xpZ v25 = (if v25 < 4 then 0 else if v25 < 6 then v25 - 6 else v25 - 5) := rfl
                    refine zi_add hx hb dX1_times_168 ?_
                    refine zi_top (fun v26 ev26 => ?_)
                    refine lv_istore (lv' := [(7, .int (iZ v26)), (6, .int (iZ v25)), (5, .int (iZ v24)), (0, .ref mo), (1, .int (iZ f)), (2, .int (iZ g)), (3, .int (iZ i)), (4, .int (iZ i4))]) hx hb dX1_times_169 hl (by decide) rfl (fun ls hl => ?_)
                    have hrl := rw_lz (a := v24) (b := v25) (row := v26) (by omega) (by omega) (by omega) (by omega) (by rw [ev26]; first | rw [if_pos (by omega)] | rw [if_neg (by omega)])
                    rw [show v24 = i / 9 by omega, show v25 = i4 / 9 by omega] at hrl
                    refine zi_bi hx hb 19 dX1_times_171 (by decide) ?_
                    refine lv_iload hx hb dX1_times_173 (lv_at hl 0 rfl) ?_
                    refine zi_mul hx hb dX1_times_175 ?_
                    refine lv_iload_n hx hb dX1_times_176 rfl (lv_at hl 6 rfl) ?_
                    refine zi_bi hx hb 9 dX1_times_177 (by decide) ?_
                    refine zi_rem hx hb dX1_times_179 (by omega) (by omega) ?_
                    refine zi_add hx hb dX1_times_180 ?_
                    refine lv_iload hx hb dX1_times_181 (lv_at hl 7 rfl) ?_
                    refine zi_bi hx hb 9 dX1_times_183 (by decide) ?_
                    refine zi_rem hx hb dX1_times_185 (by omega) (by omega) ?_
                    refine zi_add hx hb dX1_times_186 ?_
                    refine zi_const hx hb 1 dX1_times_187 ?_
                    refine zi_add hx hb dX1_times_188 ?_
                    refine zi_top (fun v27 ev27 => ?_)
                    refine lv_istore (lv' := [(8, .int (iZ v27)), (7, .int (iZ v26)), (6, .int (iZ v25)), (5, .int (iZ v24)), (0, .ref mo), (1, .int (iZ f)), (2, .int (iZ g)), (3, .int (iZ i)), (4, .int (iZ i4))]) hx hb dX1_times_189 hl (by decide) rfl (fun ls hl => ?_)
                    have hur := hI100.2.2.1.1 (v27).toNat (by omega)
                    refine lv_aload_n hx hb dX1_times_191 rfl (lv_at hl 4 rfl) ?_
                    refine va_get (D := D) (ci := 1) (C := RX1) (T := TX1) (N := 8) hx hb hT inX1 hown hK hP 0 rfl rfl 6 (by decide) (hT _ tb_408) (fun _ h9 => h9) rfl dX1_times_192 ?_
                    refine lv_iload hx hb dX1_times_195 (lv_at hl 0 rfl) ?_
                    refine lv_aload_n hx hb dX1_times_197 rfl (lv_at hl 4 rfl) ?_
                    refine va_get (D := D) (ci := 1) (C := RX1) (T := TX1) (N := 8) hx hb hT inX1 hown hK hP 0 rfl rfl 6 (by decide) (hT _ tb_408) (fun _ h9 => h9) rfl dX1_times_198 ?_
                    refine lv_iload hx hb dX1_times_201 (lv_at hl 0 rfl) ?_
                    refine va_lald hx hb hK hP 5 1 rfl rfl (iZ_in (by omega) (by omega) (by decide)) dX1_times_203 ?_
                    refine zl_as (a := U 4 ((v27).toNat)) (by rw [iZ_cl (by omega) (by omega)]) ?_
                    refine lv_aload_n hx hb dX1_times_204 rfl (lv_at hl 4 rfl) ?_
                    refine va_get (D := D) (ci := 1) (C := RX1) (T := TX1) (N := 8) hx hb hT inX1 hown hK hP 0 rfl rfl 4 (by decide) (hT _ tb_406) (fun _ h9 => h9) rfl dX1_times_205 ?_
                    refine lv_iload_n hx hb dX1_times_208 rfl (lv_at hl 7 rfl) ?_
                    refine va_lald hx hb hK hP 3 1 rfl rfl (iZ_in (by omega) (by omega) (by decide)) dX1_times_209 ?_
                    refine zl_as (a := U 2 ((i).toNat)) (by rw [iZ_cl (by omega) (by omega)]) ?_
                    refine lv_aload_n hx hb dX1_times_210 rfl (lv_at hl 4 rfl) ?_
                    refine va_get (D := D) (ci := 1) (C := RX1) (T := TX1) (N := 8) hx hb hT inX1 hown hK hP 0 rfl rfl 5 (by decide) (hT _ tb_407) (fun _ h9 => h9) rfl dX1_times_211 ?_
                    refine lv_iload hx hb dX1_times_214 (lv_at hl 8 rfl) ?_
                    refine va_lald hx hb hK hP 4 1 rfl rfl (iZ_in (by omega) (by omega) (by decide)) dX1_times_216 ?_
                    refine zl_as (a := U 3 ((i4).toNat)) (by rw [iZ_cl (by omega) (by omega)]) ?_
                    refine zl_mul hx hb dX1_times_217 ?_
                    refine zl_top (fun v28 ev28 => ?_)
                    have hvv : v28 = V 0 ((f * 72).toNat + i.toNat) * V 0 ((g * 72).toNat + i4.toNat) := by
                      rw [ev28, hpu, hqi]
                    have hnz : V 0 ((f * 72).toNat + i.toNat) * V 0 ((g * 72).toNat + i4.toNat) ≠ 0 := Int.mul_ne_zero (by omega) (by omega)
                    refine zl_add hx hb dX1_times_218 ?_
                    refine zl_ldc hx hb 32003 hown (hT _ tb_448) (by decide) dX1_times_219 ?_
                    refine zl_rem hx hb dX1_times_222 (by omega) (by omega) ?_
                    have hxx : (Int.tmod ((U 4 (v27).toNat) + v28) 32003 : Int) = (U 4 (v27).toNat + V 0 ((f * 72).toNat + i.toNat) * V 0 ((g * 72).toNat + i4.toNat)) % 32003 := by
                      rw [← hvv]
                      exact tmP (by omega)
                    refine mm_l hx hb hK hP hd hA hS 4 304 rfl (fun g => rfl) (by omega) dX1_times_223 (fun H locs hP hS => ?_)
                    obtain ⟨V29, eV29⟩ : ∃ Z : Nat → Nat → Int, Z = sV U 4 (uZ (U 4) (v27).toNat (Int.tmod ((U 4 (v27).toNat) + v28) 32003)) := ⟨_, rfl⟩
                    rw [← eV29] at hP
                    refine zi_inc (lv' := [(4, .int (iZ (i4 + 1))), (8, .int (iZ v27)), (7, .int (iZ v26)), (6, .int (iZ v25)), (5, .int (iZ v24)), (0, .ref mo), (1, .int (iZ f)), (2, .int (iZ g)), (3, .int (iZ i))]) hx hb dX1_times_224 hl (k := 8) rfl (by decide) rfl (fun ls hl => ?_)
                    refine lv_goto (tgt := 100) hx hb dX1_times_227 (by decide) ?_
                    exact ih100 (m100 - 1) (V29, i4 + 1) (by omega) (by (try dsimp only); exact ⟨by omega, by omega, by rw [eV29, sV_a, am_go (by omega), hxx]; exact rw_step hI100.2.2.1 hrl.1 (by rw [(jCz (i := i4) (by omega)).1, (jCz (i := i) (by omega)).1]; exact hrl.2) (by omega) (by omega) hnz, by rw [eV29, sV_b (by decide)]; exact hI100.2.2.2.1, by rw [eV29, sV_b (by decide)]; exact hI100.2.2.2.2.1, by rw [eV29, sV_b (by decide)]; exact hI100.2.2.2.2.2⟩) _ _ hP hS ls (lv_sub hl [5, 6, 7, 8, 0] rfl)
                  · refine lv_iload hx hb dX1_times_141 (lv_at hl 0 rfl) ?_
                    refine zi_const hx hb 4 dX1_times_143 ?_
                    refine zi_cge (tgt := 155) hx hb dX1_times_144 (by decide) (by omega) (by omega) (fun hc144 => ?_) (fun hc144 => ?_)
                    · refine zi_bi hx hb 11 dX1_times_155 (by decide) ?_
                      refine lv_iload hx hb dX1_times_157 (lv_at hl 1 rfl) ?_
                      refine rd_S (As := [.int (iZ v24)]) (rest := [.int (iZ 11)]) (st1 := [.int (iZ (xpZ v24)), .int (iZ 11)]) S (k_X1_exponent l v24 (by omega)) tb_491 tb_492 tb_2 tb_493 hd_X1_exponent ⟨rfl, rfl, by decide, by decide⟩ bl_T (fun _ _ _ => trivial) rfl hl.1 rfl (Nat.le_of_ble_eq_true rfl) dX1_times_159 ⟨Nat.zero_le _, Nat.zero_le _⟩ rfl ?_
                      have hxe162 : xpZ v24 = (if v24 < 4 then 0 else if v24 < 6 then v24 - 6 else v24 - 5) := rfl
                      refine zi_add hx hb dX1_times_162 ?_
                      refine lv_iload hx hb dX1_times_163 (lv_at hl 0 rfl) ?_
                      refine rd_S (As := [.int (iZ v25)]) (rest := [.int (iZ (11 + (xpZ v24)))]) (st1 := [.int (iZ (xpZ v25)), .int (iZ (11 + (xpZ v24)))]) S (k_X1_exponent l v25 (by omega)) tb_491 tb_492 tb_2 tb_493 hd_X1_exponent ⟨rfl, rfl, by decide, by decide⟩ bl_T (fun _ _ _ => trivial) rfl hl.1 rfl (Nat.le_of_ble_eq_true rfl) dX1_times_165 ⟨Nat.zero_le _, Nat.zero_le _⟩ rfl ?_
                      have hxe168 : xpZ v25 = (if v25 < 4 then 0 else if v25 < 6 then v25 - 6 else v25 - 5) := rfl
                      refine zi_add hx hb dX1_times_168 ?_
                      refine zi_top (fun v30 ev30 => ?_)
                      refine lv_istore (lv' := [(7, .int (iZ v30)), (6, .int (iZ v25)), (5, .int (iZ v24)), (0, .ref mo), (1, .int (iZ f)), (2, .int (iZ g)), (3, .int (iZ i)), (4, .int (iZ i4))]) hx hb dX1_times_169 hl (by decide) rfl (fun ls hl => ?_)
                      have hrl := rw_lz (a := v24) (b := v25) (row := v30) (by omega) (by omega) (by omega) (by omega) (by rw [ev30]; first | rw [if_pos (by omega)] | rw [if_neg (by omega)])
                      rw [show v24 = i / 9 by omega, show v25 = i4 / 9 by omega] at hrl
                      refine zi_bi hx hb 19 dX1_times_171 (by decide) ?_
                      refine lv_iload hx hb dX1_times_173 (lv_at hl 0 rfl) ?_
                      refine zi_mul hx hb dX1_times_175 ?_
                      refine lv_iload_n hx hb dX1_times_176 rfl (lv_at hl 6 rfl) ?_
                      refine zi_bi hx hb 9 dX1_times_177 (by decide) ?_
                      refine zi_rem hx hb dX1_times_179 (by omega) (by omega) ?_
                      refine zi_add hx hb dX1_times_180 ?_
                      refine lv_iload hx hb dX1_times_181 (lv_at hl 7 rfl) ?_
                      refine zi_bi hx hb 9 dX1_times_183 (by decide) ?_
                      refine zi_rem hx hb dX1_times_185 (by omega) (by omega) ?_
                      refine zi_add hx hb dX1_times_186 ?_
                      refine zi_const hx hb 1 dX1_times_187 ?_
                      refine zi_add hx hb dX1_times_188 ?_
                      refine zi_top (fun v31 ev31 => ?_)
                      refine lv_istore (lv' := [(8, .int (iZ v31)), (7, .int (iZ v30)), (6, .int (iZ v25)), (5, .int (iZ v24)), (0, .ref mo), (1, .int (iZ f)), (2, .int (iZ g)), (3, .int (iZ i)), (4, .int (iZ i4))]) hx hb dX1_times_189 hl (by decide) rfl (fun ls hl => ?_)
                      have hur := hI100.2.2.1.1 (v31).toNat (by omega)
                      refine lv_aload_n hx hb dX1_times_191 rfl (lv_at hl 4 rfl) ?_
                      refine va_get (D := D) (ci := 1) (C := RX1) (T := TX1) (N := 8) hx hb hT inX1 hown hK hP 0 rfl rfl 6 (by decide) (hT _ tb_408) (fun _ h9 => h9) rfl dX1_times_192 ?_
                      refine lv_iload hx hb dX1_times_195 (lv_at hl 0 rfl) ?_
                      refine lv_aload_n hx hb dX1_times_197 rfl (lv_at hl 4 rfl) ?_
                      refine va_get (D := D) (ci := 1) (C := RX1) (T := TX1) (N := 8) hx hb hT inX1 hown hK hP 0 rfl rfl 6 (by decide) (hT _ tb_408) (fun _ h9 => h9) rfl dX1_times_198 ?_
                      refine lv_iload hx hb dX1_times_201 (lv_at hl 0 rfl) ?_
                      refine va_lald hx hb hK hP 5 1 rfl rfl (iZ_in (by omega) (by omega) (by decide)) dX1_times_203 ?_
                      refine zl_as (a := U 4 ((v31).toNat)) (by rw [iZ_cl (by omega) (by omega)]) ?_
                      refine lv_aload_n hx hb dX1_times_204 rfl (lv_at hl 4 rfl) ?_
                      refine va_get (D := D) (ci := 1) (C := RX1) (T := TX1) (N := 8) hx hb hT inX1 hown hK hP 0 rfl rfl 4 (by decide) (hT _ tb_406) (fun _ h9 => h9) rfl dX1_times_205 ?_
                      refine lv_iload_n hx hb dX1_times_208 rfl (lv_at hl 7 rfl) ?_
                      refine va_lald hx hb hK hP 3 1 rfl rfl (iZ_in (by omega) (by omega) (by decide)) dX1_times_209 ?_
                      refine zl_as (a := U 2 ((i).toNat)) (by rw [iZ_cl (by omega) (by omega)]) ?_
                      refine lv_aload_n hx hb dX1_times_210 rfl (lv_at hl 4 rfl) ?_
                      refine va_get (D := D) (ci := 1) (C := RX1) (T := TX1) (N := 8) hx hb hT inX1 hown hK hP 0 rfl rfl 5 (by decide) (hT _ tb_407) (fun _ h9 => h9) rfl dX1_times_211 ?_
                      refine lv_iload hx hb dX1_times_214 (lv_at hl 8 rfl) ?_
                      refine va_lald hx hb hK hP 4 1 rfl rfl (iZ_in (by omega) (by omega) (by decide)) dX1_times_216 ?_
                      refine zl_as (a := U 3 ((i4).toNat)) (by rw [iZ_cl (by omega) (by omega)]) ?_
                      refine zl_mul hx hb dX1_times_217 ?_
                      refine zl_top (fun v32 ev32 => ?_)
                      have hvv : v32 = V 0 ((f * 72).toNat + i.toNat) * V 0 ((g * 72).toNat + i4.toNat) := by
                        rw [ev32, hpu, hqi]
                      have hnz : V 0 ((f * 72).toNat + i.toNat) * V 0 ((g * 72).toNat + i4.toNat) ≠ 0 := Int.mul_ne_zero (by omega) (by omega)
                      refine zl_add hx hb dX1_times_218 ?_
                      refine zl_ldc hx hb 32003 hown (hT _ tb_448) (by decide) dX1_times_219 ?_
                      refine zl_rem hx hb dX1_times_222 (by omega) (by omega) ?_
                      have hxx : (Int.tmod ((U 4 (v31).toNat) + v32) 32003 : Int) = (U 4 (v31).toNat + V 0 ((f * 72).toNat + i.toNat) * V 0 ((g * 72).toNat + i4.toNat)) % 32003 := by
                        rw [← hvv]
                        exact tmP (by omega)
                      refine mm_l hx hb hK hP hd hA hS 4 304 rfl (fun g => rfl) (by omega) dX1_times_223 (fun H locs hP hS => ?_)
                      obtain ⟨V33, eV33⟩ : ∃ Z : Nat → Nat → Int, Z = sV U 4 (uZ (U 4) (v31).toNat (Int.tmod ((U 4 (v31).toNat) + v32) 32003)) := ⟨_, rfl⟩
                      rw [← eV33] at hP
                      refine zi_inc (lv' := [(4, .int (iZ (i4 + 1))), (8, .int (iZ v31)), (7, .int (iZ v30)), (6, .int (iZ v25)), (5, .int (iZ v24)), (0, .ref mo), (1, .int (iZ f)), (2, .int (iZ g)), (3, .int (iZ i))]) hx hb dX1_times_224 hl (k := 8) rfl (by decide) rfl (fun ls hl => ?_)
                      refine lv_goto (tgt := 100) hx hb dX1_times_227 (by decide) ?_
                      exact ih100 (m100 - 1) (V33, i4 + 1) (by omega) (by (try dsimp only); exact ⟨by omega, by omega, by rw [eV33, sV_a, am_go (by omega), hxx]; exact rw_step hI100.2.2.1 hrl.1 (by rw [(jCz (i := i4) (by omega)).1, (jCz (i := i) (by omega)).1]; exact hrl.2) (by omega) (by omega) hnz, by rw [eV33, sV_b (by decide)]; exact hI100.2.2.2.1, by rw [eV33, sV_b (by decide)]; exact hI100.2.2.2.2.1, by rw [eV33, sV_b (by decide)]; exact hI100.2.2.2.2.2⟩) _ _ hP hS ls (lv_sub hl [5, 6, 7, 8, 0] rfl)
                    · refine lv_iload hx hb dX1_times_147 (lv_at hl 1 rfl) ?_
                      refine lv_iload hx hb dX1_times_149 (lv_at hl 0 rfl) ?_
                      refine zi_add hx hb dX1_times_151 ?_
                      refine lv_goto (tgt := 169) hx hb dX1_times_152 (by decide) ?_
                      refine zi_top (fun v34 ev34 => ?_)
                      refine lv_istore (lv' := [(7, .int (iZ v34)), (6, .int (iZ v25)), (5, .int (iZ v24)), (0, .ref mo), (1, .int (iZ f)), (2, .int (iZ g)), (3, .int (iZ i)), (4, .int (iZ i4))]) hx hb dX1_times_169 hl (by decide) rfl (fun ls hl => ?_)
                      have hrl := rw_lz (a := v24) (b := v25) (row := v34) (by omega) (by omega) (by omega) (by omega) (by rw [ev34]; first | rw [if_pos (by omega)] | rw [if_neg (by omega)])
                      rw [show v24 = i / 9 by omega, show v25 = i4 / 9 by omega] at hrl
                      refine zi_bi hx hb 19 dX1_times_171 (by decide) ?_
                      refine lv_iload hx hb dX1_times_173 (lv_at hl 0 rfl) ?_
                      refine zi_mul hx hb dX1_times_175 ?_
                      refine lv_iload_n hx hb dX1_times_176 rfl (lv_at hl 6 rfl) ?_
                      refine zi_bi hx hb 9 dX1_times_177 (by decide) ?_
                      refine zi_rem hx hb dX1_times_179 (by omega) (by omega) ?_
                      refine zi_add hx hb dX1_times_180 ?_
                      refine lv_iload hx hb dX1_times_181 (lv_at hl 7 rfl) ?_
                      refine zi_bi hx hb 9 dX1_times_183 (by decide) ?_
                      refine zi_rem hx hb dX1_times_185 (by omega) (by omega) ?_
                      refine zi_add hx hb dX1_times_186 ?_
                      refine zi_const hx hb 1 dX1_times_187 ?_
                      refine zi_add hx hb dX1_times_188 ?_
                      refine zi_top (fun v35 ev35 => ?_)
                      refine lv_istore (lv' := [(8, .int (iZ v35)), (7, .int (iZ v34)), (6, .int (iZ v25)), (5, .int (iZ v24)), (0, .ref mo), (1, .int (iZ f)), (2, .int (iZ g)), (3, .int (iZ i)), (4, .int (iZ i4))]) hx hb dX1_times_189 hl (by decide) rfl (fun ls hl => ?_)
                      have hur := hI100.2.2.1.1 (v35).toNat (by omega)
                      refine lv_aload_n hx hb dX1_times_191 rfl (lv_at hl 4 rfl) ?_
                      refine va_get (D := D) (ci := 1) (C := RX1) (T := TX1) (N := 8) hx hb hT inX1 hown hK hP 0 rfl rfl 6 (by decide) (hT _ tb_408) (fun _ h9 => h9) rfl dX1_times_192 ?_
                      refine lv_iload hx hb dX1_times_195 (lv_at hl 0 rfl) ?_
                      refine lv_aload_n hx hb dX1_times_197 rfl (lv_at hl 4 rfl) ?_
                      refine va_get (D := D) (ci := 1) (C := RX1) (T := TX1) (N := 8) hx hb hT inX1 hown hK hP 0 rfl rfl 6 (by decide) (hT _ tb_408) (fun _ h9 => h9) rfl dX1_times_198 ?_
                      refine lv_iload hx hb dX1_times_201 (lv_at hl 0 rfl) ?_
                      refine va_lald hx hb hK hP 5 1 rfl rfl (iZ_in (by omega) (by omega) (by decide)) dX1_times_203 ?_
                      refine zl_as (a := U 4 ((v35).toNat)) (by rw [iZ_cl (by omega) (by omega)]) ?_
                      refine lv_aload_n hx hb dX1_times_204 rfl (lv_at hl 4 rfl) ?_
                      refine va_get (D := D) (ci := 1) (C := RX1) (T := TX1) (N := 8) hx hb hT inX1 hown hK hP 0 rfl rfl 4 (by decide) (hT _ tb_406) (fun _ h9 => h9) rfl dX1_times_205 ?_
                      refine lv_iload_n hx hb dX1_times_208 rfl (lv_at hl 7 rfl) ?_
                      refine va_lald hx hb hK hP 3 1 rfl rfl (iZ_in (by omega) (by omega) (by decide)) dX1_times_209 ?_
                      refine zl_as (a := U 2 ((i).toNat)) (by rw [iZ_cl (by omega) (by omega)]) ?_
                      refine lv_aload_n hx hb dX1_times_210 rfl (lv_at hl 4 rfl) ?_
                      refine va_get (D := D) (ci := 1) (C := RX1) (T := TX1) (N := 8) hx hb hT inX1 hown hK hP 0 rfl rfl 5 (by decide) (hT _ tb_407) (fun _ h9 => h9) rfl dX1_times_211 ?_
                      refine lv_iload hx hb dX1_times_214 (lv_at hl 8 rfl) ?_
                      refine va_lald hx hb hK hP 4 1 rfl rfl (iZ_in (by omega) (by omega) (by decide)) dX1_times_216 ?_
                      refine zl_as (a := U 3 ((i4).toNat)) (by rw [iZ_cl (by omega) (by omega)]) ?_
                      refine zl_mul hx hb dX1_times_217 ?_
                      refine zl_top (fun v36 ev36 => ?_)
                      have hvv : v36 = V 0 ((f * 72).toNat + i.toNat) * V 0 ((g * 72).toNat + i4.toNat) := by
                        rw [ev36, hpu, hqi]
                      have hnz : V 0 ((f * 72).toNat + i.toNat) * V 0 ((g * 72).toNat + i4.toNat) ≠ 0 := Int.mul_ne_zero (by omega) (by omega)
                      refine zl_add hx hb dX1_times_218 ?_
                      refine zl_ldc hx hb 32003 hown (hT _ tb_448) (by decide) dX1_times_219 ?_
                      refine zl_rem hx hb dX1_times_222 (by omega) (by omega) ?_
                      have hxx : (Int.tmod ((U 4 (v35).toNat) + v36) 32003 : Int) = (U 4 (v35).toNat + V 0 ((f * 72).toNat + i.toNat) * V 0 ((g * 72).toNat + i4.toNat)) % 32003 := by
                        rw [← hvv]
                        exact tmP (by omega)
                      refine mm_l hx hb hK hP hd hA hS 4 304 rfl (fun g => rfl) (by omega) dX1_times_223 (fun H locs hP hS => ?_)
                      obtain ⟨V37, eV37⟩ : ∃ Z : Nat → Nat → Int, Z = sV U 4 (uZ (U 4) (v35).toNat (Int.tmod ((U 4 (v35).toNat) + v36) 32003)) := ⟨_, rfl⟩
                      rw [← eV37] at hP
                      refine zi_inc (lv' := [(4, .int (iZ (i4 + 1))), (8, .int (iZ v35)), (7, .int (iZ v34)), (6, .int (iZ v25)), (5, .int (iZ v24)), (0, .ref mo), (1, .int (iZ f)), (2, .int (iZ g)), (3, .int (iZ i))]) hx hb dX1_times_224 hl (k := 8) rfl (by decide) rfl (fun ls hl => ?_)
                      refine lv_goto (tgt := 100) hx hb dX1_times_227 (by decide) ?_
                      exact ih100 (m100 - 1) (V37, i4 + 1) (by omega) (by (try dsimp only); exact ⟨by omega, by omega, by rw [eV37, sV_a, am_go (by omega), hxx]; exact rw_step hI100.2.2.1 hrl.1 (by rw [(jCz (i := i4) (by omega)).1, (jCz (i := i) (by omega)).1]; exact hrl.2) (by omega) (by omega) hnz, by rw [eV37, sV_b (by decide)]; exact hI100.2.2.2.1, by rw [eV37, sV_b (by decide)]; exact hI100.2.2.2.2.1, by rw [eV37, sV_b (by decide)]; exact hI100.2.2.2.2.2⟩) _ _ hP hS ls (lv_sub hl [5, 6, 7, 8, 0] rfl)
                · refine lv_goto (tgt := 224) hx hb dX1_times_119 (by decide) ?_
                  refine zi_inc (lv' := [(4, .int (iZ (i4 + 1))), (0, .ref mo), (1, .int (iZ f)), (2, .int (iZ g)), (3, .int (iZ i))]) hx hb dX1_times_224 hl (k := 4) rfl (by decide) rfl (fun ls hl => ?_)
                  refine lv_goto (tgt := 100) hx hb dX1_times_227 (by decide) ?_
                  exact ih100 (m100 - 1) (U, i4 + 1) (by omega) (by (try dsimp only); exact ⟨by omega, by omega, by rw [am_skip (by omega) (by omega)]; exact hI100.2.2.1, hI100.2.2.2⟩) _ _ hP hS ls (lv_sub hl [1, 2, 3, 4, 0] rfl)
            · refine lv_goto (tgt := 230) hx hb dX1_times_94 (by decide) ?_
              refine zi_inc (lv' := [(3, .int (iZ (i + 1))), (0, .ref mo), (1, .int (iZ f)), (2, .int (iZ g))]) hx hb dX1_times_230 hl (k := 3) rfl (by decide) rfl (fun ls hl => ?_)
              refine lv_goto (tgt := 77) hx hb dX1_times_233 (by decide) ?_
              exact ih77 (m77 - 1) (Y, i + 1) (by omega) (by (try dsimp only); exact ⟨by omega, by omega, by rw [sp_go (by omega), if_pos (by omega)]; exact hI77.2.2.1, hI77.2.2.2⟩) _ _ hP hS ls (lv_sub hl [1, 2, 3, 0] rfl)
        · exfalso
          omega
    · refine lv_aload_n hx hb dX1_times_24 rfl (lv_at hl 0 rfl) ?_
      refine lv_aload_n hx hb dX1_times_25 rfl (lv_at hl 0 rfl) ?_
      refine va_get (D := D) (ci := 1) (C := RX1) (T := TX1) (N := 8) hx hb hT inX1 hown hK hP 0 rfl rfl 5 (by decide) (hT _ tb_407) (fun _ h9 => h9) rfl dX1_times_26 ?_
      refine zi_const hx hb 4 dX1_times_29 ?_
      refine zi_bi hx hb 8 dX1_times_30 (by decide) ?_
      refine rd_V (As := [.ref (na 3), .int (iZ ((4 : Int))), .int (iZ ((8 : Int)))]) (rest := []) (st1 := [.int (iZ (hsZ (V1 3) (((4 : Int)) * 9).toNat ((((8 : Int)) - ((4 : Int))) * 9).toNat))]) S (k3_X1_has l D mo na cI cJ 0 k V1 ((4 : Int)) ((8 : Int)) (by omega) hp3) tb_479 tb_481 ts_X1_has tb_2 tb_482 hd_X1_has ⟨rfl, rfl, by decide, by decide⟩ rM_bl (rM_mv hP hK) (va_recv hK hP (ci := 1) (q0 := 0) rfl rfl) rfl hl.1 rfl (Nat.le_of_ble_eq_true rfl) dX1_times_32 ⟨Nat.zero_le _, Nat.zero_le _⟩ rfl ?_
      refine zi_fne (tgt := 65) hx hb dX1_times_35 (by decide) (by omega) (fun hc35 => ?_) (fun hc35 => ?_)
      · exfalso
        omega
      · refine lv_aload_n hx hb dX1_times_38 rfl (lv_at hl 0 rfl) ?_
        refine lv_aload_n hx hb dX1_times_39 rfl (lv_at hl 0 rfl) ?_
        refine va_get (D := D) (ci := 1) (C := RX1) (T := TX1) (N := 8) hx hb hT inX1 hown hK hP 0 rfl rfl 4 (by decide) (hT _ tb_406) (fun _ h9 => h9) rfl dX1_times_40 ?_
        refine zi_const hx hb 4 dX1_times_43 ?_
        refine zi_bi hx hb 8 dX1_times_44 (by decide) ?_
        refine rd_V (As := [.ref (na 2), .int (iZ ((4 : Int))), .int (iZ ((8 : Int)))]) (rest := []) (st1 := [.int (iZ (hsZ (V1 2) (((4 : Int)) * 9).toNat ((((8 : Int)) - ((4 : Int))) * 9).toNat))]) S (k2_X1_has l D mo na cI cJ 0 k V1 ((4 : Int)) ((8 : Int)) (by omega) hp2) tb_479 tb_481 ts_X1_has tb_2 tb_482 hd_X1_has ⟨rfl, rfl, by decide, by decide⟩ rM_bl (rM_mv hP hK) (va_recv hK hP (ci := 1) (q0 := 0) rfl rfl) rfl hl.1 rfl (Nat.le_of_ble_eq_true rfl) dX1_times_46 ⟨Nat.zero_le _, Nat.zero_le _⟩ rfl ?_
        refine zi_feq (tgt := 71) hx hb dX1_times_49 (by decide) (by omega) (fun hc49 => ?_) (fun hc49 => ?_)
        · refine lv_aload_n hx hb dX1_times_71 rfl (lv_at hl 0 rfl) ?_
          refine wm_V (As := []) (rest := []) (st1 := []) (c1 := 0) (k1 := k) S (k_X1_start l D mo na cI cJ 0 k V1  hd ) tb_487 tb_489 ts_X1_start tb_2 tb_490 hd_X1_start ⟨rfl, rfl, by decide, by decide⟩ hP hK hS hA hAn rfl hl.1 rfl (Nat.le_of_ble_eq_true rfl) dX1_times_72 ⟨Nat.zero_le _, Nat.zero_le _⟩ rfl (fun V38 H locs hRV38 hP hS _ _ => ?_)
          refine zi_const hx hb 0 dX1_times_75 ?_
          refine lv_istore_n (lv' := [(3, .int (iZ 0)), (0, .ref mo), (1, .int (iZ f)), (2, .int (iZ g))]) hx hb dX1_times_76 rfl hl (by decide) rfl (fun ls hl => ?_)
          refine lp_goM (nL := 9) (α := (Nat → Nat → Int) × Int) (fun z => [(0, .ref mo), (1, .int (iZ f)), (2, .int (iZ g)), (3, .int (iZ z.2))]) (fun _ => 0) (fun _ => k) (fun z => z.1) (fun m77 z => 0 ≤ z.2 ∧ z.2 + (m77 : Int) = 72 ∧ rwR (z.1 4) (spZ (V 0) G f g z.2.toNat) ∧ z.1 2 = V1 2 ∧ z.1 3 = V1 3 ∧ z.1 0 = V 0) ?_ 72 (V38, (0 : Int)) (by (try dsimp only); exact ⟨by omega, by omega, rw_0 hRV38.1 (fun j hj => (by show fiZ G 0 255 (fun _ => (0 : Int)) j = 0; unfold fiZ; rw [if_pos (by omega)])), hRV38.2 2 (by decide), hRV38.2 3 (by decide), (hRV38.2 0 (by decide)).trans hRV1.2.2⟩) _ _ hP hS ls (lv_sub hl [1, 2, 3, 0] rfl)
          intro m77 z39 hI77 ih77 H locs hP hS ls hl
          obtain ⟨Y, i⟩ := z39
          have hl : lv_has ls 9 [(0, .ref mo), (1, .int (iZ f)), (2, .int (iZ g)), (3, .int (iZ i))] := hl
          have hI77 : 0 ≤ i ∧ i + (m77 : Int) = 72 ∧ rwR (Y 4) (spZ (V 0) G f g i.toNat) ∧ Y 2 = V1 2 ∧ Y 3 = V1 3 ∧ Y 0 = V 0 := hI77
          have hP : va_P D vwCl (mX mo na cI cJ 0 k Y) H := hP
          refine lv_iload_n hx hb dX1_times_77 rfl (lv_at hl 3 rfl) ?_
          refine zi_bi hx hb 72 dX1_times_78 (by decide) ?_
          refine zi_cge (tgt := 236) hx hb dX1_times_80 (by decide) (by omega) (by omega) (fun hc80 => ?_) (fun hc80 => ?_)
          · have hsp : rwR (Y 4) (spZ (V 0) G f g 72) := (show i.toNat = 72 by omega) ▸ hI77.2.2.1
            refine lv_aload_n hx hb dX1_times_236 rfl (lv_at hl 0 rfl) ?_
            refine wm_V (As := []) (rest := []) (st1 := [.int (iZ 0)]) (c1 := 2) (k1 := k) S (kF_X1_narrow l D mo na cI cJ 0 k Y  hd (by omega) hsp.1 (fun q => by have := (rw_ok hsp).mp q; omega)) tb_494 tb_496 ts_X1_narrow tb_2 tb_497 hd_X1_narrow ⟨rfl, rfl, by decide, by decide⟩ hP hK hS hA hAn rfl hl.1 rfl (Nat.le_of_ble_eq_true rfl) dX1_times_237 ⟨Nat.zero_le _, Nat.zero_le _⟩ rfl (fun V40 H locs hRV40 hP hS _ _ => ?_)
            exact wm_iret hx hb hr hlk hP ((show V40 0 = V 0 from hRV40.trans hI77.2.2.2.2.2)) rfl rfl hS (congrArg (fun z => some (Value.int (iZ z))) (show (0 : Int) = 0 from rfl)) dX1_times_240
          · have hpi : Y 2 i.toNat = V 0 ((f * 72).toNat + i.toNat) := by
              rw [hI77.2.2.2.1]
              exact hRV1.1 _ (by omega)
            have hpr := hN ((f * 72).toNat + i.toNat)
            refine lv_aload_n hx hb dX1_times_83 rfl (lv_at hl 0 rfl) ?_
            refine va_get (D := D) (ci := 1) (C := RX1) (T := TX1) (N := 8) hx hb hT inX1 hown hK hP 0 rfl rfl 4 (by decide) (hT _ tb_406) (fun _ h9 => h9) rfl dX1_times_84 ?_
            refine lv_iload_n hx hb dX1_times_87 rfl (lv_at hl 3 rfl) ?_
            refine va_lald hx hb hK hP 3 1 rfl rfl (iZ_in (by omega) (by omega) (by decide)) dX1_times_88 ?_
            refine zl_as (a := Y 2 ((i).toNat)) (by rw [iZ_cl (by omega) (by omega)]) ?_
            refine zl_const hx hb 0 dX1_times_89 (by decide) ?_
            refine zl_cne (tgt := 97) hx hb dX1_times_90 dX1_times_91 (by decide) (by omega) (by omega) (fun hc90 => ?_) (fun hc90 => ?_)
            · refine zi_const hx hb 0 dX1_times_97 ?_
              refine lv_istore (lv' := [(4, .int (iZ 0)), (0, .ref mo), (1, .int (iZ f)), (2, .int (iZ g)), (3, .int (iZ i))]) hx hb dX1_times_98 hl (by decide) rfl (fun ls hl => ?_)
              refine lp_goM (nL := 9) (α := (Nat → Nat → Int) × Int) (fun z => [(0, .ref mo), (1, .int (iZ f)), (2, .int (iZ g)), (3, .int (iZ i)), (4, .int (iZ z.2))]) (fun _ => 0) (fun _ => k) (fun z => z.1) (fun m100 z => 0 ≤ z.2 ∧ z.2 + (m100 : Int) = 72 ∧ rwR (z.1 4) (amZ (V 0) (spZ (V 0) G f g i.toNat) g (jC i.toNat) (jN i.toNat) (V 0 ((f * 72).toNat + i.toNat)) z.2.toNat) ∧ z.1 2 = V1 2 ∧ z.1 3 = V1 3 ∧ z.1 0 = V 0) ?_ 72 (Y, (0 : Int)) (by (try dsimp only); exact ⟨by omega, by omega, hI77.2.2.1, hI77.2.2.2⟩) _ _ hP hS ls (lv_sub hl [1, 2, 3, 4, 0] rfl)
              intro m100 z41 hI100 ih100 H locs hP hS ls hl
              obtain ⟨U, i4⟩ := z41
              have hl : lv_has ls 9 [(0, .ref mo), (1, .int (iZ f)), (2, .int (iZ g)), (3, .int (iZ i)), (4, .int (iZ i4))] := hl
              have hI100 : 0 ≤ i4 ∧ i4 + (m100 : Int) = 72 ∧ rwR (U 4) (amZ (V 0) (spZ (V 0) G f g i.toNat) g (jC i.toNat) (jN i.toNat) (V 0 ((f * 72).toNat + i.toNat)) i4.toNat) ∧ U 2 = V1 2 ∧ U 3 = V1 3 ∧ U 0 = V 0 := hI100
              have hP : va_P D vwCl (mX mo na cI cJ 0 k U) H := hP
              refine lv_iload hx hb dX1_times_100 (lv_at hl 4 rfl) ?_
              refine zi_bi hx hb 72 dX1_times_102 (by decide) ?_
              refine zi_cge (tgt := 230) hx hb dX1_times_104 (by decide) (by omega) (by omega) (fun hc104 => ?_) (fun hc104 => ?_)
              · refine zi_inc (lv' := [(3, .int (iZ (i + 1))), (0, .ref mo), (1, .int (iZ f)), (2, .int (iZ g)), (4, .int (iZ i4))]) hx hb dX1_times_230 hl (k := 3) rfl (by decide) rfl (fun ls hl => ?_)
                refine lv_goto (tgt := 77) hx hb dX1_times_233 (by decide) ?_
                exact ih77 (m77 - 1) (U, i + 1) (by omega) (by (try dsimp only); exact ⟨by omega, by omega, by rw [sp_go (by omega), if_neg (by omega)]; exact (show i4.toNat = 72 by omega) ▸ hI100.2.2.1, hI100.2.2.2⟩) _ _ hP hS ls (lv_sub hl [1, 2, 3, 0] rfl)
              · have hqi : U 3 i4.toNat = V 0 ((g * 72).toNat + i4.toNat) := by
                  rw [hI100.2.2.2.2.1]
                  exact hRV1.2.1 _ (by omega)
                have hpu : U 2 i.toNat = V 0 ((f * 72).toNat + i.toNat) := by
                  rw [hI100.2.2.2.1]
                  exact hRV1.1 _ (by omega)
                have hqr := hN ((g * 72).toNat + i4.toNat)
                refine lv_aload_n hx hb dX1_times_107 rfl (lv_at hl 0 rfl) ?_
                refine va_get (D := D) (ci := 1) (C := RX1) (T := TX1) (N := 8) hx hb hT inX1 hown hK hP 0 rfl rfl 5 (by decide) (hT _ tb_407) (fun _ h9 => h9) rfl dX1_times_108 ?_
                refine lv_iload hx hb dX1_times_111 (lv_at hl 4 rfl) ?_
                refine va_lald hx hb hK hP 4 1 rfl rfl (iZ_in (by omega) (by omega) (by decide)) dX1_times_113 ?_
                refine zl_as (a := U 3 ((i4).toNat)) (by rw [iZ_cl (by omega) (by omega)]) ?_
                refine zl_const hx hb 0 dX1_times_114 (by decide) ?_
                refine zl_cne (tgt := 122) hx hb dX1_times_115 dX1_times_116 (by decide) (by omega) (by omega) (fun hc115 => ?_) (fun hc115 => ?_)
                · have t1 := td9 (n := i) (by omega)
                  have t2 := td9 (n := i4) (by omega)
                  have t3 := tm9 (n := i) (by omega)
                  have t4 := tm9 (n := i4) (by omega)
                  have j1 := jCz (i := i) (by omega)
                  have j2 := jCz (i := i4) (by omega)
                  have hl1 : ¬ (1 ≤ i / 9 ∧ i / 9 < 4 ∧ 4 ≤ i4 / 9) := fun q => lm_leg h0.1 (i := i.toNat) (k := i4.toNat) (by omega) (by omega) (by omega) (by omega) (by omega) (by omega)
                  have hl2 : ¬ (4 ≤ i / 9 ∧ 1 ≤ i4 / 9 ∧ i4 / 9 < 4) := fun q => lm_leg h0.2 (i := i4.toNat) (k := i.toNat) (by omega) (by omega) (by omega) (by omega) (by omega) (by omega)
                  have hmr := mul_rng hpr hqr
                  refine lv_iload_n hx hb dX1_times_122 rfl (lv_at hl 3 rfl) ?_
                  refine zi_bi hx hb 9 dX1_times_123 (by decide) ?_
                  refine zi_div hx hb dX1_times_125 (by omega) (by omega) ?_
                  refine zi_top (fun v42 ev42 => ?_)
                  refine lv_istore (lv' := [(5, .int (iZ v42)), (0, .ref mo), (1, .int (iZ f)), (2, .int (iZ g)), (3, .int (iZ i)), (4, .int (iZ i4))]) hx hb dX1_times_126 hl (by decide) rfl (fun ls hl => ?_)
                  refine lv_iload hx hb dX1_times_128 (lv_at hl 5 rfl) ?_
                  refine zi_bi hx hb 9 dX1_times_130 (by decide) ?_
                  refine zi_div hx hb dX1_times_132 (by omega) (by omega) ?_
                  refine zi_top (fun v43 ev43 => ?_)
                  refine lv_istore (lv' := [(6, .int (iZ v43)), (5, .int (iZ v42)), (0, .ref mo), (1, .int (iZ f)), (2, .int (iZ g)), (3, .int (iZ i)), (4, .int (iZ i4))]) hx hb dX1_times_133 hl (by decide) rfl (fun ls hl => ?_)
                  refine lv_iload hx hb dX1_times_135 (lv_at hl 1 rfl) ?_
                  refine zi_const hx hb 4 dX1_times_137 ?_
                  refine zi_cge (tgt := 155) hx hb dX1_times_138 (by decide) (by omega) (by omega) (fun hc138 => ?_) (fun hc138 => ?_)
                  · refine zi_bi hx hb 11 dX1_times_155 (by decide) ?_
                    refine lv_iload hx hb dX1_times_157 (lv_at hl 1 rfl) ?_
                    refine rd_S (As := [.int (iZ v42)]) (rest := [.int (iZ 11)]) (st1 := [.int (iZ (xpZ v42)), .int (iZ 11)]) S (k_X1_exponent l v42 (by omega)) tb_491 tb_492 tb_2 tb_493 hd_X1_exponent ⟨rfl, rfl, by decide, by decide⟩ bl_T (fun _ _ _ => trivial) rfl hl.1 rfl (Nat.le_of_ble_eq_true rfl) dX1_times_159 ⟨Nat.zero_le _, Nat.zero_le _⟩ rfl ?_
                    have hxe162 : xpZ v42 = (if v42 < 4 then 0 else if v42 < 6 then v42 - 6 else v42 - 5) := rfl
                    refine zi_add hx hb dX1_times_162 ?_
                    refine lv_iload hx hb dX1_times_163 (lv_at hl 0 rfl) ?_
                    refine rd_S (As := [.int (iZ v43)]) (rest := [.int (iZ (11 + (xpZ v42)))]) (st1 := [.int (iZ (xpZ v43)), .int (iZ (11 + (xpZ v42)))]) S (k_X1_exponent l v43 (by omega)) tb_491 tb_492 tb_2 tb_493 hd_X1_exponent ⟨rfl, rfl, by decide, by decide⟩ bl_T (fun _ _ _ => trivial) rfl hl.1 rfl (Nat.le_of_ble_eq_true rfl) dX1_times_165 ⟨Nat.zero_le _, Nat.zero_le _⟩ rfl ?_
                    have hxe168 : xpZ v43 = (if v43 < 4 then 0 else if v43 < 6 then v43 - 6 else v43 - 5) := rfl
                    refine zi_add hx hb dX1_times_168 ?_
                    refine zi_top (fun v44 ev44 => ?_)
                    refine lv_istore (lv' := [(7, .int (iZ v44)), (6, .int (iZ v43)), (5, .int (iZ v42)), (0, .ref mo), (1, .int (iZ f)), (2, .int (iZ g)), (3, .int (iZ i)), (4, .int (iZ i4))]) hx hb dX1_times_169 hl (by decide) rfl (fun ls hl => ?_)
                    have hrl := rw_lz (a := v42) (b := v43) (row := v44) (by omega) (by omega) (by omega) (by omega) (by rw [ev44]; first | rw [if_pos (by omega)] | rw [if_neg (by omega)])
                    rw [show v42 = i / 9 by omega, show v43 = i4 / 9 by omega] at hrl
                    refine zi_bi hx hb 19 dX1_times_171 (by decide) ?_
                    refine lv_iload hx hb dX1_times_173 (lv_at hl 0 rfl) ?_
                    refine zi_mul hx hb dX1_times_175 ?_
                    refine lv_iload_n hx hb dX1_times_176 rfl (lv_at hl 6 rfl) ?_
                    refine zi_bi hx hb 9 dX1_times_177 (by decide) ?_
                    refine zi_rem hx hb dX1_times_179 (by omega) (by omega) ?_
                    refine zi_add hx hb dX1_times_180 ?_
                    refine lv_iload hx hb dX1_times_181 (lv_at hl 7 rfl) ?_
                    refine zi_bi hx hb 9 dX1_times_183 (by decide) ?_
                    refine zi_rem hx hb dX1_times_185 (by omega) (by omega) ?_
                    refine zi_add hx hb dX1_times_186 ?_
                    refine zi_const hx hb 1 dX1_times_187 ?_
                    refine zi_add hx hb dX1_times_188 ?_
                    refine zi_top (fun v45 ev45 => ?_)
                    refine lv_istore (lv' := [(8, .int (iZ v45)), (7, .int (iZ v44)), (6, .int (iZ v43)), (5, .int (iZ v42)), (0, .ref mo), (1, .int (iZ f)), (2, .int (iZ g)), (3, .int (iZ i)), (4, .int (iZ i4))]) hx hb dX1_times_189 hl (by decide) rfl (fun ls hl => ?_)
                    have hur := hI100.2.2.1.1 (v45).toNat (by omega)
                    refine lv_aload_n hx hb dX1_times_191 rfl (lv_at hl 4 rfl) ?_
                    refine va_get (D := D) (ci := 1) (C := RX1) (T := TX1) (N := 8) hx hb hT inX1 hown hK hP 0 rfl rfl 6 (by decide) (hT _ tb_408) (fun _ h9 => h9) rfl dX1_times_192 ?_
                    refine lv_iload hx hb dX1_times_195 (lv_at hl 0 rfl) ?_
                    refine lv_aload_n hx hb dX1_times_197 rfl (lv_at hl 4 rfl) ?_
                    refine va_get (D := D) (ci := 1) (C := RX1) (T := TX1) (N := 8) hx hb hT inX1 hown hK hP 0 rfl rfl 6 (by decide) (hT _ tb_408) (fun _ h9 => h9) rfl dX1_times_198 ?_
                    refine lv_iload hx hb dX1_times_201 (lv_at hl 0 rfl) ?_
                    refine va_lald hx hb hK hP 5 1 rfl rfl (iZ_in (by omega) (by omega) (by decide)) dX1_times_203 ?_
                    refine zl_as (a := U 4 ((v45).toNat)) (by rw [iZ_cl (by omega) (by omega)]) ?_
                    refine lv_aload_n hx hb dX1_times_204 rfl (lv_at hl 4 rfl) ?_
                    refine va_get (D := D) (ci := 1) (C := RX1) (T := TX1) (N := 8) hx hb hT inX1 hown hK hP 0 rfl rfl 4 (by decide) (hT _ tb_406) (fun _ h9 => h9) rfl dX1_times_205 ?_
                    refine lv_iload_n hx hb dX1_times_208 rfl (lv_at hl 7 rfl) ?_
                    refine va_lald hx hb hK hP 3 1 rfl rfl (iZ_in (by omega) (by omega) (by decide)) dX1_times_209 ?_
                    refine zl_as (a := U 2 ((i).toNat)) (by rw [iZ_cl (by omega) (by omega)]) ?_
                    refine lv_aload_n hx hb dX1_times_210 rfl (lv_at hl 4 rfl) ?_
                    refine va_get (D := D) (ci := 1) (C := RX1) (T := TX1) (N := 8) hx hb hT inX1 hown hK hP 0 rfl rfl 5 (by decide) (hT _ tb_407) (fun _ h9 => h9) rfl dX1_times_211 ?_
                    refine lv_iload hx hb dX1_times_214 (lv_at hl 8 rfl) ?_
                    refine va_lald hx hb hK hP 4 1 rfl rfl (iZ_in (by omega) (by omega) (by decide)) dX1_times_216 ?_
                    refine zl_as (a := U 3 ((i4).toNat)) (by rw [iZ_cl (by omega) (by omega)]) ?_
                    refine zl_mul hx hb dX1_times_217 ?_
                    refine zl_top (fun v46 ev46 => ?_)
                    have hvv : v46 = V 0 ((f * 72).toNat + i.toNat) * V 0 ((g * 72).toNat + i4.toNat) := by
                      rw [ev46, hpu, hqi]
                    have hnz : V 0 ((f * 72).toNat + i.toNat) * V 0 ((g * 72).toNat + i4.toNat) ≠ 0 := Int.mul_ne_zero (by omega) (by omega)
                    refine zl_add hx hb dX1_times_218 ?_
                    refine zl_ldc hx hb 32003 hown (hT _ tb_448) (by decide) dX1_times_219 ?_
                    refine zl_rem hx hb dX1_times_222 (by omega) (by omega) ?_
                    have hxx : (Int.tmod ((U 4 (v45).toNat) + v46) 32003 : Int) = (U 4 (v45).toNat + V 0 ((f * 72).toNat + i.toNat) * V 0 ((g * 72).toNat + i4.toNat)) % 32003 := by
                      rw [← hvv]
                      exact tmP (by omega)
                    refine mm_l hx hb hK hP hd hA hS 4 304 rfl (fun g => rfl) (by omega) dX1_times_223 (fun H locs hP hS => ?_)
                    obtain ⟨V47, eV47⟩ : ∃ Z : Nat → Nat → Int, Z = sV U 4 (uZ (U 4) (v45).toNat (Int.tmod ((U 4 (v45).toNat) + v46) 32003)) := ⟨_, rfl⟩
                    rw [← eV47] at hP
                    refine zi_inc (lv' := [(4, .int (iZ (i4 + 1))), (8, .int (iZ v45)), (7, .int (iZ v44)), (6, .int (iZ v43)), (5, .int (iZ v42)), (0, .ref mo), (1, .int (iZ f)), (2, .int (iZ g)), (3, .int (iZ i))]) hx hb dX1_times_224 hl (k := 8) rfl (by decide) rfl (fun ls hl => ?_)
                    refine lv_goto (tgt := 100) hx hb dX1_times_227 (by decide) ?_
                    exact ih100 (m100 - 1) (V47, i4 + 1) (by omega) (by (try dsimp only); exact ⟨by omega, by omega, by rw [eV47, sV_a, am_go (by omega), hxx]; exact rw_step hI100.2.2.1 hrl.1 (by rw [(jCz (i := i4) (by omega)).1, (jCz (i := i) (by omega)).1]; exact hrl.2) (by omega) (by omega) hnz, by rw [eV47, sV_b (by decide)]; exact hI100.2.2.2.1, by rw [eV47, sV_b (by decide)]; exact hI100.2.2.2.2.1, by rw [eV47, sV_b (by decide)]; exact hI100.2.2.2.2.2⟩) _ _ hP hS ls (lv_sub hl [5, 6, 7, 8, 0] rfl)
                  · refine lv_iload hx hb dX1_times_141 (lv_at hl 0 rfl) ?_
                    refine zi_const hx hb 4 dX1_times_143 ?_
                    refine zi_cge (tgt := 155) hx hb dX1_times_144 (by decide) (by omega) (by omega) (fun hc144 => ?_) (fun hc144 => ?_)
                    · refine zi_bi hx hb 11 dX1_times_155 (by decide) ?_
                      refine lv_iload hx hb dX1_times_157 (lv_at hl 1 rfl) ?_
                      refine rd_S (As := [.int (iZ v42)]) (rest := [.int (iZ 11)]) (st1 := [.int (iZ (xpZ v42)), .int (iZ 11)]) S (k_X1_exponent l v42 (by omega)) tb_491 tb_492 tb_2 tb_493 hd_X1_exponent ⟨rfl, rfl, by decide, by decide⟩ bl_T (fun _ _ _ => trivial) rfl hl.1 rfl (Nat.le_of_ble_eq_true rfl) dX1_times_159 ⟨Nat.zero_le _, Nat.zero_le _⟩ rfl ?_
                      have hxe162 : xpZ v42 = (if v42 < 4 then 0 else if v42 < 6 then v42 - 6 else v42 - 5) := rfl
                      refine zi_add hx hb dX1_times_162 ?_
                      refine lv_iload hx hb dX1_times_163 (lv_at hl 0 rfl) ?_
                      refine rd_S (As := [.int (iZ v43)]) (rest := [.int (iZ (11 + (xpZ v42)))]) (st1 := [.int (iZ (xpZ v43)), .int (iZ (11 + (xpZ v42)))]) S (k_X1_exponent l v43 (by omega)) tb_491 tb_492 tb_2 tb_493 hd_X1_exponent ⟨rfl, rfl, by decide, by decide⟩ bl_T (fun _ _ _ => trivial) rfl hl.1 rfl (Nat.le_of_ble_eq_true rfl) dX1_times_165 ⟨Nat.zero_le _, Nat.zero_le _⟩ rfl ?_
                      have hxe168 : xpZ v43 = (if v43 < 4 then 0 else if v43 < 6 then v43 - 6 else v43 - 5) := rfl
                      refine zi_add hx hb dX1_times_168 ?_
                      refine zi_top (fun v48 ev48 => ?_)
                      refine lv_istore (lv' := [(7, .int (iZ v48)), (6, .int (iZ v43)), (5, .int (iZ v42)), (0, .ref mo), (1, .int (iZ f)), (2, .int (iZ g)), (3, .int (iZ i)), (4, .int (iZ i4))]) hx hb dX1_times_169 hl (by decide) rfl (fun ls hl => ?_)
                      have hrl := rw_lz (a := v42) (b := v43) (row := v48) (by omega) (by omega) (by omega) (by omega) (by rw [ev48]; first | rw [if_pos (by omega)] | rw [if_neg (by omega)])
                      rw [show v42 = i / 9 by omega, show v43 = i4 / 9 by omega] at hrl
                      refine zi_bi hx hb 19 dX1_times_171 (by decide) ?_
                      refine lv_iload hx hb dX1_times_173 (lv_at hl 0 rfl) ?_
                      refine zi_mul hx hb dX1_times_175 ?_
                      refine lv_iload_n hx hb dX1_times_176 rfl (lv_at hl 6 rfl) ?_
                      refine zi_bi hx hb 9 dX1_times_177 (by decide) ?_
                      refine zi_rem hx hb dX1_times_179 (by omega) (by omega) ?_
                      refine zi_add hx hb dX1_times_180 ?_
                      refine lv_iload hx hb dX1_times_181 (lv_at hl 7 rfl) ?_
                      refine zi_bi hx hb 9 dX1_times_183 (by decide) ?_
                      refine zi_rem hx hb dX1_times_185 (by omega) (by omega) ?_
                      refine zi_add hx hb dX1_times_186 ?_
                      refine zi_const hx hb 1 dX1_times_187 ?_
                      refine zi_add hx hb dX1_times_188 ?_
                      refine zi_top (fun v49 ev49 => ?_)
                      refine lv_istore (lv' := [(8, .int (iZ v49)), (7, .int (iZ v48)), (6, .int (iZ v43)), (5, .int (iZ v42)), (0, .ref mo), (1, .int (iZ f)), (2, .int (iZ g)), (3, .int (iZ i)), (4, .int (iZ i4))]) hx hb dX1_times_189 hl (by decide) rfl (fun ls hl => ?_)
                      have hur := hI100.2.2.1.1 (v49).toNat (by omega)
                      refine lv_aload_n hx hb dX1_times_191 rfl (lv_at hl 4 rfl) ?_
                      refine va_get (D := D) (ci := 1) (C := RX1) (T := TX1) (N := 8) hx hb hT inX1 hown hK hP 0 rfl rfl 6 (by decide) (hT _ tb_408) (fun _ h9 => h9) rfl dX1_times_192 ?_
                      refine lv_iload hx hb dX1_times_195 (lv_at hl 0 rfl) ?_
                      refine lv_aload_n hx hb dX1_times_197 rfl (lv_at hl 4 rfl) ?_
                      refine va_get (D := D) (ci := 1) (C := RX1) (T := TX1) (N := 8) hx hb hT inX1 hown hK hP 0 rfl rfl 6 (by decide) (hT _ tb_408) (fun _ h9 => h9) rfl dX1_times_198 ?_
                      refine lv_iload hx hb dX1_times_201 (lv_at hl 0 rfl) ?_
                      refine va_lald hx hb hK hP 5 1 rfl rfl (iZ_in (by omega) (by omega) (by decide)) dX1_times_203 ?_
                      refine zl_as (a := U 4 ((v49).toNat)) (by rw [iZ_cl (by omega) (by omega)]) ?_
                      refine lv_aload_n hx hb dX1_times_204 rfl (lv_at hl 4 rfl) ?_
                      refine va_get (D := D) (ci := 1) (C := RX1) (T := TX1) (N := 8) hx hb hT inX1 hown hK hP 0 rfl rfl 4 (by decide) (hT _ tb_406) (fun _ h9 => h9) rfl dX1_times_205 ?_
                      refine lv_iload_n hx hb dX1_times_208 rfl (lv_at hl 7 rfl) ?_
                      refine va_lald hx hb hK hP 3 1 rfl rfl (iZ_in (by omega) (by omega) (by decide)) dX1_times_209 ?_
                      refine zl_as (a := U 2 ((i).toNat)) (by rw [iZ_cl (by omega) (by omega)]) ?_
                      refine lv_aload_n hx hb dX1_times_210 rfl (lv_at hl 4 rfl) ?_
                      refine va_get (D := D) (ci := 1) (C := RX1) (T := TX1) (N := 8) hx hb hT inX1 hown hK hP 0 rfl rfl 5 (by decide) (hT _ tb_407) (fun _ h9 => h9) rfl dX1_times_211 ?_
                      refine lv_iload hx hb dX1_times_214 (lv_at hl 8 rfl) ?_
                      refine va_lald hx hb hK hP 4 1 rfl rfl (iZ_in (by omega) (by omega) (by decide)) dX1_times_216 ?_
                      refine zl_as (a := U 3 ((i4).toNat)) (by rw [iZ_cl (by omega) (by omega)]) ?_
                      refine zl_mul hx hb dX1_times_217 ?_
                      refine zl_top (fun v50 ev50 => ?_)
                      have hvv : v50 = V 0 ((f * 72).toNat + i.toNat) * V 0 ((g * 72).toNat + i4.toNat) := by
                        rw [ev50, hpu, hqi]
                      have hnz : V 0 ((f * 72).toNat + i.toNat) * V 0 ((g * 72).toNat + i4.toNat) ≠ 0 := Int.mul_ne_zero (by omega) (by omega)
                      refine zl_add hx hb dX1_times_218 ?_
                      refine zl_ldc hx hb 32003 hown (hT _ tb_448) (by decide) dX1_times_219 ?_
                      refine zl_rem hx hb dX1_times_222 (by omega) (by omega) ?_
                      have hxx : (Int.tmod ((U 4 (v49).toNat) + v50) 32003 : Int) = (U 4 (v49).toNat + V 0 ((f * 72).toNat + i.toNat) * V 0 ((g * 72).toNat + i4.toNat)) % 32003 := by
                        rw [← hvv]
                        exact tmP (by omega)
                      refine mm_l hx hb hK hP hd hA hS 4 304 rfl (fun g => rfl) (by omega) dX1_times_223 (fun H locs hP hS => ?_)
                      obtain ⟨V51, eV51⟩ : ∃ Z : Nat → Nat → Int, Z = sV U 4 (uZ (U 4) (v49).toNat (Int.tmod ((U 4 (v49).toNat) + v50) 32003)) := ⟨_, rfl⟩
                      rw [← eV51] at hP
                      refine zi_inc (lv' := [(4, .int (iZ (i4 + 1))), (8, .int (iZ v49)), (7, .int (iZ v48)), (6, .int (iZ v43)), (5, .int (iZ v42)), (0, .ref mo), (1, .int (iZ f)), (2, .int (iZ g)), (3, .int (iZ i))]) hx hb dX1_times_224 hl (k := 8) rfl (by decide) rfl (fun ls hl => ?_)
                      refine lv_goto (tgt := 100) hx hb dX1_times_227 (by decide) ?_
                      exact ih100 (m100 - 1) (V51, i4 + 1) (by omega) (by (try dsimp only); exact ⟨by omega, by omega, by rw [eV51, sV_a, am_go (by omega), hxx]; exact rw_step hI100.2.2.1 hrl.1 (by rw [(jCz (i := i4) (by omega)).1, (jCz (i := i) (by omega)).1]; exact hrl.2) (by omega) (by omega) hnz, by rw [eV51, sV_b (by decide)]; exact hI100.2.2.2.1, by rw [eV51, sV_b (by decide)]; exact hI100.2.2.2.2.1, by rw [eV51, sV_b (by decide)]; exact hI100.2.2.2.2.2⟩) _ _ hP hS ls (lv_sub hl [5, 6, 7, 8, 0] rfl)
                    · refine lv_iload hx hb dX1_times_147 (lv_at hl 1 rfl) ?_
                      refine lv_iload hx hb dX1_times_149 (lv_at hl 0 rfl) ?_
                      refine zi_add hx hb dX1_times_151 ?_
                      refine lv_goto (tgt := 169) hx hb dX1_times_152 (by decide) ?_
                      refine zi_top (fun v52 ev52 => ?_)
                      refine lv_istore (lv' := [(7, .int (iZ v52)), (6, .int (iZ v43)), (5, .int (iZ v42)), (0, .ref mo), (1, .int (iZ f)), (2, .int (iZ g)), (3, .int (iZ i)), (4, .int (iZ i4))]) hx hb dX1_times_169 hl (by decide) rfl (fun ls hl => ?_)
                      have hrl := rw_lz (a := v42) (b := v43) (row := v52) (by omega) (by omega) (by omega) (by omega) (by rw [ev52]; first | rw [if_pos (by omega)] | rw [if_neg (by omega)])
                      rw [show v42 = i / 9 by omega, show v43 = i4 / 9 by omega] at hrl
                      refine zi_bi hx hb 19 dX1_times_171 (by decide) ?_
                      refine lv_iload hx hb dX1_times_173 (lv_at hl 0 rfl) ?_
                      refine zi_mul hx hb dX1_times_175 ?_
                      refine lv_iload_n hx hb dX1_times_176 rfl (lv_at hl 6 rfl) ?_
                      refine zi_bi hx hb 9 dX1_times_177 (by decide) ?_
                      refine zi_rem hx hb dX1_times_179 (by omega) (by omega) ?_
                      refine zi_add hx hb dX1_times_180 ?_
                      refine lv_iload hx hb dX1_times_181 (lv_at hl 7 rfl) ?_
                      refine zi_bi hx hb 9 dX1_times_183 (by decide) ?_
                      refine zi_rem hx hb dX1_times_185 (by omega) (by omega) ?_
                      refine zi_add hx hb dX1_times_186 ?_
                      refine zi_const hx hb 1 dX1_times_187 ?_
                      refine zi_add hx hb dX1_times_188 ?_
                      refine zi_top (fun v53 ev53 => ?_)
                      refine lv_istore (lv' := [(8, .int (iZ v53)), (7, .int (iZ v52)), (6, .int (iZ v43)), (5, .int (iZ v42)), (0, .ref mo), (1, .int (iZ f)), (2, .int (iZ g)), (3, .int (iZ i)), (4, .int (iZ i4))]) hx hb dX1_times_189 hl (by decide) rfl (fun ls hl => ?_)
                      have hur := hI100.2.2.1.1 (v53).toNat (by omega)
                      refine lv_aload_n hx hb dX1_times_191 rfl (lv_at hl 4 rfl) ?_
                      refine va_get (D := D) (ci := 1) (C := RX1) (T := TX1) (N := 8) hx hb hT inX1 hown hK hP 0 rfl rfl 6 (by decide) (hT _ tb_408) (fun _ h9 => h9) rfl dX1_times_192 ?_
                      refine lv_iload hx hb dX1_times_195 (lv_at hl 0 rfl) ?_
                      refine lv_aload_n hx hb dX1_times_197 rfl (lv_at hl 4 rfl) ?_
                      refine va_get (D := D) (ci := 1) (C := RX1) (T := TX1) (N := 8) hx hb hT inX1 hown hK hP 0 rfl rfl 6 (by decide) (hT _ tb_408) (fun _ h9 => h9) rfl dX1_times_198 ?_
                      refine lv_iload hx hb dX1_times_201 (lv_at hl 0 rfl) ?_
                      refine va_lald hx hb hK hP 5 1 rfl rfl (iZ_in (by omega) (by omega) (by decide)) dX1_times_203 ?_
                      refine zl_as (a := U 4 ((v53).toNat)) (by rw [iZ_cl (by omega) (by omega)]) ?_
                      refine lv_aload_n hx hb dX1_times_204 rfl (lv_at hl 4 rfl) ?_
                      refine va_get (D := D) (ci := 1) (C := RX1) (T := TX1) (N := 8) hx hb hT inX1 hown hK hP 0 rfl rfl 4 (by decide) (hT _ tb_406) (fun _ h9 => h9) rfl dX1_times_205 ?_
                      refine lv_iload_n hx hb dX1_times_208 rfl (lv_at hl 7 rfl) ?_
                      refine va_lald hx hb hK hP 3 1 rfl rfl (iZ_in (by omega) (by omega) (by decide)) dX1_times_209 ?_
                      refine zl_as (a := U 2 ((i).toNat)) (by rw [iZ_cl (by omega) (by omega)]) ?_
                      refine lv_aload_n hx hb dX1_times_210 rfl (lv_at hl 4 rfl) ?_
                      refine va_get (D := D) (ci := 1) (C := RX1) (T := TX1) (N := 8) hx hb hT inX1 hown hK hP 0 rfl rfl 5 (by decide) (hT _ tb_407) (fun _ h9 => h9) rfl dX1_times_211 ?_
                      refine lv_iload hx hb dX1_times_214 (lv_at hl 8 rfl) ?_
                      refine va_lald hx hb hK hP 4 1 rfl rfl (iZ_in (by omega) (by omega) (by decide)) dX1_times_216 ?_
                      refine zl_as (a := U 3 ((i4).toNat)) (by rw [iZ_cl (by omega) (by omega)]) ?_
                      refine zl_mul hx hb dX1_times_217 ?_
                      refine zl_top (fun v54 ev54 => ?_)
                      have hvv : v54 = V 0 ((f * 72).toNat + i.toNat) * V 0 ((g * 72).toNat + i4.toNat) := by
                        rw [ev54, hpu, hqi]
                      have hnz : V 0 ((f * 72).toNat + i.toNat) * V 0 ((g * 72).toNat + i4.toNat) ≠ 0 := Int.mul_ne_zero (by omega) (by omega)
                      refine zl_add hx hb dX1_times_218 ?_
                      refine zl_ldc hx hb 32003 hown (hT _ tb_448) (by decide) dX1_times_219 ?_
                      refine zl_rem hx hb dX1_times_222 (by omega) (by omega) ?_
                      have hxx : (Int.tmod ((U 4 (v53).toNat) + v54) 32003 : Int) = (U 4 (v53).toNat + V 0 ((f * 72).toNat + i.toNat) * V 0 ((g * 72).toNat + i4.toNat)) % 32003 := by
                        rw [← hvv]
                        exact tmP (by omega)
                      refine mm_l hx hb hK hP hd hA hS 4 304 rfl (fun g => rfl) (by omega) dX1_times_223 (fun H locs hP hS => ?_)
                      obtain ⟨V55, eV55⟩ : ∃ Z : Nat → Nat → Int, Z = sV U 4 (uZ (U 4) (v53).toNat (Int.tmod ((U 4 (v53).toNat) + v54) 32003)) := ⟨_, rfl⟩
                      rw [← eV55] at hP
                      refine zi_inc (lv' := [(4, .int (iZ (i4 + 1))), (8, .int (iZ v53)), (7, .int (iZ v52)), (6, .int (iZ v43)), (5, .int (iZ v42)), (0, .ref mo), (1, .int (iZ f)), (2, .int (iZ g)), (3, .int (iZ i))]) hx hb dX1_times_224 hl (k := 8) rfl (by decide) rfl (fun ls hl => ?_)
                      refine lv_goto (tgt := 100) hx hb dX1_times_227 (by decide) ?_
                      exact ih100 (m100 - 1) (V55, i4 + 1) (by omega) (by (try dsimp only); exact ⟨by omega, by omega, by rw [eV55, sV_a, am_go (by omega), hxx]; exact rw_step hI100.2.2.1 hrl.1 (by rw [(jCz (i := i4) (by omega)).1, (jCz (i := i) (by omega)).1]; exact hrl.2) (by omega) (by omega) hnz, by rw [eV55, sV_b (by decide)]; exact hI100.2.2.2.1, by rw [eV55, sV_b (by decide)]; exact hI100.2.2.2.2.1, by rw [eV55, sV_b (by decide)]; exact hI100.2.2.2.2.2⟩) _ _ hP hS ls (lv_sub hl [5, 6, 7, 8, 0] rfl)
                · refine lv_goto (tgt := 224) hx hb dX1_times_119 (by decide) ?_
                  refine zi_inc (lv' := [(4, .int (iZ (i4 + 1))), (0, .ref mo), (1, .int (iZ f)), (2, .int (iZ g)), (3, .int (iZ i))]) hx hb dX1_times_224 hl (k := 4) rfl (by decide) rfl (fun ls hl => ?_)
                  refine lv_goto (tgt := 100) hx hb dX1_times_227 (by decide) ?_
                  exact ih100 (m100 - 1) (U, i4 + 1) (by omega) (by (try dsimp only); exact ⟨by omega, by omega, by rw [am_skip (by omega) (by omega)]; exact hI100.2.2.1, hI100.2.2.2⟩) _ _ hP hS ls (lv_sub hl [1, 2, 3, 4, 0] rfl)
            · refine lv_goto (tgt := 230) hx hb dX1_times_94 (by decide) ?_
              refine zi_inc (lv' := [(3, .int (iZ (i + 1))), (0, .ref mo), (1, .int (iZ f)), (2, .int (iZ g))]) hx hb dX1_times_230 hl (k := 3) rfl (by decide) rfl (fun ls hl => ?_)
              refine lv_goto (tgt := 77) hx hb dX1_times_233 (by decide) ?_
              exact ih77 (m77 - 1) (Y, i + 1) (by omega) (by (try dsimp only); exact ⟨by omega, by omega, by rw [sp_go (by omega), if_pos (by omega)]; exact hI77.2.2.1, hI77.2.2.2⟩) _ _ hP hS ls (lv_sub hl [1, 2, 3, 0] rfl)
        · refine lv_aload_n hx hb dX1_times_52 rfl (lv_at hl 0 rfl) ?_
          refine lv_aload_n hx hb dX1_times_53 rfl (lv_at hl 0 rfl) ?_
          refine va_get (D := D) (ci := 1) (C := RX1) (T := TX1) (N := 8) hx hb hT inX1 hown hK hP 0 rfl rfl 5 (by decide) (hT _ tb_407) (fun _ h9 => h9) rfl dX1_times_54 ?_
          refine zi_const hx hb 1 dX1_times_57 ?_
          refine zi_const hx hb 4 dX1_times_58 ?_
          refine rd_V (As := [.ref (na 3), .int (iZ ((1 : Int))), .int (iZ ((4 : Int)))]) (rest := []) (st1 := [.int (iZ (hsZ (V1 3) (((1 : Int)) * 9).toNat ((((4 : Int)) - ((1 : Int))) * 9).toNat))]) S (k3_X1_has l D mo na cI cJ 0 k V1 ((1 : Int)) ((4 : Int)) (by omega) hp3) tb_479 tb_481 ts_X1_has tb_2 tb_482 hd_X1_has ⟨rfl, rfl, by decide, by decide⟩ rM_bl (rM_mv hP hK) (va_recv hK hP (ci := 1) (q0 := 0) rfl rfl) rfl hl.1 rfl (Nat.le_of_ble_eq_true rfl) dX1_times_59 ⟨Nat.zero_le _, Nat.zero_le _⟩ rfl ?_
          refine zi_feq (tgt := 71) hx hb dX1_times_62 (by decide) (by omega) (fun hc62 => ?_) (fun hc62 => ?_)
          · refine lv_aload_n hx hb dX1_times_71 rfl (lv_at hl 0 rfl) ?_
            refine wm_V (As := []) (rest := []) (st1 := []) (c1 := 0) (k1 := k) S (k_X1_start l D mo na cI cJ 0 k V1  hd ) tb_487 tb_489 ts_X1_start tb_2 tb_490 hd_X1_start ⟨rfl, rfl, by decide, by decide⟩ hP hK hS hA hAn rfl hl.1 rfl (Nat.le_of_ble_eq_true rfl) dX1_times_72 ⟨Nat.zero_le _, Nat.zero_le _⟩ rfl (fun V56 H locs hRV56 hP hS _ _ => ?_)
            refine zi_const hx hb 0 dX1_times_75 ?_
            refine lv_istore_n (lv' := [(3, .int (iZ 0)), (0, .ref mo), (1, .int (iZ f)), (2, .int (iZ g))]) hx hb dX1_times_76 rfl hl (by decide) rfl (fun ls hl => ?_)
            refine lp_goM (nL := 9) (α := (Nat → Nat → Int) × Int) (fun z => [(0, .ref mo), (1, .int (iZ f)), (2, .int (iZ g)), (3, .int (iZ z.2))]) (fun _ => 0) (fun _ => k) (fun z => z.1) (fun m77 z => 0 ≤ z.2 ∧ z.2 + (m77 : Int) = 72 ∧ rwR (z.1 4) (spZ (V 0) G f g z.2.toNat) ∧ z.1 2 = V1 2 ∧ z.1 3 = V1 3 ∧ z.1 0 = V 0) ?_ 72 (V56, (0 : Int)) (by (try dsimp only); exact ⟨by omega, by omega, rw_0 hRV56.1 (fun j hj => (by show fiZ G 0 255 (fun _ => (0 : Int)) j = 0; unfold fiZ; rw [if_pos (by omega)])), hRV56.2 2 (by decide), hRV56.2 3 (by decide), (hRV56.2 0 (by decide)).trans hRV1.2.2⟩) _ _ hP hS ls (lv_sub hl [1, 2, 3, 0] rfl)
            intro m77 z57 hI77 ih77 H locs hP hS ls hl
            obtain ⟨Y, i⟩ := z57
            have hl : lv_has ls 9 [(0, .ref mo), (1, .int (iZ f)), (2, .int (iZ g)), (3, .int (iZ i))] := hl
            have hI77 : 0 ≤ i ∧ i + (m77 : Int) = 72 ∧ rwR (Y 4) (spZ (V 0) G f g i.toNat) ∧ Y 2 = V1 2 ∧ Y 3 = V1 3 ∧ Y 0 = V 0 := hI77
            have hP : va_P D vwCl (mX mo na cI cJ 0 k Y) H := hP
            refine lv_iload_n hx hb dX1_times_77 rfl (lv_at hl 3 rfl) ?_
            refine zi_bi hx hb 72 dX1_times_78 (by decide) ?_
            refine zi_cge (tgt := 236) hx hb dX1_times_80 (by decide) (by omega) (by omega) (fun hc80 => ?_) (fun hc80 => ?_)
            · have hsp : rwR (Y 4) (spZ (V 0) G f g 72) := (show i.toNat = 72 by omega) ▸ hI77.2.2.1
              refine lv_aload_n hx hb dX1_times_236 rfl (lv_at hl 0 rfl) ?_
              refine wm_V (As := []) (rest := []) (st1 := [.int (iZ 0)]) (c1 := 2) (k1 := k) S (kF_X1_narrow l D mo na cI cJ 0 k Y  hd (by omega) hsp.1 (fun q => by have := (rw_ok hsp).mp q; omega)) tb_494 tb_496 ts_X1_narrow tb_2 tb_497 hd_X1_narrow ⟨rfl, rfl, by decide, by decide⟩ hP hK hS hA hAn rfl hl.1 rfl (Nat.le_of_ble_eq_true rfl) dX1_times_237 ⟨Nat.zero_le _, Nat.zero_le _⟩ rfl (fun V58 H locs hRV58 hP hS _ _ => ?_)
              exact wm_iret hx hb hr hlk hP ((show V58 0 = V 0 from hRV58.trans hI77.2.2.2.2.2)) rfl rfl hS (congrArg (fun z => some (Value.int (iZ z))) (show (0 : Int) = 0 from rfl)) dX1_times_240
            · have hpi : Y 2 i.toNat = V 0 ((f * 72).toNat + i.toNat) := by
                rw [hI77.2.2.2.1]
                exact hRV1.1 _ (by omega)
              have hpr := hN ((f * 72).toNat + i.toNat)
              refine lv_aload_n hx hb dX1_times_83 rfl (lv_at hl 0 rfl) ?_
              refine va_get (D := D) (ci := 1) (C := RX1) (T := TX1) (N := 8) hx hb hT inX1 hown hK hP 0 rfl rfl 4 (by decide) (hT _ tb_406) (fun _ h9 => h9) rfl dX1_times_84 ?_
              refine lv_iload_n hx hb dX1_times_87 rfl (lv_at hl 3 rfl) ?_
              refine va_lald hx hb hK hP 3 1 rfl rfl (iZ_in (by omega) (by omega) (by decide)) dX1_times_88 ?_
              refine zl_as (a := Y 2 ((i).toNat)) (by rw [iZ_cl (by omega) (by omega)]) ?_
              refine zl_const hx hb 0 dX1_times_89 (by decide) ?_
              refine zl_cne (tgt := 97) hx hb dX1_times_90 dX1_times_91 (by decide) (by omega) (by omega) (fun hc90 => ?_) (fun hc90 => ?_)
              · refine zi_const hx hb 0 dX1_times_97 ?_
                refine lv_istore (lv' := [(4, .int (iZ 0)), (0, .ref mo), (1, .int (iZ f)), (2, .int (iZ g)), (3, .int (iZ i))]) hx hb dX1_times_98 hl (by decide) rfl (fun ls hl => ?_)
                refine lp_goM (nL := 9) (α := (Nat → Nat → Int) × Int) (fun z => [(0, .ref mo), (1, .int (iZ f)), (2, .int (iZ g)), (3, .int (iZ i)), (4, .int (iZ z.2))]) (fun _ => 0) (fun _ => k) (fun z => z.1) (fun m100 z => 0 ≤ z.2 ∧ z.2 + (m100 : Int) = 72 ∧ rwR (z.1 4) (amZ (V 0) (spZ (V 0) G f g i.toNat) g (jC i.toNat) (jN i.toNat) (V 0 ((f * 72).toNat + i.toNat)) z.2.toNat) ∧ z.1 2 = V1 2 ∧ z.1 3 = V1 3 ∧ z.1 0 = V 0) ?_ 72 (Y, (0 : Int)) (by (try dsimp only); exact ⟨by omega, by omega, hI77.2.2.1, hI77.2.2.2⟩) _ _ hP hS ls (lv_sub hl [1, 2, 3, 4, 0] rfl)
                intro m100 z59 hI100 ih100 H locs hP hS ls hl
                obtain ⟨U, i4⟩ := z59
                have hl : lv_has ls 9 [(0, .ref mo), (1, .int (iZ f)), (2, .int (iZ g)), (3, .int (iZ i)), (4, .int (iZ i4))] := hl
                have hI100 : 0 ≤ i4 ∧ i4 + (m100 : Int) = 72 ∧ rwR (U 4) (amZ (V 0) (spZ (V 0) G f g i.toNat) g (jC i.toNat) (jN i.toNat) (V 0 ((f * 72).toNat + i.toNat)) i4.toNat) ∧ U 2 = V1 2 ∧ U 3 = V1 3 ∧ U 0 = V 0 := hI100
                have hP : va_P D vwCl (mX mo na cI cJ 0 k U) H := hP
                refine lv_iload hx hb dX1_times_100 (lv_at hl 4 rfl) ?_
                refine zi_bi hx hb 72 dX1_times_102 (by decide) ?_
                refine zi_cge (tgt := 230) hx hb dX1_times_104 (by decide) (by omega) (by omega) (fun hc104 => ?_) (fun hc104 => ?_)
                · refine zi_inc (lv' := [(3, .int (iZ (i + 1))), (0, .ref mo), (1, .int (iZ f)), (2, .int (iZ g)), (4, .int (iZ i4))]) hx hb dX1_times_230 hl (k := 3) rfl (by decide) rfl (fun ls hl => ?_)
                  refine lv_goto (tgt := 77) hx hb dX1_times_233 (by decide) ?_
                  exact ih77 (m77 - 1) (U, i + 1) (by omega) (by (try dsimp only); exact ⟨by omega, by omega, by rw [sp_go (by omega), if_neg (by omega)]; exact (show i4.toNat = 72 by omega) ▸ hI100.2.2.1, hI100.2.2.2⟩) _ _ hP hS ls (lv_sub hl [1, 2, 3, 0] rfl)
                · have hqi : U 3 i4.toNat = V 0 ((g * 72).toNat + i4.toNat) := by
                    rw [hI100.2.2.2.2.1]
                    exact hRV1.2.1 _ (by omega)
                  have hpu : U 2 i.toNat = V 0 ((f * 72).toNat + i.toNat) := by
                    rw [hI100.2.2.2.1]
                    exact hRV1.1 _ (by omega)
                  have hqr := hN ((g * 72).toNat + i4.toNat)
                  refine lv_aload_n hx hb dX1_times_107 rfl (lv_at hl 0 rfl) ?_
                  refine va_get (D := D) (ci := 1) (C := RX1) (T := TX1) (N := 8) hx hb hT inX1 hown hK hP 0 rfl rfl 5 (by decide) (hT _ tb_407) (fun _ h9 => h9) rfl dX1_times_108 ?_
                  refine lv_iload hx hb dX1_times_111 (lv_at hl 4 rfl) ?_
                  refine va_lald hx hb hK hP 4 1 rfl rfl (iZ_in (by omega) (by omega) (by decide)) dX1_times_113 ?_
                  refine zl_as (a := U 3 ((i4).toNat)) (by rw [iZ_cl (by omega) (by omega)]) ?_
                  refine zl_const hx hb 0 dX1_times_114 (by decide) ?_
                  refine zl_cne (tgt := 122) hx hb dX1_times_115 dX1_times_116 (by decide) (by omega) (by omega) (fun hc115 => ?_) (fun hc115 => ?_)
                  · have t1 := td9 (n := i) (by omega)
                    have t2 := td9 (n := i4) (by omega)
                    have t3 := tm9 (n := i) (by omega)
                    have t4 := tm9 (n := i4) (by omega)
                    have j1 := jCz (i := i) (by omega)
                    have j2 := jCz (i := i4) (by omega)
                    have hl1 : ¬ (1 ≤ i / 9 ∧ i / 9 < 4 ∧ 4 ≤ i4 / 9) := fun q => lm_leg h0.1 (i := i.toNat) (k := i4.toNat) (by omega) (by omega) (by omega) (by omega) (by omega) (by omega)
                    have hl2 : ¬ (4 ≤ i / 9 ∧ 1 ≤ i4 / 9 ∧ i4 / 9 < 4) := fun q => lm_leg h0.2 (i := i4.toNat) (k := i.toNat) (by omega) (by omega) (by omega) (by omega) (by omega) (by omega)
                    have hmr := mul_rng hpr hqr
                    refine lv_iload_n hx hb dX1_times_122 rfl (lv_at hl 3 rfl) ?_
                    refine zi_bi hx hb 9 dX1_times_123 (by decide) ?_
                    refine zi_div hx hb dX1_times_125 (by omega) (by omega) ?_
                    refine zi_top (fun v60 ev60 => ?_)
                    refine lv_istore (lv' := [(5, .int (iZ v60)), (0, .ref mo), (1, .int (iZ f)), (2, .int (iZ g)), (3, .int (iZ i)), (4, .int (iZ i4))]) hx hb dX1_times_126 hl (by decide) rfl (fun ls hl => ?_)
                    refine lv_iload hx hb dX1_times_128 (lv_at hl 5 rfl) ?_
                    refine zi_bi hx hb 9 dX1_times_130 (by decide) ?_
                    refine zi_div hx hb dX1_times_132 (by omega) (by omega) ?_
                    refine zi_top (fun v61 ev61 => ?_)
                    refine lv_istore (lv' := [(6, .int (iZ v61)), (5, .int (iZ v60)), (0, .ref mo), (1, .int (iZ f)), (2, .int (iZ g)), (3, .int (iZ i)), (4, .int (iZ i4))]) hx hb dX1_times_133 hl (by decide) rfl (fun ls hl => ?_)
                    refine lv_iload hx hb dX1_times_135 (lv_at hl 1 rfl) ?_
                    refine zi_const hx hb 4 dX1_times_137 ?_
                    refine zi_cge (tgt := 155) hx hb dX1_times_138 (by decide) (by omega) (by omega) (fun hc138 => ?_) (fun hc138 => ?_)
                    · refine zi_bi hx hb 11 dX1_times_155 (by decide) ?_
                      refine lv_iload hx hb dX1_times_157 (lv_at hl 1 rfl) ?_
                      refine rd_S (As := [.int (iZ v60)]) (rest := [.int (iZ 11)]) (st1 := [.int (iZ (xpZ v60)), .int (iZ 11)]) S (k_X1_exponent l v60 (by omega)) tb_491 tb_492 tb_2 tb_493 hd_X1_exponent ⟨rfl, rfl, by decide, by decide⟩ bl_T (fun _ _ _ => trivial) rfl hl.1 rfl (Nat.le_of_ble_eq_true rfl) dX1_times_159 ⟨Nat.zero_le _, Nat.zero_le _⟩ rfl ?_
                      have hxe162 : xpZ v60 = (if v60 < 4 then 0 else if v60 < 6 then v60 - 6 else v60 - 5) := rfl
                      refine zi_add hx hb dX1_times_162 ?_
                      refine lv_iload hx hb dX1_times_163 (lv_at hl 0 rfl) ?_
                      refine rd_S (As := [.int (iZ v61)]) (rest := [.int (iZ (11 + (xpZ v60)))]) (st1 := [.int (iZ (xpZ v61)), .int (iZ (11 + (xpZ v60)))]) S (k_X1_exponent l v61 (by omega)) tb_491 tb_492 tb_2 tb_493 hd_X1_exponent ⟨rfl, rfl, by decide, by decide⟩ bl_T (fun _ _ _ => trivial) rfl hl.1 rfl (Nat.le_of_ble_eq_true rfl) dX1_times_165 ⟨Nat.zero_le _, Nat.zero_le _⟩ rfl ?_
                      have hxe168 : xpZ v61 = (if v61 < 4 then 0 else if v61 < 6 then v61 - 6 else v61 - 5) := rfl
                      refine zi_add hx hb dX1_times_168 ?_
                      refine zi_top (fun v62 ev62 => ?_)
                      refine lv_istore (lv' := [(7, .int (iZ v62)), (6, .int (iZ v61)), (5, .int (iZ v60)), (0, .ref mo), (1, .int (iZ f)), (2, .int (iZ g)), (3, .int (iZ i)), (4, .int (iZ i4))]) hx hb dX1_times_169 hl (by decide) rfl (fun ls hl => ?_)
                      have hrl := rw_lz (a := v60) (b := v61) (row := v62) (by omega) (by omega) (by omega) (by omega) (by rw [ev62]; first | rw [if_pos (by omega)] | rw [if_neg (by omega)])
                      rw [show v60 = i / 9 by omega, show v61 = i4 / 9 by omega] at hrl
                      refine zi_bi hx hb 19 dX1_times_171 (by decide) ?_
                      refine lv_iload hx hb dX1_times_173 (lv_at hl 0 rfl) ?_
                      refine zi_mul hx hb dX1_times_175 ?_
                      refine lv_iload_n hx hb dX1_times_176 rfl (lv_at hl 6 rfl) ?_
                      refine zi_bi hx hb 9 dX1_times_177 (by decide) ?_
                      refine zi_rem hx hb dX1_times_179 (by omega) (by omega) ?_
                      refine zi_add hx hb dX1_times_180 ?_
                      refine lv_iload hx hb dX1_times_181 (lv_at hl 7 rfl) ?_
                      refine zi_bi hx hb 9 dX1_times_183 (by decide) ?_
                      refine zi_rem hx hb dX1_times_185 (by omega) (by omega) ?_
                      refine zi_add hx hb dX1_times_186 ?_
                      refine zi_const hx hb 1 dX1_times_187 ?_
                      refine zi_add hx hb dX1_times_188 ?_
                      refine zi_top (fun v63 ev63 => ?_)
                      refine lv_istore (lv' := [(8, .int (iZ v63)), (7, .int (iZ v62)), (6, .int (iZ v61)), (5, .int (iZ v60)), (0, .ref mo), (1, .int (iZ f)), (2, .int (iZ g)), (3, .int (iZ i)), (4, .int (iZ i4))]) hx hb dX1_times_189 hl (by decide) rfl (fun ls hl => ?_)
                      have hur := hI100.2.2.1.1 (v63).toNat (by omega)
                      refine lv_aload_n hx hb dX1_times_191 rfl (lv_at hl 4 rfl) ?_
                      refine va_get (D := D) (ci := 1) (C := RX1) (T := TX1) (N := 8) hx hb hT inX1 hown hK hP 0 rfl rfl 6 (by decide) (hT _ tb_408) (fun _ h9 => h9) rfl dX1_times_192 ?_
                      refine lv_iload hx hb dX1_times_195 (lv_at hl 0 rfl) ?_
                      refine lv_aload_n hx hb dX1_times_197 rfl (lv_at hl 4 rfl) ?_
                      refine va_get (D := D) (ci := 1) (C := RX1) (T := TX1) (N := 8) hx hb hT inX1 hown hK hP 0 rfl rfl 6 (by decide) (hT _ tb_408) (fun _ h9 => h9) rfl dX1_times_198 ?_
                      refine lv_iload hx hb dX1_times_201 (lv_at hl 0 rfl) ?_
                      refine va_lald hx hb hK hP 5 1 rfl rfl (iZ_in (by omega) (by omega) (by decide)) dX1_times_203 ?_
                      refine zl_as (a := U 4 ((v63).toNat)) (by rw [iZ_cl (by omega) (by omega)]) ?_
                      refine lv_aload_n hx hb dX1_times_204 rfl (lv_at hl 4 rfl) ?_
                      refine va_get (D := D) (ci := 1) (C := RX1) (T := TX1) (N := 8) hx hb hT inX1 hown hK hP 0 rfl rfl 4 (by decide) (hT _ tb_406) (fun _ h9 => h9) rfl dX1_times_205 ?_
                      refine lv_iload_n hx hb dX1_times_208 rfl (lv_at hl 7 rfl) ?_
                      refine va_lald hx hb hK hP 3 1 rfl rfl (iZ_in (by omega) (by omega) (by decide)) dX1_times_209 ?_
                      refine zl_as (a := U 2 ((i).toNat)) (by rw [iZ_cl (by omega) (by omega)]) ?_
                      refine lv_aload_n hx hb dX1_times_210 rfl (lv_at hl 4 rfl) ?_
                      refine va_get (D := D) (ci := 1) (C := RX1) (T := TX1) (N := 8) hx hb hT inX1 hown hK hP 0 rfl rfl 5 (by decide) (hT _ tb_407) (fun _ h9 => h9) rfl dX1_times_211 ?_
                      refine lv_iload hx hb dX1_times_214 (lv_at hl 8 rfl) ?_
                      refine va_lald hx hb hK hP 4 1 rfl rfl (iZ_in (by omega) (by omega) (by decide)) dX1_times_216 ?_
                      refine zl_as (a := U 3 ((i4).toNat)) (by rw [iZ_cl (by omega) (by omega)]) ?_
                      refine zl_mul hx hb dX1_times_217 ?_
                      refine zl_top (fun v64 ev64 => ?_)
                      have hvv : v64 = V 0 ((f * 72).toNat + i.toNat) * V 0 ((g * 72).toNat + i4.toNat) := by
                        rw [ev64, hpu, hqi]
                      have hnz : V 0 ((f * 72).toNat + i.toNat) * V 0 ((g * 72).toNat + i4.toNat) ≠ 0 := Int.mul_ne_zero (by omega) (by omega)
                      refine zl_add hx hb dX1_times_218 ?_
                      refine zl_ldc hx hb 32003 hown (hT _ tb_448) (by decide) dX1_times_219 ?_
                      refine zl_rem hx hb dX1_times_222 (by omega) (by omega) ?_
                      have hxx : (Int.tmod ((U 4 (v63).toNat) + v64) 32003 : Int) = (U 4 (v63).toNat + V 0 ((f * 72).toNat + i.toNat) * V 0 ((g * 72).toNat + i4.toNat)) % 32003 := by
                        rw [← hvv]
                        exact tmP (by omega)
                      refine mm_l hx hb hK hP hd hA hS 4 304 rfl (fun g => rfl) (by omega) dX1_times_223 (fun H locs hP hS => ?_)
                      obtain ⟨V65, eV65⟩ : ∃ Z : Nat → Nat → Int, Z = sV U 4 (uZ (U 4) (v63).toNat (Int.tmod ((U 4 (v63).toNat) + v64) 32003)) := ⟨_, rfl⟩
                      rw [← eV65] at hP
                      refine zi_inc (lv' := [(4, .int (iZ (i4 + 1))), (8, .int (iZ v63)), (7, .int (iZ v62)), (6, .int (iZ v61)), (5, .int (iZ v60)), (0, .ref mo), (1, .int (iZ f)), (2, .int (iZ g)), (3, .int (iZ i))]) hx hb dX1_times_224 hl (k := 8) rfl (by decide) rfl (fun ls hl => ?_)
                      refine lv_goto (tgt := 100) hx hb dX1_times_227 (by decide) ?_
                      exact ih100 (m100 - 1) (V65, i4 + 1) (by omega) (by (try dsimp only); exact ⟨by omega, by omega, by rw [eV65, sV_a, am_go (by omega), hxx]; exact rw_step hI100.2.2.1 hrl.1 (by rw [(jCz (i := i4) (by omega)).1, (jCz (i := i) (by omega)).1]; exact hrl.2) (by omega) (by omega) hnz, by rw [eV65, sV_b (by decide)]; exact hI100.2.2.2.1, by rw [eV65, sV_b (by decide)]; exact hI100.2.2.2.2.1, by rw [eV65, sV_b (by decide)]; exact hI100.2.2.2.2.2⟩) _ _ hP hS ls (lv_sub hl [5, 6, 7, 8, 0] rfl)
                    · refine lv_iload hx hb dX1_times_141 (lv_at hl 0 rfl) ?_
                      refine zi_const hx hb 4 dX1_times_143 ?_
                      refine zi_cge (tgt := 155) hx hb dX1_times_144 (by decide) (by omega) (by omega) (fun hc144 => ?_) (fun hc144 => ?_)
                      · refine zi_bi hx hb 11 dX1_times_155 (by decide) ?_
                        refine lv_iload hx hb dX1_times_157 (lv_at hl 1 rfl) ?_
                        refine rd_S (As := [.int (iZ v60)]) (rest := [.int (iZ 11)]) (st1 := [.int (iZ (xpZ v60)), .int (iZ 11)]) S (k_X1_exponent l v60 (by omega)) tb_491 tb_492 tb_2 tb_493 hd_X1_exponent ⟨rfl, rfl, by decide, by decide⟩ bl_T (fun _ _ _ => trivial) rfl hl.1 rfl (Nat.le_of_ble_eq_true rfl) dX1_times_159 ⟨Nat.zero_le _, Nat.zero_le _⟩ rfl ?_
                        have hxe162 : xpZ v60 = (if v60 < 4 then 0 else if v60 < 6 then v60 - 6 else v60 - 5) := rfl
                        refine zi_add hx hb dX1_times_162 ?_
                        refine lv_iload hx hb dX1_times_163 (lv_at hl 0 rfl) ?_
                        refine rd_S (As := [.int (iZ v61)]) (rest := [.int (iZ (11 + (xpZ v60)))]) (st1 := [.int (iZ (xpZ v61)), .int (iZ (11 + (xpZ v60)))]) S (k_X1_exponent l v61 (by omega)) tb_491 tb_492 tb_2 tb_493 hd_X1_exponent ⟨rfl, rfl, by decide, by decide⟩ bl_T (fun _ _ _ => trivial) rfl hl.1 rfl (Nat.le_of_ble_eq_true rfl) dX1_times_165 ⟨Nat.zero_le _, Nat.zero_le _⟩ rfl ?_
                        have hxe168 : xpZ v61 = (if v61 < 4 then 0 else if v61 < 6 then v61 - 6 else v61 - 5) := rfl
                        refine zi_add hx hb dX1_times_168 ?_
                        refine zi_top (fun v66 ev66 => ?_)
                        refine lv_istore (lv' := [(7, .int (iZ v66)), (6, .int (iZ v61)), (5, .int (iZ v60)), (0, .ref mo), (1, .int (iZ f)), (2, .int (iZ g)), (3, .int (iZ i)), (4, .int (iZ i4))]) hx hb dX1_times_169 hl (by decide) rfl (fun ls hl => ?_)
                        have hrl := rw_lz (a := v60) (b := v61) (row := v66) (by omega) (by omega) (by omega) (by omega) (by rw [ev66]; first | rw [if_pos (by omega)] | rw [if_neg (by omega)])
                        rw [show v60 = i / 9 by omega, show v61 = i4 / 9 by omega] at hrl
                        refine zi_bi hx hb 19 dX1_times_171 (by decide) ?_
                        refine lv_iload hx hb dX1_times_173 (lv_at hl 0 rfl) ?_
                        refine zi_mul hx hb dX1_times_175 ?_
                        refine lv_iload_n hx hb dX1_times_176 rfl (lv_at hl 6 rfl) ?_
                        refine zi_bi hx hb 9 dX1_times_177 (by decide) ?_
                        refine zi_rem hx hb dX1_times_179 (by omega) (by omega) ?_
                        refine zi_add hx hb dX1_times_180 ?_
                        refine lv_iload hx hb dX1_times_181 (lv_at hl 7 rfl) ?_
                        refine zi_bi hx hb 9 dX1_times_183 (by decide) ?_
                        refine zi_rem hx hb dX1_times_185 (by omega) (by omega) ?_
                        refine zi_add hx hb dX1_times_186 ?_
                        refine zi_const hx hb 1 dX1_times_187 ?_
                        refine zi_add hx hb dX1_times_188 ?_
                        refine zi_top (fun v67 ev67 => ?_)
                        refine lv_istore (lv' := [(8, .int (iZ v67)), (7, .int (iZ v66)), (6, .int (iZ v61)), (5, .int (iZ v60)), (0, .ref mo), (1, .int (iZ f)), (2, .int (iZ g)), (3, .int (iZ i)), (4, .int (iZ i4))]) hx hb dX1_times_189 hl (by decide) rfl (fun ls hl => ?_)
                        have hur := hI100.2.2.1.1 (v67).toNat (by omega)
                        refine lv_aload_n hx hb dX1_times_191 rfl (lv_at hl 4 rfl) ?_
                        refine va_get (D := D) (ci := 1) (C := RX1) (T := TX1) (N := 8) hx hb hT inX1 hown hK hP 0 rfl rfl 6 (by decide) (hT _ tb_408) (fun _ h9 => h9) rfl dX1_times_192 ?_
                        refine lv_iload hx hb dX1_times_195 (lv_at hl 0 rfl) ?_
                        refine lv_aload_n hx hb dX1_times_197 rfl (lv_at hl 4 rfl) ?_
                        refine va_get (D := D) (ci := 1) (C := RX1) (T := TX1) (N := 8) hx hb hT inX1 hown hK hP 0 rfl rfl 6 (by decide) (hT _ tb_408) (fun _ h9 => h9) rfl dX1_times_198 ?_
                        refine lv_iload hx hb dX1_times_201 (lv_at hl 0 rfl) ?_
                        refine va_lald hx hb hK hP 5 1 rfl rfl (iZ_in (by omega) (by omega) (by decide)) dX1_times_203 ?_
                        refine zl_as (a := U 4 ((v67).toNat)) (by rw [iZ_cl (by omega) (by omega)]) ?_
                        refine lv_aload_n hx hb dX1_times_204 rfl (lv_at hl 4 rfl) ?_
                        refine va_get (D := D) (ci := 1) (C := RX1) (T := TX1) (N := 8) hx hb hT inX1 hown hK hP 0 rfl rfl 4 (by decide) (hT _ tb_406) (fun _ h9 => h9) rfl dX1_times_205 ?_
                        refine lv_iload_n hx hb dX1_times_208 rfl (lv_at hl 7 rfl) ?_
                        refine va_lald hx hb hK hP 3 1 rfl rfl (iZ_in (by omega) (by omega) (by decide)) dX1_times_209 ?_
                        refine zl_as (a := U 2 ((i).toNat)) (by rw [iZ_cl (by omega) (by omega)]) ?_
                        refine lv_aload_n hx hb dX1_times_210 rfl (lv_at hl 4 rfl) ?_
                        refine va_get (D := D) (ci := 1) (C := RX1) (T := TX1) (N := 8) hx hb hT inX1 hown hK hP 0 rfl rfl 5 (by decide) (hT _ tb_407) (fun _ h9 => h9) rfl dX1_times_211 ?_
                        refine lv_iload hx hb dX1_times_214 (lv_at hl 8 rfl) ?_
                        refine va_lald hx hb hK hP 4 1 rfl rfl (iZ_in (by omega) (by omega) (by decide)) dX1_times_216 ?_
                        refine zl_as (a := U 3 ((i4).toNat)) (by rw [iZ_cl (by omega) (by omega)]) ?_
                        refine zl_mul hx hb dX1_times_217 ?_
                        refine zl_top (fun v68 ev68 => ?_)
                        have hvv : v68 = V 0 ((f * 72).toNat + i.toNat) * V 0 ((g * 72).toNat + i4.toNat) := by
                          rw [ev68, hpu, hqi]
                        have hnz : V 0 ((f * 72).toNat + i.toNat) * V 0 ((g * 72).toNat + i4.toNat) ≠ 0 := Int.mul_ne_zero (by omega) (by omega)
                        refine zl_add hx hb dX1_times_218 ?_
                        refine zl_ldc hx hb 32003 hown (hT _ tb_448) (by decide) dX1_times_219 ?_
                        refine zl_rem hx hb dX1_times_222 (by omega) (by omega) ?_
                        have hxx : (Int.tmod ((U 4 (v67).toNat) + v68) 32003 : Int) = (U 4 (v67).toNat + V 0 ((f * 72).toNat + i.toNat) * V 0 ((g * 72).toNat + i4.toNat)) % 32003 := by
                          rw [← hvv]
                          exact tmP (by omega)
                        refine mm_l hx hb hK hP hd hA hS 4 304 rfl (fun g => rfl) (by omega) dX1_times_223 (fun H locs hP hS => ?_)
                        obtain ⟨V69, eV69⟩ : ∃ Z : Nat → Nat → Int, Z = sV U 4 (uZ (U 4) (v67).toNat (Int.tmod ((U 4 (v67).toNat) + v68) 32003)) := ⟨_, rfl⟩
                        rw [← eV69] at hP
                        refine zi_inc (lv' := [(4, .int (iZ (i4 + 1))), (8, .int (iZ v67)), (7, .int (iZ v66)), (6, .int (iZ v61)), (5, .int (iZ v60)), (0, .ref mo), (1, .int (iZ f)), (2, .int (iZ g)), (3, .int (iZ i))]) hx hb dX1_times_224 hl (k := 8) rfl (by decide) rfl (fun ls hl => ?_)
                        refine lv_goto (tgt := 100) hx hb dX1_times_227 (by decide) ?_
                        exact ih100 (m100 - 1) (V69, i4 + 1) (by omega) (by (try dsimp only); exact ⟨by omega, by omega, by rw [eV69, sV_a, am_go (by omega), hxx]; exact rw_step hI100.2.2.1 hrl.1 (by rw [(jCz (i := i4) (by omega)).1, (jCz (i := i) (by omega)).1]; exact hrl.2) (by omega) (by omega) hnz, by rw [eV69, sV_b (by decide)]; exact hI100.2.2.2.1, by rw [eV69, sV_b (by decide)]; exact hI100.2.2.2.2.1, by rw [eV69, sV_b (by decide)]; exact hI100.2.2.2.2.2⟩) _ _ hP hS ls (lv_sub hl [5, 6, 7, 8, 0] rfl)
                      · refine lv_iload hx hb dX1_times_147 (lv_at hl 1 rfl) ?_
                        refine lv_iload hx hb dX1_times_149 (lv_at hl 0 rfl) ?_
                        refine zi_add hx hb dX1_times_151 ?_
                        refine lv_goto (tgt := 169) hx hb dX1_times_152 (by decide) ?_
                        refine zi_top (fun v70 ev70 => ?_)
                        refine lv_istore (lv' := [(7, .int (iZ v70)), (6, .int (iZ v61)), (5, .int (iZ v60)), (0, .ref mo), (1, .int (iZ f)), (2, .int (iZ g)), (3, .int (iZ i)), (4, .int (iZ i4))]) hx hb dX1_times_169 hl (by decide) rfl (fun ls hl => ?_)
                        have hrl := rw_lz (a := v60) (b := v61) (row := v70) (by omega) (by omega) (by omega) (by omega) (by rw [ev70]; first | rw [if_pos (by omega)] | rw [if_neg (by omega)])
                        rw [show v60 = i / 9 by omega, show v61 = i4 / 9 by omega] at hrl
                        refine zi_bi hx hb 19 dX1_times_171 (by decide) ?_
                        refine lv_iload hx hb dX1_times_173 (lv_at hl 0 rfl) ?_
                        refine zi_mul hx hb dX1_times_175 ?_
                        refine lv_iload_n hx hb dX1_times_176 rfl (lv_at hl 6 rfl) ?_
                        refine zi_bi hx hb 9 dX1_times_177 (by decide) ?_
                        refine zi_rem hx hb dX1_times_179 (by omega) (by omega) ?_
                        refine zi_add hx hb dX1_times_180 ?_
                        refine lv_iload hx hb dX1_times_181 (lv_at hl 7 rfl) ?_
                        refine zi_bi hx hb 9 dX1_times_183 (by decide) ?_
                        refine zi_rem hx hb dX1_times_185 (by omega) (by omega) ?_
                        refine zi_add hx hb dX1_times_186 ?_
                        refine zi_const hx hb 1 dX1_times_187 ?_
                        refine zi_add hx hb dX1_times_188 ?_
                        refine zi_top (fun v71 ev71 => ?_)
                        refine lv_istore (lv' := [(8, .int (iZ v71)), (7, .int (iZ v70)), (6, .int (iZ v61)), (5, .int (iZ v60)), (0, .ref mo), (1, .int (iZ f)), (2, .int (iZ g)), (3, .int (iZ i)), (4, .int (iZ i4))]) hx hb dX1_times_189 hl (by decide) rfl (fun ls hl => ?_)
                        have hur := hI100.2.2.1.1 (v71).toNat (by omega)
                        refine lv_aload_n hx hb dX1_times_191 rfl (lv_at hl 4 rfl) ?_
                        refine va_get (D := D) (ci := 1) (C := RX1) (T := TX1) (N := 8) hx hb hT inX1 hown hK hP 0 rfl rfl 6 (by decide) (hT _ tb_408) (fun _ h9 => h9) rfl dX1_times_192 ?_
                        refine lv_iload hx hb dX1_times_195 (lv_at hl 0 rfl) ?_
                        refine lv_aload_n hx hb dX1_times_197 rfl (lv_at hl 4 rfl) ?_
                        refine va_get (D := D) (ci := 1) (C := RX1) (T := TX1) (N := 8) hx hb hT inX1 hown hK hP 0 rfl rfl 6 (by decide) (hT _ tb_408) (fun _ h9 => h9) rfl dX1_times_198 ?_
                        refine lv_iload hx hb dX1_times_201 (lv_at hl 0 rfl) ?_
                        refine va_lald hx hb hK hP 5 1 rfl rfl (iZ_in (by omega) (by omega) (by decide)) dX1_times_203 ?_
                        refine zl_as (a := U 4 ((v71).toNat)) (by rw [iZ_cl (by omega) (by omega)]) ?_
                        refine lv_aload_n hx hb dX1_times_204 rfl (lv_at hl 4 rfl) ?_
                        refine va_get (D := D) (ci := 1) (C := RX1) (T := TX1) (N := 8) hx hb hT inX1 hown hK hP 0 rfl rfl 4 (by decide) (hT _ tb_406) (fun _ h9 => h9) rfl dX1_times_205 ?_
                        refine lv_iload_n hx hb dX1_times_208 rfl (lv_at hl 7 rfl) ?_
                        refine va_lald hx hb hK hP 3 1 rfl rfl (iZ_in (by omega) (by omega) (by decide)) dX1_times_209 ?_
                        refine zl_as (a := U 2 ((i).toNat)) (by rw [iZ_cl (by omega) (by omega)]) ?_
                        refine lv_aload_n hx hb dX1_times_210 rfl (lv_at hl 4 rfl) ?_
                        refine va_get (D := D) (ci := 1) (C := RX1) (T := TX1) (N := 8) hx hb hT inX1 hown hK hP 0 rfl rfl 5 (by decide) (hT _ tb_407) (fun _ h9 => h9) rfl dX1_times_211 ?_
                        refine lv_iload hx hb dX1_times_214 (lv_at hl 8 rfl) ?_
                        refine va_lald hx hb hK hP 4 1 rfl rfl (iZ_in (by omega) (by omega) (by decide)) dX1_times_216 ?_
                        refine zl_as (a := U 3 ((i4).toNat)) (by rw [iZ_cl (by omega) (by omega)]) ?_
                        refine zl_mul hx hb dX1_times_217 ?_
                        refine zl_top (fun v72 ev72 => ?_)
                        have hvv : v72 = V 0 ((f * 72).toNat + i.toNat) * V 0 ((g * 72).toNat + i4.toNat) := by
                          rw [ev72, hpu, hqi]
                        have hnz : V 0 ((f * 72).toNat + i.toNat) * V 0 ((g * 72).toNat + i4.toNat) ≠ 0 := Int.mul_ne_zero (by omega) (by omega)
                        refine zl_add hx hb dX1_times_218 ?_
                        refine zl_ldc hx hb 32003 hown (hT _ tb_448) (by decide) dX1_times_219 ?_
                        refine zl_rem hx hb dX1_times_222 (by omega) (by omega) ?_
                        have hxx : (Int.tmod ((U 4 (v71).toNat) + v72) 32003 : Int) = (U 4 (v71).toNat + V 0 ((f * 72).toNat + i.toNat) * V 0 ((g * 72).toNat + i4.toNat)) % 32003 := by
                          rw [← hvv]
                          exact tmP (by omega)
                        refine mm_l hx hb hK hP hd hA hS 4 304 rfl (fun g => rfl) (by omega) dX1_times_223 (fun H locs hP hS => ?_)
                        obtain ⟨V73, eV73⟩ : ∃ Z : Nat → Nat → Int, Z = sV U 4 (uZ (U 4) (v71).toNat (Int.tmod ((U 4 (v71).toNat) + v72) 32003)) := ⟨_, rfl⟩
                        rw [← eV73] at hP
                        refine zi_inc (lv' := [(4, .int (iZ (i4 + 1))), (8, .int (iZ v71)), (7, .int (iZ v70)), (6, .int (iZ v61)), (5, .int (iZ v60)), (0, .ref mo), (1, .int (iZ f)), (2, .int (iZ g)), (3, .int (iZ i))]) hx hb dX1_times_224 hl (k := 8) rfl (by decide) rfl (fun ls hl => ?_)
                        refine lv_goto (tgt := 100) hx hb dX1_times_227 (by decide) ?_
                        exact ih100 (m100 - 1) (V73, i4 + 1) (by omega) (by (try dsimp only); exact ⟨by omega, by omega, by rw [eV73, sV_a, am_go (by omega), hxx]; exact rw_step hI100.2.2.1 hrl.1 (by rw [(jCz (i := i4) (by omega)).1, (jCz (i := i) (by omega)).1]; exact hrl.2) (by omega) (by omega) hnz, by rw [eV73, sV_b (by decide)]; exact hI100.2.2.2.1, by rw [eV73, sV_b (by decide)]; exact hI100.2.2.2.2.1, by rw [eV73, sV_b (by decide)]; exact hI100.2.2.2.2.2⟩) _ _ hP hS ls (lv_sub hl [5, 6, 7, 8, 0] rfl)
                  · refine lv_goto (tgt := 224) hx hb dX1_times_119 (by decide) ?_
                    refine zi_inc (lv' := [(4, .int (iZ (i4 + 1))), (0, .ref mo), (1, .int (iZ f)), (2, .int (iZ g)), (3, .int (iZ i))]) hx hb dX1_times_224 hl (k := 4) rfl (by decide) rfl (fun ls hl => ?_)
                    refine lv_goto (tgt := 100) hx hb dX1_times_227 (by decide) ?_
                    exact ih100 (m100 - 1) (U, i4 + 1) (by omega) (by (try dsimp only); exact ⟨by omega, by omega, by rw [am_skip (by omega) (by omega)]; exact hI100.2.2.1, hI100.2.2.2⟩) _ _ hP hS ls (lv_sub hl [1, 2, 3, 4, 0] rfl)
              · refine lv_goto (tgt := 230) hx hb dX1_times_94 (by decide) ?_
                refine zi_inc (lv' := [(3, .int (iZ (i + 1))), (0, .ref mo), (1, .int (iZ f)), (2, .int (iZ g))]) hx hb dX1_times_230 hl (k := 3) rfl (by decide) rfl (fun ls hl => ?_)
                refine lv_goto (tgt := 77) hx hb dX1_times_233 (by decide) ?_
                exact ih77 (m77 - 1) (Y, i + 1) (by omega) (by (try dsimp only); exact ⟨by omega, by omega, by rw [sp_go (by omega), if_pos (by omega)]; exact hI77.2.2.1, hI77.2.2.2⟩) _ _ hP hS ls (lv_sub hl [1, 2, 3, 0] rfl)
          · exfalso
            omega
  · exfalso
    omega
set_option maxHeartbeats 4000000 in
set_option maxRecDepth 100000 in
theorem kF_X1_times (l : Launch) (D : va_G) (mo : Nat) (na : Nat → Nat) (cI cJ : ClassId) (c0 k : Int) (V : Nat → Nat → Int) (f g : Int) (hd : dM mo na) (hN : ∀ j, 0 ≤ V 0 j ∧ V 0 j < 32003) (hk : 0 ≤ k ∧ k < 60) (hf : 0 ≤ f ∧ f < k) (hg : 0 ≤ g ∧ g < k) (h0 : lmZ (V 0) f g = 1 ∨ lmZ (V 0) g f = 1) : wm_M l yX1_times cX1_times 9 (some .int) ({ frames := 3, cells := 0, slots := 0, locals := 68 }) [.int (iZ f), .int (iZ g)] D mo na cI cJ c0 k V (some (.int (iZ 0))) 2 k (fun Z => Z 0 = V 0) := by
  refine wm_of (by decide) rfl (Nat.le_of_ble_eq_true rfl) ?_
  intro p e s m below meth c A hAe S hr hlk hP hK hA hAn hS ls hl
  obtain ⟨hx, hb, hml, hown, hT⟩ := id S
  have hl : lv_has ls 9 [(0, .ref mo), (1, .int (iZ f)), (2, .int (iZ g))] := hl
  refine lv_aload_n hx hb dX1_times_0 rfl (lv_at hl 0 rfl) ?_
  refine lv_iload_n hx hb dX1_times_1 rfl (lv_at hl 1 rfl) ?_
  refine lv_iload_n hx hb dX1_times_2 rfl (lv_at hl 2 rfl) ?_
  refine wm_V (As := [.int (iZ f), .int (iZ g)]) (rest := []) (st1 := [.int (iZ 1)]) (c1 := 0) (k1 := k) S (k_X1_may l D mo na cI cJ c0 k V f g hd hN (by omega) (by omega) (by omega)) tb_462 tb_464 ts_X1_may tb_2 tb_465 hd_X1_may ⟨rfl, rfl, by decide, by decide⟩ hP hK hS hA hAn rfl hl.1 rfl (Nat.le_of_ble_eq_true rfl) dX1_times_3 ⟨Nat.zero_le _, Nat.zero_le _⟩ rfl (fun V1 H locs hRV1 hP hS _ _ => ?_)
  have hp2 : ∀ j : Nat, j < 72 → 0 ≤ V1 2 j ∧ V1 2 j < 32003 := fun j hj => by rw [hRV1.1 j hj]; exact hN _
  have hp3 : ∀ j : Nat, j < 72 → 0 ≤ V1 3 j ∧ V1 3 j < 32003 := fun j hj => by rw [hRV1.2.1 j hj]; exact hN _
  have hc2_9 : cnZ (V1 2) (1 * 9 : Int).toNat ((4 - 1) * 9 : Int).toNat = cnZ (V 0) (f * 72 + 9).toNat 27 := cn_cg 27 (fun j hj => by rw [show (1 * 9 : Int).toNat + j = 9 + j from rfl, hRV1.1 _ (by omega)]; exact congrArg (V 0) (by omega))
  have hc2_36 : cnZ (V1 2) (4 * 9 : Int).toNat ((8 - 4) * 9 : Int).toNat = cnZ (V 0) (f * 72 + 36).toNat 36 := cn_cg 36 (fun j hj => by rw [show (4 * 9 : Int).toNat + j = 36 + j from rfl, hRV1.1 _ (by omega)]; exact congrArg (V 0) (by omega))
  have hc3_9 : cnZ (V1 3) (1 * 9 : Int).toNat ((4 - 1) * 9 : Int).toNat = cnZ (V 0) (g * 72 + 9).toNat 27 := cn_cg 27 (fun j hj => by rw [show (1 * 9 : Int).toNat + j = 9 + j from rfl, hRV1.2.1 _ (by omega)]; exact congrArg (V 0) (by omega))
  have hc3_36 : cnZ (V1 3) (4 * 9 : Int).toNat ((8 - 4) * 9 : Int).toNat = cnZ (V 0) (g * 72 + 36).toNat 36 := cn_cg 36 (fun j hj => by rw [show (4 * 9 : Int).toNat + j = 36 + j from rfl, hRV1.2.1 _ (by omega)]; exact congrArg (V 0) (by omega))
  have hlm1 := lmZ_or (V 0) f g
  have hlm2 := lmZ_or (V 0) g f
  have hs2_9 := hsZ_or (V1 2) (1 * 9 : Int).toNat ((4 - 1) * 9 : Int).toNat
  rw [hc2_9] at hs2_9
  have hs2_36 := hsZ_or (V1 2) (4 * 9 : Int).toNat ((8 - 4) * 9 : Int).toNat
  rw [hc2_36] at hs2_36
  have hs3_9 := hsZ_or (V1 3) (1 * 9 : Int).toNat ((4 - 1) * 9 : Int).toNat
  rw [hc3_9] at hs3_9
  have hs3_36 := hsZ_or (V1 3) (4 * 9 : Int).toNat ((8 - 4) * 9 : Int).toNat
  rw [hc3_36] at hs3_36
  refine zi_fne (tgt := 11) hx hb dX1_times_6 (by decide) (by omega) (fun hc6 => ?_) (fun hc6 => ?_)
  · refine lv_aload_n hx hb dX1_times_11 rfl (lv_at hl 0 rfl) ?_
    refine lv_aload_n hx hb dX1_times_12 rfl (lv_at hl 0 rfl) ?_
    refine va_get (D := D) (ci := 1) (C := RX1) (T := TX1) (N := 8) hx hb hT inX1 hown hK hP 0 rfl rfl 4 (by decide) (hT _ tb_406) (fun _ h9 => h9) rfl dX1_times_13 ?_
    refine zi_const hx hb 1 dX1_times_16 ?_
    refine zi_const hx hb 4 dX1_times_17 ?_
    refine rd_V (As := [.ref (na 2), .int (iZ ((1 : Int))), .int (iZ ((4 : Int)))]) (rest := []) (st1 := [.int (iZ (hsZ (V1 2) (((1 : Int)) * 9).toNat ((((4 : Int)) - ((1 : Int))) * 9).toNat))]) S (k2_X1_has l D mo na cI cJ 0 k V1 ((1 : Int)) ((4 : Int)) (by omega) hp2) tb_479 tb_481 ts_X1_has tb_2 tb_482 hd_X1_has ⟨rfl, rfl, by decide, by decide⟩ rM_bl (rM_mv hP hK) (va_recv hK hP (ci := 1) (q0 := 0) rfl rfl) rfl hl.1 rfl (Nat.le_of_ble_eq_true rfl) dX1_times_18 ⟨Nat.zero_le _, Nat.zero_le _⟩ rfl ?_
    refine zi_feq (tgt := 38) hx hb dX1_times_21 (by decide) (by omega) (fun hc21 => ?_) (fun hc21 => ?_)
    · refine lv_aload_n hx hb dX1_times_38 rfl (lv_at hl 0 rfl) ?_
      refine lv_aload_n hx hb dX1_times_39 rfl (lv_at hl 0 rfl) ?_
      refine va_get (D := D) (ci := 1) (C := RX1) (T := TX1) (N := 8) hx hb hT inX1 hown hK hP 0 rfl rfl 4 (by decide) (hT _ tb_406) (fun _ h9 => h9) rfl dX1_times_40 ?_
      refine zi_const hx hb 4 dX1_times_43 ?_
      refine zi_bi hx hb 8 dX1_times_44 (by decide) ?_
      refine rd_V (As := [.ref (na 2), .int (iZ ((4 : Int))), .int (iZ ((8 : Int)))]) (rest := []) (st1 := [.int (iZ (hsZ (V1 2) (((4 : Int)) * 9).toNat ((((8 : Int)) - ((4 : Int))) * 9).toNat))]) S (k2_X1_has l D mo na cI cJ 0 k V1 ((4 : Int)) ((8 : Int)) (by omega) hp2) tb_479 tb_481 ts_X1_has tb_2 tb_482 hd_X1_has ⟨rfl, rfl, by decide, by decide⟩ rM_bl (rM_mv hP hK) (va_recv hK hP (ci := 1) (q0 := 0) rfl rfl) rfl hl.1 rfl (Nat.le_of_ble_eq_true rfl) dX1_times_46 ⟨Nat.zero_le _, Nat.zero_le _⟩ rfl ?_
      refine zi_feq (tgt := 71) hx hb dX1_times_49 (by decide) (by omega) (fun hc49 => ?_) (fun hc49 => ?_)
      · exfalso
        omega
      · refine lv_aload_n hx hb dX1_times_52 rfl (lv_at hl 0 rfl) ?_
        refine lv_aload_n hx hb dX1_times_53 rfl (lv_at hl 0 rfl) ?_
        refine va_get (D := D) (ci := 1) (C := RX1) (T := TX1) (N := 8) hx hb hT inX1 hown hK hP 0 rfl rfl 5 (by decide) (hT _ tb_407) (fun _ h9 => h9) rfl dX1_times_54 ?_
        refine zi_const hx hb 1 dX1_times_57 ?_
        refine zi_const hx hb 4 dX1_times_58 ?_
        refine rd_V (As := [.ref (na 3), .int (iZ ((1 : Int))), .int (iZ ((4 : Int)))]) (rest := []) (st1 := [.int (iZ (hsZ (V1 3) (((1 : Int)) * 9).toNat ((((4 : Int)) - ((1 : Int))) * 9).toNat))]) S (k3_X1_has l D mo na cI cJ 0 k V1 ((1 : Int)) ((4 : Int)) (by omega) hp3) tb_479 tb_481 ts_X1_has tb_2 tb_482 hd_X1_has ⟨rfl, rfl, by decide, by decide⟩ rM_bl (rM_mv hP hK) (va_recv hK hP (ci := 1) (q0 := 0) rfl rfl) rfl hl.1 rfl (Nat.le_of_ble_eq_true rfl) dX1_times_59 ⟨Nat.zero_le _, Nat.zero_le _⟩ rfl ?_
        refine zi_feq (tgt := 71) hx hb dX1_times_62 (by decide) (by omega) (fun hc62 => ?_) (fun hc62 => ?_)
        · exfalso
          omega
        · refine lv_aload_n hx hb dX1_times_65 rfl (lv_at hl 0 rfl) ?_
          refine zi_const hx hb 2 dX1_times_66 ?_
          refine wm_V (As := [.int (iZ 2)]) (rest := []) (st1 := [.int (iZ 0)]) (c1 := 2) (k1 := k) S (k_X1_raise l D mo na cI cJ 0 k V1 2 hd ) tb_483 tb_485 ts_X1_raise tb_2 tb_486 hd_X1_raise ⟨rfl, rfl, by decide, by decide⟩ hP hK hS hA hAn rfl hl.1 rfl (Nat.le_of_ble_eq_true rfl) dX1_times_67 ⟨Nat.zero_le _, Nat.zero_le _⟩ rfl (fun V2 H locs hRV2 hP hS _ _ => ?_)
          exact wm_iret hx hb hr hlk hP ((show V2 0 = V 0 from (congrFun hRV2 0).trans hRV1.2.2)) rfl rfl hS (congrArg (fun z => some (Value.int (iZ z))) (show (0 : Int) = 0 from rfl)) dX1_times_70
    · refine lv_aload_n hx hb dX1_times_24 rfl (lv_at hl 0 rfl) ?_
      refine lv_aload_n hx hb dX1_times_25 rfl (lv_at hl 0 rfl) ?_
      refine va_get (D := D) (ci := 1) (C := RX1) (T := TX1) (N := 8) hx hb hT inX1 hown hK hP 0 rfl rfl 5 (by decide) (hT _ tb_407) (fun _ h9 => h9) rfl dX1_times_26 ?_
      refine zi_const hx hb 4 dX1_times_29 ?_
      refine zi_bi hx hb 8 dX1_times_30 (by decide) ?_
      refine rd_V (As := [.ref (na 3), .int (iZ ((4 : Int))), .int (iZ ((8 : Int)))]) (rest := []) (st1 := [.int (iZ (hsZ (V1 3) (((4 : Int)) * 9).toNat ((((8 : Int)) - ((4 : Int))) * 9).toNat))]) S (k3_X1_has l D mo na cI cJ 0 k V1 ((4 : Int)) ((8 : Int)) (by omega) hp3) tb_479 tb_481 ts_X1_has tb_2 tb_482 hd_X1_has ⟨rfl, rfl, by decide, by decide⟩ rM_bl (rM_mv hP hK) (va_recv hK hP (ci := 1) (q0 := 0) rfl rfl) rfl hl.1 rfl (Nat.le_of_ble_eq_true rfl) dX1_times_32 ⟨Nat.zero_le _, Nat.zero_le _⟩ rfl ?_
      refine zi_fne (tgt := 65) hx hb dX1_times_35 (by decide) (by omega) (fun hc35 => ?_) (fun hc35 => ?_)
      · refine lv_aload_n hx hb dX1_times_65 rfl (lv_at hl 0 rfl) ?_
        refine zi_const hx hb 2 dX1_times_66 ?_
        refine wm_V (As := [.int (iZ 2)]) (rest := []) (st1 := [.int (iZ 0)]) (c1 := 2) (k1 := k) S (k_X1_raise l D mo na cI cJ 0 k V1 2 hd ) tb_483 tb_485 ts_X1_raise tb_2 tb_486 hd_X1_raise ⟨rfl, rfl, by decide, by decide⟩ hP hK hS hA hAn rfl hl.1 rfl (Nat.le_of_ble_eq_true rfl) dX1_times_67 ⟨Nat.zero_le _, Nat.zero_le _⟩ rfl (fun V3 H locs hRV3 hP hS _ _ => ?_)
        exact wm_iret hx hb hr hlk hP ((show V3 0 = V 0 from (congrFun hRV3 0).trans hRV1.2.2)) rfl rfl hS (congrArg (fun z => some (Value.int (iZ z))) (show (0 : Int) = 0 from rfl)) dX1_times_70
      · refine lv_aload_n hx hb dX1_times_38 rfl (lv_at hl 0 rfl) ?_
        refine lv_aload_n hx hb dX1_times_39 rfl (lv_at hl 0 rfl) ?_
        refine va_get (D := D) (ci := 1) (C := RX1) (T := TX1) (N := 8) hx hb hT inX1 hown hK hP 0 rfl rfl 4 (by decide) (hT _ tb_406) (fun _ h9 => h9) rfl dX1_times_40 ?_
        refine zi_const hx hb 4 dX1_times_43 ?_
        refine zi_bi hx hb 8 dX1_times_44 (by decide) ?_
        refine rd_V (As := [.ref (na 2), .int (iZ ((4 : Int))), .int (iZ ((8 : Int)))]) (rest := []) (st1 := [.int (iZ (hsZ (V1 2) (((4 : Int)) * 9).toNat ((((8 : Int)) - ((4 : Int))) * 9).toNat))]) S (k2_X1_has l D mo na cI cJ 0 k V1 ((4 : Int)) ((8 : Int)) (by omega) hp2) tb_479 tb_481 ts_X1_has tb_2 tb_482 hd_X1_has ⟨rfl, rfl, by decide, by decide⟩ rM_bl (rM_mv hP hK) (va_recv hK hP (ci := 1) (q0 := 0) rfl rfl) rfl hl.1 rfl (Nat.le_of_ble_eq_true rfl) dX1_times_46 ⟨Nat.zero_le _, Nat.zero_le _⟩ rfl ?_
        refine zi_feq (tgt := 71) hx hb dX1_times_49 (by decide) (by omega) (fun hc49 => ?_) (fun hc49 => ?_)
        · exfalso
          omega
        · refine lv_aload_n hx hb dX1_times_52 rfl (lv_at hl 0 rfl) ?_
          refine lv_aload_n hx hb dX1_times_53 rfl (lv_at hl 0 rfl) ?_
          refine va_get (D := D) (ci := 1) (C := RX1) (T := TX1) (N := 8) hx hb hT inX1 hown hK hP 0 rfl rfl 5 (by decide) (hT _ tb_407) (fun _ h9 => h9) rfl dX1_times_54 ?_
          refine zi_const hx hb 1 dX1_times_57 ?_
          refine zi_const hx hb 4 dX1_times_58 ?_
          refine rd_V (As := [.ref (na 3), .int (iZ ((1 : Int))), .int (iZ ((4 : Int)))]) (rest := []) (st1 := [.int (iZ (hsZ (V1 3) (((1 : Int)) * 9).toNat ((((4 : Int)) - ((1 : Int))) * 9).toNat))]) S (k3_X1_has l D mo na cI cJ 0 k V1 ((1 : Int)) ((4 : Int)) (by omega) hp3) tb_479 tb_481 ts_X1_has tb_2 tb_482 hd_X1_has ⟨rfl, rfl, by decide, by decide⟩ rM_bl (rM_mv hP hK) (va_recv hK hP (ci := 1) (q0 := 0) rfl rfl) rfl hl.1 rfl (Nat.le_of_ble_eq_true rfl) dX1_times_59 ⟨Nat.zero_le _, Nat.zero_le _⟩ rfl ?_
          refine zi_feq (tgt := 71) hx hb dX1_times_62 (by decide) (by omega) (fun hc62 => ?_) (fun hc62 => ?_)
          · exfalso
            omega
          · refine lv_aload_n hx hb dX1_times_65 rfl (lv_at hl 0 rfl) ?_
            refine zi_const hx hb 2 dX1_times_66 ?_
            refine wm_V (As := [.int (iZ 2)]) (rest := []) (st1 := [.int (iZ 0)]) (c1 := 2) (k1 := k) S (k_X1_raise l D mo na cI cJ 0 k V1 2 hd ) tb_483 tb_485 ts_X1_raise tb_2 tb_486 hd_X1_raise ⟨rfl, rfl, by decide, by decide⟩ hP hK hS hA hAn rfl hl.1 rfl (Nat.le_of_ble_eq_true rfl) dX1_times_67 ⟨Nat.zero_le _, Nat.zero_le _⟩ rfl (fun V4 H locs hRV4 hP hS _ _ => ?_)
            exact wm_iret hx hb hr hlk hP ((show V4 0 = V 0 from (congrFun hRV4 0).trans hRV1.2.2)) rfl rfl hS (congrArg (fun z => some (Value.int (iZ z))) (show (0 : Int) = 0 from rfl)) dX1_times_70
  · exfalso
    omega
