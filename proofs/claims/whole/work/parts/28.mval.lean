/-- alike modulo 32003 -/
def cg (x y : Int) : Prop := ∃ q : Int, x = y + 32003 * q
theorem cg_rfl {x : Int} : cg x x := ⟨0, by omega⟩
theorem cg_of {x y : Int} (h : x = y) : cg x y := h ▸ cg_rfl
theorem cg_tr {x y z : Int} (h : cg x y) (h2 : cg y z) : cg x z := by
  obtain ⟨q, h⟩ := h
  obtain ⟨r, h2⟩ := h2
  exact ⟨q + r, by omega⟩
theorem cg_sy {x y : Int} (h : cg x y) : cg y x := by
  obtain ⟨q, h⟩ := h
  exact ⟨-q, by omega⟩
theorem cg_ad {x y z w : Int} (h : cg x y) (h2 : cg z w) : cg (x + z) (y + w) := by
  obtain ⟨q, h⟩ := h
  obtain ⟨r, h2⟩ := h2
  exact ⟨q + r, by omega⟩
theorem cg_mu {x y z w : Int} (h : cg x y) (h2 : cg z w) : cg (x * z) (y * w) := by
  obtain ⟨q, h⟩ := h
  obtain ⟨r, h2⟩ := h2
  refine ⟨y * r + q * w + 32003 * q * r, ?_⟩
  rw [h, h2]
  grind
theorem cg_md (x : Int) : cg (x % 32003) x := ⟨-(x / 32003), by omega⟩
theorem cg_eq {x y : Int} (h : cg x y) (hx : 0 ≤ x ∧ x < 32003) (hy : 0 ≤ y ∧ y < 32003) : x = y := by
  obtain ⟨q, h⟩ := h
  omega
theorem cg_pw (b : Int) (n : Nat) : cg (pwP b n) (b ^ n) := cg_md _
def poZ (v n : Int) : Int := if n < 0 then pwP (pwP (v % 32003) 32001) (-n).toNat else pwP v n.toNat
theorem poZ_rng (v n : Int) : 0 ≤ poZ v n ∧ poZ v n < 32003 := by
  unfold poZ
  split <;> exact pwP_rng _ _
def kqZ (b c z : Int) : Int := if z < 4 then poZ b z else poZ c (xpZ z)
def mvZ (N : Nat → Int) (f a b c : Int) : Nat → Int
  | 0 => 0
  | m + 1 => (mvZ N f a b c m + nuZ N f (jC m) (jN m) * poZ a (jN m) % 32003 * kqZ b c (jC m)) % 32003
theorem mvZ_rng (N : Nat → Int) (f a b c : Int) (m : Nat) : 0 ≤ mvZ N f a b c m ∧ mvZ N f a b c m < 32003 := by
  cases m with
  | zero => exact ⟨Int.le_refl _, by unfold mvZ; omega⟩
  | succ m => unfold mvZ; omega
theorem mv_cg (N : Nat → Int) (f a b c : Int) (z i : Nat) (hi : i < 9) {M n w : Int} (hn : (i : Int) - 4 = n) (h : cg (mvZ N f a b c (9 * z + i)) M) (hw : cg (poZ a n) w) : cg (mvZ N f a b c (9 * z + (i + 1))) (M + nuZ N f z n * w * kqZ b c z) := by
  show cg ((mvZ N f a b c (9 * z + i) + nuZ N f (jC (9 * z + i)) (jN (9 * z + i)) * poZ a (jN (9 * z + i)) % 32003 * kqZ b c (jC (9 * z + i))) % 32003) _
  rw [show jC (9 * z + i) = z by unfold jC; omega, show jN (9 * z + i) = n by unfold jN; omega]
  exact cg_tr (cg_md _) (cg_ad h (cg_mu (cg_tr (cg_md _) (cg_mu cg_rfl hw)) cg_rfl))
theorem po_ng {a y : Int} (ha : 0 ≤ a ∧ a < 32003) (hy : y = pwP a 32001) {n : Int} (hn : n < 0) : cg (poZ a n) (y ^ (-n).toNat) := by
  unfold poZ
  rw [if_pos hn, Int.emod_eq_of_lt ha.1 ha.2, ← hy]
  exact cg_pw _ _
theorem po_ps {a : Int} {n : Int} (hn : ¬ n < 0) : cg (poZ a n) (a ^ n.toNat) := by
  unfold poZ
  rw [if_neg hn]
  exact cg_pw _ _
theorem mv_kind {N : Nat → Int} {f a b c y : Int} (ha : 0 ≤ a ∧ a < 32003) (hy : y = pwP a 32001) (z : Nat) : cg (mvZ N f a b c (9 * (z + 1))) (mvZ N f a b c (9 * z) + kqZ b c z * vxZ N f z a y) := by
  have m1 := mv_cg N f a b c z 0 (by omega) (n := -4) (by decide) cg_rfl (po_ng ha hy (by decide))
  have m2 := mv_cg N f a b c z 1 (by omega) (n := -3) (by decide) m1 (po_ng ha hy (by decide))
  have m3 := mv_cg N f a b c z 2 (by omega) (n := -2) (by decide) m2 (po_ng ha hy (by decide))
  have m4 := mv_cg N f a b c z 3 (by omega) (n := -1) (by decide) m3 (po_ng ha hy (by decide))
  have m5 := mv_cg N f a b c z 4 (by omega) (n := 0) (by decide) m4 (po_ps (by decide))
  have m6 := mv_cg N f a b c z 5 (by omega) (n := 1) (by decide) m5 (po_ps (by decide))
  have m7 := mv_cg N f a b c z 6 (by omega) (n := 2) (by decide) m6 (po_ps (by decide))
  have m8 := mv_cg N f a b c z 7 (by omega) (n := 3) (by decide) m7 (po_ps (by decide))
  have m9 := mv_cg N f a b c z 8 (by omega) (n := 4) (by decide) m8 (po_ps (by decide))
  have u1 : cg (upZ N f z a 1) (nuZ N f z 4) := cg_tr (cg_md _) (cg_of (by show 0 * a + nuZ N f z 4 = _; omega))
  have u2 : cg (upZ N f z a 2) (nuZ N f z 4 * a + nuZ N f z 3) := cg_tr (cg_md _) (cg_ad (cg_mu u1 cg_rfl) cg_rfl)
  have u3 : cg (upZ N f z a 3) ((nuZ N f z 4 * a + nuZ N f z 3) * a + nuZ N f z 2) := cg_tr (cg_md _) (cg_ad (cg_mu u2 cg_rfl) cg_rfl)
  have u4 : cg (upZ N f z a 4) (((nuZ N f z 4 * a + nuZ N f z 3) * a + nuZ N f z 2) * a + nuZ N f z 1) := cg_tr (cg_md _) (cg_ad (cg_mu u3 cg_rfl) cg_rfl)
  have u5 : cg (upZ N f z a 5) ((((nuZ N f z 4 * a + nuZ N f z 3) * a + nuZ N f z 2) * a + nuZ N f z 1) * a + nuZ N f z 0) := cg_tr (cg_md _) (cg_ad (cg_mu u4 cg_rfl) cg_rfl)
  have l1 : cg (loZ N f z y 1) ((0 + nuZ N f z (-4)) * y) := cg_tr (cg_md _) (cg_mu (cg_tr (cg_md _) (cg_ad cg_rfl cg_rfl)) cg_rfl)
  have l2 : cg (loZ N f z y 2) (((0 + nuZ N f z (-4)) * y + nuZ N f z (-3)) * y) := cg_tr (cg_md _) (cg_mu (cg_tr (cg_md _) (cg_ad l1 cg_rfl)) cg_rfl)
  have l3 : cg (loZ N f z y 3) ((((0 + nuZ N f z (-4)) * y + nuZ N f z (-3)) * y + nuZ N f z (-2)) * y) := cg_tr (cg_md _) (cg_mu (cg_tr (cg_md _) (cg_ad l2 cg_rfl)) cg_rfl)
  have l4 : cg (loZ N f z y 4) (((((0 + nuZ N f z (-4)) * y + nuZ N f z (-3)) * y + nuZ N f z (-2)) * y + nuZ N f z (-1)) * y) := cg_tr (cg_md _) (cg_mu (cg_tr (cg_md _) (cg_ad l3 cg_rfl)) cg_rfl)
  have vx : cg (vxZ N f z a y) _ := cg_tr (cg_md _) (cg_ad u5 l4)
  refine cg_tr (show cg (mvZ N f a b c (9 * z + 9)) _ from m9) (cg_sy (cg_tr (cg_ad cg_rfl (cg_mu cg_rfl vx)) (cg_of ?_)))
  simp only [show (-(-4 : Int)).toNat = 4 from rfl, show (-(-3 : Int)).toNat = 3 from rfl, show (-(-2 : Int)).toNat = 2 from rfl, show (-(-1 : Int)).toNat = 1 from rfl, show (0 : Int).toNat = 0 from rfl, show (1 : Int).toNat = 1 from rfl, show (2 : Int).toNat = 2 from rfl, show (3 : Int).toNat = 3 from rfl, show (4 : Int).toNat = 4 from rfl]
  grind
theorem kq_kv {b c d : Int} (hc : 0 ≤ c ∧ c < 32003) (hd : d = pwP c 32001) (z : Nat) (hz : z < 8) : kqZ b c z = kvZ b c d z := by
  have h1 : ∀ w : Int, ∀ n : Nat, pwP w 0 * pwP c n % 32003 = pwP c n := fun w n => by rw [pwP_zero, Int.one_mul]; exact Int.emod_eq_of_lt (pwP_rng _ _).1 (pwP_rng _ _).2
  have h2 : ∀ w : Int, ∀ n : Nat, pwP w n * pwP c 0 % 32003 = pwP w n := fun w n => by rw [pwP_zero, Int.mul_one]; exact Int.emod_eq_of_lt (pwP_rng _ _).1 (pwP_rng _ _).2
  have h3 : ∀ w : Int, ∀ n : Nat, pwP w 0 * pwP d n % 32003 = pwP d n := fun w n => by rw [pwP_zero, Int.one_mul]; exact Int.emod_eq_of_lt (pwP_rng _ _).1 (pwP_rng _ _).2
  have hce : c % 32003 = c := Int.emod_eq_of_lt hc.1 hc.2
  rcases (show z = 0 ∨ z = 1 ∨ z = 2 ∨ z = 3 ∨ z = 4 ∨ z = 5 ∨ z = 6 ∨ z = 7 by omega) with h | h | h | h | h | h | h | h <;> rw [h]
  · exact (h2 b 0).symm
  · exact (h2 b 1).symm
  · exact (h2 b 2).symm
  · exact (h2 b 3).symm
  · show pwP (pwP (c % 32003) 32001) 2 = pwP b 0 * pwP d 2 % 32003
    rw [h3, hce, hd]
  · show pwP (pwP (c % 32003) 32001) 1 = pwP b 0 * pwP d 1 % 32003
    rw [h3, hce, hd]
  · exact (h1 b 1).symm
  · exact (h1 b 2).symm
theorem mv_su {N : Nat → Int} {f a b c y d : Int} (ha : 0 ≤ a ∧ a < 32003) (hc : 0 ≤ c ∧ c < 32003) (hy : y = pwP a 32001) (hd : d = pwP c 32001) : ∀ z : Nat, z ≤ 8 → mvZ N f a b c (9 * z) = suZ N f a b c y d z := by
  intro z
  induction z with
  | zero => intro _; rfl
  | succ z ih =>
    intro hz
    have h1 := mv_kind (N := N) (f := f) (b := b) (c := c) ha hy z
    refine cg_eq (cg_tr h1 ?_) (mvZ_rng _ _ _ _ _ _) (suZ_rng _ _ _ _ _ _ _ _)
    rw [ih (by omega), kq_kv hc hd z (by omega)]
    exact cg_sy (cg_md _)
theorem mv_step {N : Nat → Int} {f a b c u z n : Int} (hz : 0 ≤ z) (hn : -4 ≤ n ∧ n ≤ 4) (hu : u = mvZ N f a b c (z * 9 + n + 4).toNat) : (u + nuZ N f z n * poZ a n % 32003 * kqZ b c z) % 32003 = mvZ N f a b c (z * 9 + (n + 1) + 4).toNat := by
  rw [show (z * 9 + (n + 1) + 4).toNat = (z * 9 + n + 4).toNat + 1 by omega]
  show _ = (mvZ N f a b c (z * 9 + n + 4).toNat + nuZ N f (jC (z * 9 + n + 4).toNat) (jN (z * 9 + n + 4).toNat) * poZ a (jN (z * 9 + n + 4).toNat) % 32003 * kqZ b c (jC (z * 9 + n + 4).toNat)) % 32003
  rw [jC_at hz hn, jN_at hz hn, hu]
theorem mv_skip {N : Nat → Int} {f a b c u z n : Int} (hz : 0 ≤ z) (hn : -4 ≤ n ∧ n ≤ 4) (h0 : nuZ N f z n = 0) (hu : u = mvZ N f a b c (z * 9 + n + 4).toNat) : u = mvZ N f a b c (z * 9 + (n + 1) + 4).toNat := by
  rw [← mv_step hz hn hu, h0, Int.zero_mul, show (0 : Int) % 32003 = 0 from rfl, Int.zero_mul, Int.add_zero, hu]
  exact (Int.emod_eq_of_lt (mvZ_rng _ _ _ _ _ _).1 (mvZ_rng _ _ _ _ _ _).2).symm
def okZ (N : Nat → Int) (f a c : Int) (j : Nat) : Prop := nuZ N f (jC j) (jN j) ≠ 0 → ¬ (jN j < 0 ∧ a = 0) ∧ ¬ (xpZ (jC j) < 0 ∧ c = 0)
theorem ok_step {N : Nat → Int} {f a c z n : Int} (hz : 0 ≤ z) (hn : -4 ≤ n ∧ n ≤ 4) (h : ∀ j : Nat, (j : Int) < z * 9 + n + 4 → okZ N f a c j) (h1 : nuZ N f z n = 0 ∨ (¬ (n < 0 ∧ a = 0) ∧ ¬ (xpZ z < 0 ∧ c = 0))) : ∀ j : Nat, (j : Int) < z * 9 + (n + 1) + 4 → okZ N f a c j := by
  intro j hj
  by_cases h2 : (j : Int) < z * 9 + n + 4
  · exact h j h2
  · have h3 : j = (z * 9 + n + 4).toNat := by omega
    rw [h3]
    unfold okZ
    rw [jC_at hz hn, jN_at hz hn]
    intro h4
    exact h1.resolve_left h4
theorem vl_neg {N : Nat → Int} {f x l e z n : Int} (hf : 0 ≤ f ∧ f < 60) (hz : 0 ≤ z ∧ z < 8) (hn : -4 ≤ n ∧ n ≤ 4) (h0 : nuZ N f z n ≠ 0) (h : (n < 0 ∧ x % 32003 = 0) ∨ (xpZ z < 0 ∧ e % 32003 = 0)) : vlZ N f x l e = -1 := by
  unfold vlZ
  rw [if_pos]
  rcases h with h | h
  · refine Or.inl ⟨h.2, ?_⟩
    unfold dxZ
    rw [if_neg]
    intro hh
    have h9 := hh z.toNat (by omega) (n + 4).toNat (by omega)
    rw [show ((z.toNat : Nat) : Int) = z by omega, show (((n + 4).toNat : Nat) : Int) - 4 = n by omega] at h9
    exact h0 h9
  · refine Or.inr ⟨h.2, ?_⟩
    unfold deZ
    have hz2 : 4 ≤ z ∧ z < 6 := by
      have h5 := h.1
      unfold xpZ at h5
      split at h5
      · omega
      · split at h5
        · omega
        · omega
    rw [if_pos (cn_pos (m := (z * 9 + n + 4 - 36).toNat) (by rw [nu_lin hf hz hn] at h0; rw [show (f * 72 + 36).toNat + (z * 9 + n + 4 - 36).toNat = (f * 72).toNat + (z * 9 + n + 4).toNat by omega]; exact h0) _ (by omega))]
theorem cn_all {g : Nat → Int} {lo : Nat} : ∀ n : Nat, (∀ j : Nat, j < n → g (lo + j) = 0) → cnZ g lo n = 0 := by
  intro n
  induction n with
  | zero => intro _; rfl
  | succ n ih =>
    intro h
    rw [cnZ_step, ih (fun j hj => h j (by omega)), if_pos (h n (by omega))]
    rfl
theorem vl_pos {N : Nat → Int} {f x l e : Int} (hf : 0 ≤ f ∧ f < 60) (h : ∀ j : Nat, j < 72 → okZ N f (x % 32003) (e % 32003) j) : vlZ N f x l e = mvZ N f (x % 32003) (l % 32003) (e % 32003) 72 := by
  unfold vlZ
  rw [if_neg]
  · exact (mv_su (by omega) (by omega) rfl rfl 8 (by omega)).symm
  · intro hh
    have hk : ∀ z n : Int, 0 ≤ z → z < 8 → -4 ≤ n → n ≤ 4 → nuZ N f z n ≠ 0 → ¬ (n < 0 ∧ x % 32003 = 0) ∧ ¬ (xpZ z < 0 ∧ e % 32003 = 0) := by
      intro z n h1 h2 h3 h4
      have h5 := h (z * 9 + n + 4).toNat (by omega)
      unfold okZ at h5
      rwa [jC_at h1 ⟨h3, h4⟩, jN_at h1 ⟨h3, h4⟩] at h5
    rcases hh with ⟨h1, h2⟩ | ⟨h1, h2⟩
    · unfold dxZ at h2
      rw [if_pos] at h2
      · omega
      · intro c hc j hj
        by_cases h9 : nuZ N f c ((j : Int) - 4) = 0
        · exact h9
        · have := (hk c ((j : Int) - 4) (by omega) (by omega) (by omega) (by omega) h9).1
          omega
    · unfold deZ at h2
      rw [cn_all] at h2
      · rw [if_neg (by omega)] at h2
        omega
      · intro j hj
        by_cases h9 : N ((f * 72 + 36).toNat + j) = 0
        · exact h9
        · have hz : nuZ N f (((36 + j) / 9 : Nat) : Int) ((((36 + j) % 9 : Nat) : Int) - 4) = N ((f * 72 + 36).toNat + j) := by
            rw [nu_lin hf (by omega) (by omega)]
            exact congrArg N (by omega)
          have := (hk (((36 + j) / 9 : Nat) : Int) ((((36 + j) % 9 : Nat) : Int) - 4) (by omega) (by omega) (by omega) (by omega) (fun q => h9 (hz.symm.trans q))).2
          have hx : xpZ (((36 + j) / 9 : Nat) : Int) < 0 := by
            unfold xpZ
            rw [if_neg (by omega), if_pos (by omega)]
            omega
          exact absurd ⟨hx, h1⟩ this
set_option maxHeartbeats 4000000 in
set_option maxRecDepth 100000 in
theorem k_X1_power (l : Launch)  (v n : Int) (hv : 0 ≤ v ∧ v < 32003) (hn : -9 ≤ n ∧ n ≤ 9) : rd_M l yX1_power cX1_power 8 (some .long) ({ frames := 2, cells := 0, slots := 0, locals := 49 }) [.long (lZ v), .int (iZ n)] (fun _ => True) (some (.long (lZ (poZ v n)))) := by
  refine rd_of RX1 (by decide) rfl (Nat.le_of_ble_eq_true rfl) ?_
  intro p e s m below meth c S hr hlk hB ls hl
  obtain ⟨hx, hb, hml, hown, hT⟩ := id S
  have hl : lv_has ls 8 [(0, .long (lZ v)), (2, .int (iZ n))] := hl
  refine zl_const hx hb 1 dX1_power_0 (by decide) ?_
  refine lv_lstore_n (lv' := [(3, .long (lZ 1)), (0, .long (lZ v)), (2, .int (iZ n))]) hx hb dX1_power_1 rfl hl (by decide) rfl (fun ls hl => ?_)
  refine lv_iload_n hx hb dX1_power_2 rfl (lv_at hl 2 rfl) ?_
  refine zi_fge (tgt := 13) hx hb dX1_power_3 (by decide) (by omega) (fun hc3 => ?_) (fun hc3 => ?_)
  · refine lv_lload_n hx hb dX1_power_13 rfl (lv_at hl 1 rfl) ?_
    refine lv_lstore (lv' := [(5, .long (lZ v)), (3, .long (lZ 1)), (0, .long (lZ v)), (2, .int (iZ n))]) hx hb dX1_power_14 hl (by decide) rfl (fun ls hl => ?_)
    refine lv_iload_n hx hb dX1_power_16 rfl (lv_at hl 3 rfl) ?_
    refine zi_fge (tgt := 25) hx hb dX1_power_17 (by decide) (by omega) (fun hc17 => ?_) (fun hc17 => ?_)
    · refine lv_iload_n hx hb dX1_power_25 rfl (lv_at hl 3 rfl) ?_
      refine lv_istore (lv' := [(7, .int (iZ n)), (5, .long (lZ v)), (3, .long (lZ 1)), (0, .long (lZ v)), (2, .int (iZ n))]) hx hb dX1_power_26 hl (by decide) rfl (fun ls hl => ?_)
      have hu0 : 0 ≤ v ∧ v < 32003 := by omega
      have hm0 : poZ v n = pwP v (n).toNat := by
        unfold poZ
        rw [if_neg (by omega)]
      refine lp_go (nL := 8) (α := Int × Int) (fun z => [(0, .long (lZ v)), (2, .int (iZ n)), (3, .long (lZ z.1)), (5, .long (lZ v)), (7, .int (iZ z.2))]) (fun m28 z => 0 ≤ z.2 ∧ z.2 = (m28 : Int) ∧ z.2 ≤ 9 ∧ (0 ≤ z.1 ∧ z.1 < 32003) ∧ ∃ x : Nat, (x : Int) + z.2 = n ∧ z.1 = pwP v x) ?_ ((n).toNat) ((1 : Int), (n : Int)) (by (try dsimp only); exact ⟨by omega, by omega, by omega, by omega, 0, by omega, (pwP_zero _).symm⟩) ls (lv_sub hl [3, 4, 2, 1, 0] rfl)
      intro m28 z1 hI28 ih28 ls hl
      obtain ⟨r, i⟩ := z1
      have hl : lv_has ls 8 [(0, .long (lZ v)), (2, .int (iZ n)), (3, .long (lZ r)), (5, .long (lZ v)), (7, .int (iZ i))] := hl
      have hI28 : 0 ≤ i ∧ i = (m28 : Int) ∧ i ≤ 9 ∧ (0 ≤ r ∧ r < 32003) ∧ ∃ x : Nat, (x : Int) + i = n ∧ r = pwP v x := hI28
      have hmm := mul_rng hI28.2.2.2.1 hu0
      have htm := tmP (n := r * v) (by omega)
      refine lv_iload hx hb dX1_power_28 (lv_at hl 4 rfl) ?_
      refine zi_fle (tgt := 48) hx hb dX1_power_30 (by decide) (by omega) (fun hc30 => ?_) (fun hc30 => ?_)
      · refine lv_lload_n hx hb dX1_power_48 rfl (lv_at hl 2 rfl) ?_
        exact rd_lret hx hb hr hlk (congrArg (fun z => some (Value.long (lZ z))) (show (poZ v n : Int) = r from by obtain ⟨x, hx1, hx2⟩ := hI28.2.2.2.2; rw [hm0, hx2]; exact congrArg _ (by omega))) dX1_power_49
      · refine lv_lload_n hx hb dX1_power_33 rfl (lv_at hl 2 rfl) ?_
        refine lv_lload hx hb dX1_power_34 (lv_at hl 3 rfl) ?_
        refine zl_mul hx hb dX1_power_36 ?_
        refine zl_ldc hx hb 32003 hown (hT _ tb_448) (by decide) dX1_power_37 ?_
        refine zl_rem hx hb dX1_power_40 (by omega) (by omega) ?_
        refine zl_top (fun v2 ev2 => ?_)
        refine lv_lstore_n (lv' := [(3, .long (lZ v2)), (0, .long (lZ v)), (2, .int (iZ n)), (5, .long (lZ v)), (7, .int (iZ i))]) hx hb dX1_power_41 rfl hl (by decide) rfl (fun ls hl => ?_)
        refine zi_inc (lv' := [(7, .int (iZ (i + (-1)))), (3, .long (lZ v2)), (0, .long (lZ v)), (2, .int (iZ n)), (5, .long (lZ v))]) hx hb dX1_power_42 hl (k := 4) rfl (by decide) rfl (fun ls hl => ?_)
        refine lv_goto (tgt := 28) hx hb dX1_power_45 (by decide) ?_
        exact ih28 (m28 - 1) (v2, i + (-1)) (by omega) (by (try dsimp only); obtain ⟨x, hx1, hx2⟩ := hI28.2.2.2.2; exact ⟨by omega, by omega, by omega, by omega, x + 1, by omega, by rw [ev2, tmP (by omega), hx2]; exact pwP_sq1 hu0 x⟩) ls (lv_sub hl [2, 3, 1, 4, 0] rfl)
    · exfalso
      omega
  · refine lv_lload_n hx hb dX1_power_6 rfl (lv_at hl 1 rfl) ?_
    refine rd_S (As := [.long (lZ v)]) (rest := []) (st1 := [.long (lZ (pwP (v % 32003) 32001))]) S (k_X1_inverse l v (by omega)) tb_513 tb_514 tb_2 tb_515 hd_X1_inverse ⟨rfl, rfl, by decide, by decide⟩ bl_T (fun _ _ _ => trivial) rfl hl.1 rfl (Nat.le_of_ble_eq_true rfl) dX1_power_7 ⟨Nat.zero_le _, Nat.zero_le _⟩ rfl ?_
    have hip10 := pwP_rng (v % 32003) 32001
    refine lv_goto (tgt := 14) hx hb dX1_power_10 (by decide) ?_
    refine zl_top (fun v3 ev3 => ?_)
    refine lv_lstore (lv' := [(5, .long (lZ v3)), (3, .long (lZ 1)), (0, .long (lZ v)), (2, .int (iZ n))]) hx hb dX1_power_14 hl (by decide) rfl (fun ls hl => ?_)
    refine lv_iload_n hx hb dX1_power_16 rfl (lv_at hl 3 rfl) ?_
    refine zi_fge (tgt := 25) hx hb dX1_power_17 (by decide) (by omega) (fun hc17 => ?_) (fun hc17 => ?_)
    · exfalso
      omega
    · refine lv_iload_n hx hb dX1_power_20 rfl (lv_at hl 3 rfl) ?_
      refine zi_neg hx hb dX1_power_21 ?_
      refine lv_goto (tgt := 26) hx hb dX1_power_22 (by decide) ?_
      refine zi_top (fun v4 ev4 => ?_)
      refine lv_istore (lv' := [(7, .int (iZ v4)), (5, .long (lZ v3)), (3, .long (lZ 1)), (0, .long (lZ v)), (2, .int (iZ n))]) hx hb dX1_power_26 hl (by decide) rfl (fun ls hl => ?_)
      have hv0 := pwP_rng (v % 32003) 32001
      have hu0 : 0 ≤ v3 ∧ v3 < 32003 := by omega
      have hm0 : poZ v n = pwP v3 (v4).toNat := by
        unfold poZ
        rw [if_pos (by omega), ev3, ev4]
      refine lp_go (nL := 8) (α := Int × Int) (fun z => [(0, .long (lZ v)), (2, .int (iZ n)), (3, .long (lZ z.1)), (5, .long (lZ v3)), (7, .int (iZ z.2))]) (fun m28 z => 0 ≤ z.2 ∧ z.2 = (m28 : Int) ∧ z.2 ≤ 9 ∧ (0 ≤ z.1 ∧ z.1 < 32003) ∧ ∃ x : Nat, (x : Int) + z.2 = v4 ∧ z.1 = pwP v3 x) ?_ ((v4).toNat) ((1 : Int), (v4 : Int)) (by (try dsimp only); exact ⟨by omega, by omega, by omega, by omega, 0, by omega, (pwP_zero _).symm⟩) ls (lv_sub hl [3, 4, 2, 1, 0] rfl)
      intro m28 z5 hI28 ih28 ls hl
      obtain ⟨r, i⟩ := z5
      have hl : lv_has ls 8 [(0, .long (lZ v)), (2, .int (iZ n)), (3, .long (lZ r)), (5, .long (lZ v3)), (7, .int (iZ i))] := hl
      have hI28 : 0 ≤ i ∧ i = (m28 : Int) ∧ i ≤ 9 ∧ (0 ≤ r ∧ r < 32003) ∧ ∃ x : Nat, (x : Int) + i = v4 ∧ r = pwP v3 x := hI28
      have hmm := mul_rng hI28.2.2.2.1 hu0
      have htm := tmP (n := r * v3) (by omega)
      refine lv_iload hx hb dX1_power_28 (lv_at hl 4 rfl) ?_
      refine zi_fle (tgt := 48) hx hb dX1_power_30 (by decide) (by omega) (fun hc30 => ?_) (fun hc30 => ?_)
      · refine lv_lload_n hx hb dX1_power_48 rfl (lv_at hl 2 rfl) ?_
        exact rd_lret hx hb hr hlk (congrArg (fun z => some (Value.long (lZ z))) (show (poZ v n : Int) = r from by obtain ⟨x, hx1, hx2⟩ := hI28.2.2.2.2; rw [hm0, hx2]; exact congrArg _ (by omega))) dX1_power_49
      · refine lv_lload_n hx hb dX1_power_33 rfl (lv_at hl 2 rfl) ?_
        refine lv_lload hx hb dX1_power_34 (lv_at hl 3 rfl) ?_
        refine zl_mul hx hb dX1_power_36 ?_
        refine zl_ldc hx hb 32003 hown (hT _ tb_448) (by decide) dX1_power_37 ?_
        refine zl_rem hx hb dX1_power_40 (by omega) (by omega) ?_
        refine zl_top (fun v6 ev6 => ?_)
        refine lv_lstore_n (lv' := [(3, .long (lZ v6)), (0, .long (lZ v)), (2, .int (iZ n)), (5, .long (lZ v3)), (7, .int (iZ i))]) hx hb dX1_power_41 rfl hl (by decide) rfl (fun ls hl => ?_)
        refine zi_inc (lv' := [(7, .int (iZ (i + (-1)))), (3, .long (lZ v6)), (0, .long (lZ v)), (2, .int (iZ n)), (5, .long (lZ v3))]) hx hb dX1_power_42 hl (k := 4) rfl (by decide) rfl (fun ls hl => ?_)
        refine lv_goto (tgt := 28) hx hb dX1_power_45 (by decide) ?_
        exact ih28 (m28 - 1) (v6, i + (-1)) (by omega) (by (try dsimp only); obtain ⟨x, hx1, hx2⟩ := hI28.2.2.2.2; exact ⟨by omega, by omega, by omega, by omega, x + 1, by omega, by rw [ev6, tmP (by omega), hx2]; exact pwP_sq1 hu0 x⟩) ls (lv_sub hl [2, 3, 1, 4, 0] rfl)
