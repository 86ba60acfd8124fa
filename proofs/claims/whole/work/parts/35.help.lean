theorem tmZ_rng (F : Nat → Int) (f c : Int) : 0 ≤ tmZ F f c ∧ tmZ F f c ≤ 72 := by
  have h1 := cnZ_rng F (f * 72).toNat 72
  have h2 := cnZ_rng F (f * 72 + c * 9).toNat 9
  unfold tmZ
  split <;> omega
theorem dgZ_rng (F : Nat → Int) (f c : Int) (n : Nat) : -5 ≤ dgZ F f c n ∧ dgZ F f c n ≤ n := by
  induction n with
  | zero => unfold dgZ; omega
  | succ n ih =>
    unfold dgZ
    split <;> omega
theorem vlZ_rng (F : Nat → Int) (f x l e : Int) : -1 ≤ vlZ F f x l e ∧ vlZ F f x l e < 32003 := by
  have h1 := suZ_rng F f (x % 32003) (l % 32003) (e % 32003) (pwP (x % 32003) 32001) (pwP (e % 32003) 32001) 8
  unfold vlZ
  split <;> omega
theorem smZ_or (F : Nat → Int) (f g : Int) : smZ F f g = 0 ∨ smZ F f g = 1 := by
  unfold smZ
  split <;> omega
set_option maxHeartbeats 4000000 in
set_option maxRecDepth 100000 in
theorem hl_term_k (l : Launch) (D : va_G) (o q1 q2 : Nat) (cI cJ : ClassId) (tE tL : Nat) (F G : Nat → Int) (k : Int) (bo : Nat) (w : Nat → Int) (hdl : dL o q1 q2 bo) (c1 n v : Int) (hk : 0 ≤ k ∧ k < 60) (hc1 : 0 ≤ c1 ∧ c1 < 8) (hn : -4 ≤ n ∧ n ≤ 4) (hv : -9223372036854775808 ≤ v ∧ v ≤ 9223372036854775807) : hl_M l yL_term cL_term 7 [(0, 12, 15, 13), (0, 12, 19, 15)] ({ frames := 5, cells := 0, slots := 0, locals := 111 }) [.ref o, .int (iZ c1), .int (iZ n), .long (lZ v), .ref bo] D o q1 q2 cI cJ tE tL F G k bo w 0 (fiZ F (k * 72).toNat 72 (tgZ c1 n v)) G (k + 1) (uZ w 0 k) 0 0 := by
  refine hl_of (by decide) rfl (Nat.le_of_ble_eq_true rfl) ?_
  intro p e s m below meth c A hAe S hr hlk htab hP hK hs ht hnc hA hAn hS ls hl
  obtain ⟨hx, hb, hml, hown, hT⟩ := id S
  have hl : lv_has ls 7 [(0, .ref o), (1, .int (iZ c1)), (2, .int (iZ n)), (3, .long (lZ v)), (5, .ref bo)] := hl
  refine lv_aload hx hb dL_term_0 (lv_at hl 4 rfl) ?_
  refine zi_const hx hb 0 dL_term_2 ?_
  refine lv_aload_n hx hb dL_term_3 rfl (lv_at hl 0 rfl) ?_
  refine lv_iload_n hx hb dL_term_4 rfl (lv_at hl 1 rfl) ?_
  refine lv_iload_n hx hb dL_term_5 rfl (lv_at hl 2 rfl) ?_
  refine lv_lload_n hx hb dL_term_6 rfl (lv_at hl 3 rfl) ?_
  refine wr_V (As := [.int (iZ c1), .int (iZ n), .long (lZ v)]) (rest := [.int (iZ 0), .ref bo]) (st1 := [.int (iZ k), .int (iZ 0), .ref bo]) (F' := (fiZ F (k * 72).toNat 72 (tgZ c1 n v))) (G' := G) (k' := (k + 1)) S (k_X0_term l D o q1 q2 cI tE tL F G k c1 n v hdl.1 hk hc1 hn hv) tb_38 tb_39 tb_40 tb_1 tb_41 hd_X0_term ⟨rfl, rfl, by decide, by decide⟩ (lX_x hP) hK rfl hs hS ⟨hA.1, hA.2.1, hA.2.2.1⟩ hAn rfl hl.1 rfl (Nat.le_of_ble_eq_true rfl) dL_term_7 ⟨Nat.zero_le _, Nat.zero_le _⟩ rfl (fun H locs hP1 hS hz hkp => ?_)
  have hP := lX_join hP1 hP hkp hdl
  refine zi_i2l hx hb dL_term_10 (by omega) ?_
  refine hl_out hx hb hK hP hdl hA hS dL_term_11 (fun H locs hP hS => ?_)
  refine lv_goto (tgt := 23) hx hb dL_term_12 (by decide) ?_
  refine zi_const hx hb 0 dL_term_23 ?_
  exact hl_iret hx hb hr hlk hP hS dL_term_24
set_option maxHeartbeats 4000000 in
set_option maxRecDepth 100000 in
theorem hl_term_tA (l : Launch) (hl0 : l.stackTraces = false) (D : va_G) (o q1 q2 : Nat) (cI cJ : ClassId) (tE tL : Nat) (F G : Nat → Int) (k : Int) (bo : Nat) (w : Nat → Int) (hdl : dL o q1 q2 bo) (c1 n v : Int) (hk : 0 ≤ k ∧ k ≤ 60) (hc10 : -2147483648 ≤ c1 ∧ c1 ≤ 2147483647) (hn0 : -2147483648 ≤ n ∧ n ≤ 2147483647) (h0 : ¬ ((0 ≤ c1 ∧ c1 < 8) ∧ (-4 ≤ n ∧ n ≤ 4))) : hl_M l yL_term cL_term 7 [(0, 12, 15, 13), (0, 12, 19, 15)] ({ frames := 8, cells := 1, slots := 6, locals := 126 }) [.ref o, .int (iZ c1), .int (iZ n), .long (lZ v), .ref bo] D o q1 q2 cI cJ tE tL F G k bo w 1 F G k w 1 6 := by
  refine hl_of (by decide) rfl (Nat.le_of_ble_eq_true rfl) ?_
  intro p e s m below meth c A hAe S hr hlk htab hP hK hs ht hnc hA hAn hS ls hl
  obtain ⟨hx, hb, hml, hown, hT⟩ := id S
  have hl : lv_has ls 7 [(0, .ref o), (1, .int (iZ c1)), (2, .int (iZ n)), (3, .long (lZ v)), (5, .ref bo)] := hl
  refine lv_aload hx hb dL_term_0 (lv_at hl 4 rfl) ?_
  refine zi_const hx hb 0 dL_term_2 ?_
  refine lv_aload_n hx hb dL_term_3 rfl (lv_at hl 0 rfl) ?_
  refine lv_iload_n hx hb dL_term_4 rfl (lv_at hl 1 rfl) ?_
  refine lv_iload_n hx hb dL_term_5 rfl (lv_at hl 2 rfl) ?_
  refine lv_lload_n hx hb dL_term_6 rfl (lv_at hl 3 rfl) ?_
  refine hl_T (As := [.int (iZ c1), .int (iZ n), .long (lZ v)]) (rest := [.int (iZ 0), .ref bo]) S (tA_X0_term l hl0 D o q1 q2 cI tE tL F G k c1 n v hk hc10 hn0 h0) tb_38 tb_39 tb_40 tb_1 tb_41 hd_X0_term ⟨rfl, rfl, by decide, by decide⟩ hP hK hs ht rfl hl.1 rfl (Nat.le_of_ble_eq_true rfl) dL_term_7 ⟨by decide, by decide⟩ [] ⟨0, 12, 15, 13⟩ [⟨0, 12, 19, 15⟩] (htab.trans rfl) (fun z hz => absurd hz List.not_mem_nil) rfl (by decide) (hT _ tb_36) ht.2.1.1.word (fun q9 H hP hS => ?_)
  refine lv_astore (lv' := [(6, .ref q9), (0, .ref o), (1, .int (iZ c1)), (2, .int (iZ n)), (3, .long (lZ v)), (5, .ref bo)]) hx hb dL_term_15 hl (by decide) rfl (fun ls hl => ?_)
  refine zi_const hx hb 1 dL_term_17 ?_
  exact hl_iret hx hb hr hlk hP hS dL_term_18
set_option maxHeartbeats 4000000 in
set_option maxRecDepth 100000 in
theorem hl_term_tS (l : Launch) (hl0 : l.stackTraces = false) (D : va_G) (o q1 q2 : Nat) (cI cJ : ClassId) (tE tL : Nat) (F G : Nat → Int) (k : Int) (bo : Nat) (w : Nat → Int) (hdl : dL o q1 q2 bo) (c1 n v : Int) (hk : 0 ≤ k ∧ k ≤ 60) (hc1 : 0 ≤ c1 ∧ c1 < 8) (hn : -4 ≤ n ∧ n ≤ 4) (h0 : ¬ k < 60) : hl_M l yL_term cL_term 7 [(0, 12, 15, 13), (0, 12, 19, 15)] ({ frames := 8, cells := 1, slots := 6, locals := 126 }) [.ref o, .int (iZ c1), .int (iZ n), .long (lZ v), .ref bo] D o q1 q2 cI cJ tE tL F G k bo w 2 F G k w 1 6 := by
  refine hl_of (by decide) rfl (Nat.le_of_ble_eq_true rfl) ?_
  intro p e s m below meth c A hAe S hr hlk htab hP hK hs ht hnc hA hAn hS ls hl
  obtain ⟨hx, hb, hml, hown, hT⟩ := id S
  have hl : lv_has ls 7 [(0, .ref o), (1, .int (iZ c1)), (2, .int (iZ n)), (3, .long (lZ v)), (5, .ref bo)] := hl
  refine lv_aload hx hb dL_term_0 (lv_at hl 4 rfl) ?_
  refine zi_const hx hb 0 dL_term_2 ?_
  refine lv_aload_n hx hb dL_term_3 rfl (lv_at hl 0 rfl) ?_
  refine lv_iload_n hx hb dL_term_4 rfl (lv_at hl 1 rfl) ?_
  refine lv_iload_n hx hb dL_term_5 rfl (lv_at hl 2 rfl) ?_
  refine lv_lload_n hx hb dL_term_6 rfl (lv_at hl 3 rfl) ?_
  refine hl_T (As := [.int (iZ c1), .int (iZ n), .long (lZ v)]) (rest := [.int (iZ 0), .ref bo]) S (tS_X0_term l hl0 D o q1 q2 cI tE tL F G k c1 n v hk hc1 hn h0) tb_38 tb_39 tb_40 tb_1 tb_41 hd_X0_term ⟨rfl, rfl, by decide, by decide⟩ hP hK hs ht rfl hl.1 rfl (Nat.le_of_ble_eq_true rfl) dL_term_7 ⟨by decide, by decide⟩ [⟨0, 12, 15, 13⟩] ⟨0, 12, 19, 15⟩ [] (htab.trans rfl) (fun z hz => by rw [List.mem_singleton.mp hz]; exact Or.inr ⟨by decide, _, hT _ tb_36, hnc.1⟩) rfl (by decide) (hT _ tb_37) ht.2.1.2.1.word (fun q9 H hP hS => ?_)
  refine lv_astore (lv' := [(6, .ref q9), (0, .ref o), (1, .int (iZ c1)), (2, .int (iZ n)), (3, .long (lZ v)), (5, .ref bo)]) hx hb dL_term_19 hl (by decide) rfl (fun ls hl => ?_)
  refine zi_const hx hb 2 dL_term_21 ?_
  exact hl_iret hx hb hr hlk hP hS dL_term_22
set_option maxHeartbeats 4000000 in
set_option maxRecDepth 100000 in
theorem hl_add_k (l : Launch) (D : va_G) (o q1 q2 : Nat) (cI cJ : ClassId) (tE tL : Nat) (F G : Nat → Int) (k : Int) (bo : Nat) (w : Nat → Int) (hdl : dL o q1 q2 bo) (f g : Int) (hF : ∀ j, 0 ≤ F j ∧ F j < 32003) (hk : 0 ≤ k ∧ k < 60) (hf : 0 ≤ f ∧ f < k) (hg : 0 ≤ g ∧ g < k) : hl_M l yL_add cL_add 5 [(0, 10, 13, 21), (0, 10, 17, 15)] ({ frames := 5, cells := 0, slots := 0, locals := 112 }) [.ref o, .int (iZ f), .int (iZ g), .ref bo] D o q1 q2 cI cJ tE tL F G k bo w 0 (fiZ F (k * 72).toNat 72 (fun j => (F ((f * 72).toNat + j) + 1 * F ((g * 72).toNat + j)) % 32003)) G (k + 1) (uZ w 0 k) 0 0 := by
  refine hl_of (by decide) rfl (Nat.le_of_ble_eq_true rfl) ?_
  intro p e s m below meth c A hAe S hr hlk htab hP hK hs ht hnc hA hAn hS ls hl
  obtain ⟨hx, hb, hml, hown, hT⟩ := id S
  have hl : lv_has ls 5 [(0, .ref o), (1, .int (iZ f)), (2, .int (iZ g)), (3, .ref bo)] := hl
  refine lv_aload_n hx hb dL_add_0 rfl (lv_at hl 3 rfl) ?_
  refine zi_const hx hb 0 dL_add_1 ?_
  refine lv_aload_n hx hb dL_add_2 rfl (lv_at hl 0 rfl) ?_
  refine lv_iload_n hx hb dL_add_3 rfl (lv_at hl 1 rfl) ?_
  refine lv_iload_n hx hb dL_add_4 rfl (lv_at hl 2 rfl) ?_
  refine wr_V (As := [.int (iZ f), .int (iZ g)]) (rest := [.int (iZ 0), .ref bo]) (st1 := [.int (iZ k), .int (iZ 0), .ref bo]) (F' := (fiZ F (k * 72).toNat 72 (fun j => (F ((f * 72).toNat + j) + 1 * F ((g * 72).toNat + j)) % 32003))) (G' := G) (k' := (k + 1)) S (k_X0_add l D o q1 q2 cI tE tL F G k f g hdl.1 hF hk hf hg) tb_169 tb_170 tb_171 tb_1 tb_172 hd_X0_add ⟨rfl, rfl, by decide, by decide⟩ (lX_x hP) hK rfl hs hS ⟨hA.1, hA.2.1, hA.2.2.1⟩ hAn rfl hl.1 rfl (Nat.le_of_ble_eq_true rfl) dL_add_5 ⟨Nat.zero_le _, Nat.zero_le _⟩ rfl (fun H locs hP1 hS hz hkp => ?_)
  have hP := lX_join hP1 hP hkp hdl
  refine zi_i2l hx hb dL_add_8 (by omega) ?_
  refine hl_out hx hb hK hP hdl hA hS dL_add_9 (fun H locs hP hS => ?_)
  refine lv_goto (tgt := 21) hx hb dL_add_10 (by decide) ?_
  refine zi_const hx hb 0 dL_add_21 ?_
  exact hl_iret hx hb hr hlk hP hS dL_add_22
set_option maxHeartbeats 4000000 in
set_option maxRecDepth 100000 in
theorem hl_add_tO (l : Launch) (hl0 : l.stackTraces = false) (D : va_G) (o q1 q2 : Nat) (cI cJ : ClassId) (tE tL : Nat) (F G : Nat → Int) (k : Int) (bo : Nat) (w : Nat → Int) (hdl : dL o q1 q2 bo) (f g : Int) (hk : 0 ≤ k ∧ k ≤ 60) (hf0 : -2147483648 ≤ f ∧ f ≤ 2147483647) (hg0 : -2147483648 ≤ g ∧ g ≤ 2147483647) (h0 : ¬ ((0 ≤ f ∧ f < k) ∧ (0 ≤ g ∧ g < k))) : hl_M l yL_add cL_add 5 [(0, 10, 13, 21), (0, 10, 17, 15)] ({ frames := 8, cells := 1, slots := 6, locals := 125 }) [.ref o, .int (iZ f), .int (iZ g), .ref bo] D o q1 q2 cI cJ tE tL F G k bo w 1 F G k w 1 6 := by
  refine hl_of (by decide) rfl (Nat.le_of_ble_eq_true rfl) ?_
  intro p e s m below meth c A hAe S hr hlk htab hP hK hs ht hnc hA hAn hS ls hl
  obtain ⟨hx, hb, hml, hown, hT⟩ := id S
  have hl : lv_has ls 5 [(0, .ref o), (1, .int (iZ f)), (2, .int (iZ g)), (3, .ref bo)] := hl
  refine lv_aload_n hx hb dL_add_0 rfl (lv_at hl 3 rfl) ?_
  refine zi_const hx hb 0 dL_add_1 ?_
  refine lv_aload_n hx hb dL_add_2 rfl (lv_at hl 0 rfl) ?_
  refine lv_iload_n hx hb dL_add_3 rfl (lv_at hl 1 rfl) ?_
  refine lv_iload_n hx hb dL_add_4 rfl (lv_at hl 2 rfl) ?_
  refine hl_T (As := [.int (iZ f), .int (iZ g)]) (rest := [.int (iZ 0), .ref bo]) S (tO_X0_add l hl0 D o q1 q2 cI tE tL F G k f g hk hf0 hg0 h0) tb_169 tb_170 tb_171 tb_1 tb_172 hd_X0_add ⟨rfl, rfl, by decide, by decide⟩ hP hK hs ht rfl hl.1 rfl (Nat.le_of_ble_eq_true rfl) dL_add_5 ⟨by decide, by decide⟩ [] ⟨0, 10, 13, 21⟩ [⟨0, 10, 17, 15⟩] (htab.trans rfl) (fun z hz => absurd hz List.not_mem_nil) rfl (by decide) (hT _ tb_168) ht.2.1.2.2.word (fun q9 H hP hS => ?_)
  refine lv_astore (lv' := [(4, .ref q9), (0, .ref o), (1, .int (iZ f)), (2, .int (iZ g)), (3, .ref bo)]) hx hb dL_add_13 hl (by decide) rfl (fun ls hl => ?_)
  refine zi_const hx hb 1 dL_add_15 ?_
  exact hl_iret hx hb hr hlk hP hS dL_add_16
set_option maxHeartbeats 4000000 in
set_option maxRecDepth 100000 in
theorem hl_add_tS (l : Launch) (hl0 : l.stackTraces = false) (D : va_G) (o q1 q2 : Nat) (cI cJ : ClassId) (tE tL : Nat) (F G : Nat → Int) (k : Int) (bo : Nat) (w : Nat → Int) (hdl : dL o q1 q2 bo) (f g : Int) (hk : 0 ≤ k ∧ k ≤ 60) (hf : 0 ≤ f ∧ f < k) (hg : 0 ≤ g ∧ g < k) (h0 : ¬ k < 60) : hl_M l yL_add cL_add 5 [(0, 10, 13, 21), (0, 10, 17, 15)] ({ frames := 8, cells := 1, slots := 6, locals := 125 }) [.ref o, .int (iZ f), .int (iZ g), .ref bo] D o q1 q2 cI cJ tE tL F G k bo w 2 F G k w 1 6 := by
  refine hl_of (by decide) rfl (Nat.le_of_ble_eq_true rfl) ?_
  intro p e s m below meth c A hAe S hr hlk htab hP hK hs ht hnc hA hAn hS ls hl
  obtain ⟨hx, hb, hml, hown, hT⟩ := id S
  have hl : lv_has ls 5 [(0, .ref o), (1, .int (iZ f)), (2, .int (iZ g)), (3, .ref bo)] := hl
  refine lv_aload_n hx hb dL_add_0 rfl (lv_at hl 3 rfl) ?_
  refine zi_const hx hb 0 dL_add_1 ?_
  refine lv_aload_n hx hb dL_add_2 rfl (lv_at hl 0 rfl) ?_
  refine lv_iload_n hx hb dL_add_3 rfl (lv_at hl 1 rfl) ?_
  refine lv_iload_n hx hb dL_add_4 rfl (lv_at hl 2 rfl) ?_
  refine hl_T (As := [.int (iZ f), .int (iZ g)]) (rest := [.int (iZ 0), .ref bo]) S (tS_X0_add l hl0 D o q1 q2 cI tE tL F G k f g hk hf hg h0) tb_169 tb_170 tb_171 tb_1 tb_172 hd_X0_add ⟨rfl, rfl, by decide, by decide⟩ hP hK hs ht rfl hl.1 rfl (Nat.le_of_ble_eq_true rfl) dL_add_5 ⟨by decide, by decide⟩ [⟨0, 10, 13, 21⟩] ⟨0, 10, 17, 15⟩ [] (htab.trans rfl) (fun z hz => by rw [List.mem_singleton.mp hz]; exact Or.inr ⟨by decide, _, hT _ tb_168, hnc.2.1⟩) rfl (by decide) (hT _ tb_37) ht.2.1.2.1.word (fun q9 H hP hS => ?_)
  refine lv_astore (lv' := [(4, .ref q9), (0, .ref o), (1, .int (iZ f)), (2, .int (iZ g)), (3, .ref bo)]) hx hb dL_add_17 hl (by decide) rfl (fun ls hl => ?_)
  refine zi_const hx hb 2 dL_add_19 ?_
  exact hl_iret hx hb hr hlk hP hS dL_add_20
set_option maxHeartbeats 4000000 in
set_option maxRecDepth 100000 in
theorem hl_less_k (l : Launch) (D : va_G) (o q1 q2 : Nat) (cI cJ : ClassId) (tE tL : Nat) (F G : Nat → Int) (k : Int) (bo : Nat) (w : Nat → Int) (hdl : dL o q1 q2 bo) (f g v : Int) (hF : ∀ j, 0 ≤ F j ∧ F j < 32003) (hk : 0 ≤ k ∧ k < 60) (hf : 0 ≤ f ∧ f < k) (hg : 0 ≤ g ∧ g < k) (hv : -9223372036854775808 ≤ v ∧ v ≤ 9223372036854775807) : hl_M l yL_less cL_less 7 [(0, 12, 15, 21), (0, 12, 19, 15)] ({ frames := 5, cells := 0, slots := 0, locals := 114 }) [.ref o, .int (iZ f), .int (iZ g), .long (lZ v), .ref bo] D o q1 q2 cI cJ tE tL F G k bo w 0 (fiZ F (k * 72).toNat 72 (fun j => (F ((f * 72).toNat + j) + (-(v % 32003) % 32003) * F ((g * 72).toNat + j)) % 32003)) G (k + 1) (uZ w 0 k) 0 0 := by
  refine hl_of (by decide) rfl (Nat.le_of_ble_eq_true rfl) ?_
  intro p e s m below meth c A hAe S hr hlk htab hP hK hs ht hnc hA hAn hS ls hl
  obtain ⟨hx, hb, hml, hown, hT⟩ := id S
  have hl : lv_has ls 7 [(0, .ref o), (1, .int (iZ f)), (2, .int (iZ g)), (3, .long (lZ v)), (5, .ref bo)] := hl
  refine lv_aload hx hb dL_less_0 (lv_at hl 4 rfl) ?_
  refine zi_const hx hb 0 dL_less_2 ?_
  refine lv_aload_n hx hb dL_less_3 rfl (lv_at hl 0 rfl) ?_
  refine lv_iload_n hx hb dL_less_4 rfl (lv_at hl 1 rfl) ?_
  refine lv_iload_n hx hb dL_less_5 rfl (lv_at hl 2 rfl) ?_
  refine lv_lload_n hx hb dL_less_6 rfl (lv_at hl 3 rfl) ?_
  refine wr_V (As := [.int (iZ f), .int (iZ g), .long (lZ v)]) (rest := [.int (iZ 0), .ref bo]) (st1 := [.int (iZ k), .int (iZ 0), .ref bo]) (F' := (fiZ F (k * 72).toNat 72 (fun j => (F ((f * 72).toNat + j) + (-(v % 32003) % 32003) * F ((g * 72).toNat + j)) % 32003))) (G' := G) (k' := (k + 1)) S (k_X0_less l D o q1 q2 cI tE tL F G k f g v hdl.1 hF hk hf hg hv) tb_204 tb_205 tb_206 tb_1 tb_207 hd_X0_less ⟨rfl, rfl, by decide, by decide⟩ (lX_x hP) hK rfl hs hS ⟨hA.1, hA.2.1, hA.2.2.1⟩ hAn rfl hl.1 rfl (Nat.le_of_ble_eq_true rfl) dL_less_7 ⟨Nat.zero_le _, Nat.zero_le _⟩ rfl (fun H locs hP1 hS hz hkp => ?_)
  have hP := lX_join hP1 hP hkp hdl
  refine zi_i2l hx hb dL_less_10 (by omega) ?_
  refine hl_out hx hb hK hP hdl hA hS dL_less_11 (fun H locs hP hS => ?_)
  refine lv_goto (tgt := 23) hx hb dL_less_12 (by decide) ?_
  refine zi_const hx hb 0 dL_less_23 ?_
  exact hl_iret hx hb hr hlk hP hS dL_less_24
set_option maxHeartbeats 4000000 in
set_option maxRecDepth 100000 in
theorem hl_less_tO (l : Launch) (hl0 : l.stackTraces = false) (D : va_G) (o q1 q2 : Nat) (cI cJ : ClassId) (tE tL : Nat) (F G : Nat → Int) (k : Int) (bo : Nat) (w : Nat → Int) (hdl : dL o q1 q2 bo) (f g v : Int) (hk : 0 ≤ k ∧ k ≤ 60) (hf0 : -2147483648 ≤ f ∧ f ≤ 2147483647) (hg0 : -2147483648 ≤ g ∧ g ≤ 2147483647) (h0 : ¬ ((0 ≤ f ∧ f < k) ∧ (0 ≤ g ∧ g < k))) : hl_M l yL_less cL_less 7 [(0, 12, 15, 21), (0, 12, 19, 15)] ({ frames := 8, cells := 1, slots := 6, locals := 127 }) [.ref o, .int (iZ f), .int (iZ g), .long (lZ v), .ref bo] D o q1 q2 cI cJ tE tL F G k bo w 1 F G k w 1 6 := by
  refine hl_of (by decide) rfl (Nat.le_of_ble_eq_true rfl) ?_
  intro p e s m below meth c A hAe S hr hlk htab hP hK hs ht hnc hA hAn hS ls hl
  obtain ⟨hx, hb, hml, hown, hT⟩ := id S
  have hl : lv_has ls 7 [(0, .ref o), (1, .int (iZ f)), (2, .int (iZ g)), (3, .long (lZ v)), (5, .ref bo)] := hl
  refine lv_aload hx hb dL_less_0 (lv_at hl 4 rfl) ?_
  refine zi_const hx hb 0 dL_less_2 ?_
  refine lv_aload_n hx hb dL_less_3 rfl (lv_at hl 0 rfl) ?_
  refine lv_iload_n hx hb dL_less_4 rfl (lv_at hl 1 rfl) ?_
  refine lv_iload_n hx hb dL_less_5 rfl (lv_at hl 2 rfl) ?_
  refine lv_lload_n hx hb dL_less_6 rfl (lv_at hl 3 rfl) ?_
  refine hl_T (As := [.int (iZ f), .int (iZ g), .long (lZ v)]) (rest := [.int (iZ 0), .ref bo]) S (tO_X0_less l hl0 D o q1 q2 cI tE tL F G k f g v hk hf0 hg0 h0) tb_204 tb_205 tb_206 tb_1 tb_207 hd_X0_less ⟨rfl, rfl, by decide, by decide⟩ hP hK hs ht rfl hl.1 rfl (Nat.le_of_ble_eq_true rfl) dL_less_7 ⟨by decide, by decide⟩ [] ⟨0, 12, 15, 21⟩ [⟨0, 12, 19, 15⟩] (htab.trans rfl) (fun z hz => absurd hz List.not_mem_nil) rfl (by decide) (hT _ tb_168) ht.2.1.2.2.word (fun q9 H hP hS => ?_)
  refine lv_astore (lv' := [(6, .ref q9), (0, .ref o), (1, .int (iZ f)), (2, .int (iZ g)), (3, .long (lZ v)), (5, .ref bo)]) hx hb dL_less_15 hl (by decide) rfl (fun ls hl => ?_)
  refine zi_const hx hb 1 dL_less_17 ?_
  exact hl_iret hx hb hr hlk hP hS dL_less_18
set_option maxHeartbeats 4000000 in
set_option maxRecDepth 100000 in
theorem hl_less_tS (l : Launch) (hl0 : l.stackTraces = false) (D : va_G) (o q1 q2 : Nat) (cI cJ : ClassId) (tE tL : Nat) (F G : Nat → Int) (k : Int) (bo : Nat) (w : Nat → Int) (hdl : dL o q1 q2 bo) (f g v : Int) (hk : 0 ≤ k ∧ k ≤ 60) (hf : 0 ≤ f ∧ f < k) (hg : 0 ≤ g ∧ g < k) (h0 : ¬ k < 60) : hl_M l yL_less cL_less 7 [(0, 12, 15, 21), (0, 12, 19, 15)] ({ frames := 8, cells := 1, slots := 6, locals := 127 }) [.ref o, .int (iZ f), .int (iZ g), .long (lZ v), .ref bo] D o q1 q2 cI cJ tE tL F G k bo w 2 F G k w 1 6 := by
  refine hl_of (by decide) rfl (Nat.le_of_ble_eq_true rfl) ?_
  intro p e s m below meth c A hAe S hr hlk htab hP hK hs ht hnc hA hAn hS ls hl
  obtain ⟨hx, hb, hml, hown, hT⟩ := id S
  have hl : lv_has ls 7 [(0, .ref o), (1, .int (iZ f)), (2, .int (iZ g)), (3, .long (lZ v)), (5, .ref bo)] := hl
  refine lv_aload hx hb dL_less_0 (lv_at hl 4 rfl) ?_
  refine zi_const hx hb 0 dL_less_2 ?_
  refine lv_aload_n hx hb dL_less_3 rfl (lv_at hl 0 rfl) ?_
  refine lv_iload_n hx hb dL_less_4 rfl (lv_at hl 1 rfl) ?_
  refine lv_iload_n hx hb dL_less_5 rfl (lv_at hl 2 rfl) ?_
  refine lv_lload_n hx hb dL_less_6 rfl (lv_at hl 3 rfl) ?_
  refine hl_T (As := [.int (iZ f), .int (iZ g), .long (lZ v)]) (rest := [.int (iZ 0), .ref bo]) S (tS_X0_less l hl0 D o q1 q2 cI tE tL F G k f g v hk hf hg h0) tb_204 tb_205 tb_206 tb_1 tb_207 hd_X0_less ⟨rfl, rfl, by decide, by decide⟩ hP hK hs ht rfl hl.1 rfl (Nat.le_of_ble_eq_true rfl) dL_less_7 ⟨by decide, by decide⟩ [⟨0, 12, 15, 21⟩] ⟨0, 12, 19, 15⟩ [] (htab.trans rfl) (fun z hz => by rw [List.mem_singleton.mp hz]; exact Or.inr ⟨by decide, _, hT _ tb_168, hnc.2.1⟩) rfl (by decide) (hT _ tb_37) ht.2.1.2.1.word (fun q9 H hP hS => ?_)
  refine lv_astore (lv' := [(6, .ref q9), (0, .ref o), (1, .int (iZ f)), (2, .int (iZ g)), (3, .long (lZ v)), (5, .ref bo)]) hx hb dL_less_19 hl (by decide) rfl (fun ls hl => ?_)
  refine zi_const hx hb 2 dL_less_21 ?_
  exact hl_iret hx hb hr hlk hP hS dL_less_22
set_option maxHeartbeats 4000000 in
set_option maxRecDepth 100000 in
theorem hl_times_k (l : Launch) (D : va_G) (o q1 q2 : Nat) (cI cJ : ClassId) (tE tL : Nat) (F G : Nat → Int) (k : Int) (bo : Nat) (w : Nat → Int) (hdl : dL o q1 q2 bo) (f g : Int) (hF : ∀ j, 0 ≤ F j ∧ F j < 32003) (hG : ∀ j, 0 ≤ G j ∧ G j < 32003) (hk : 0 ≤ k ∧ k < 60) (hf : 0 ≤ f ∧ f < k) (hg : 0 ≤ g ∧ g < k) (h0 : lmZ F f g = 0 ∧ lmZ F g f = 0) (h1 : ptZ (spZ F G f g 72) = 0) : hl_M l yL_times cL_times 5 [(0, 10, 13, 21), (0, 10, 17, 15)] ({ frames := 6, cells := 0, slots := 0, locals := 139 }) [.ref o, .int (iZ f), .int (iZ g), .ref bo] D o q1 q2 cI cJ tE tL F G k bo w 0 (fiZ F (k * 72).toNat 72 (fun j => wnZ (spZ F G f g 72) (wkZ (jC j) 0) (jN j))) (spZ F G f g 72) (k + 1) (uZ w 0 k) 0 0 := by
  refine hl_of (by decide) rfl (Nat.le_of_ble_eq_true rfl) ?_
  intro p e s m below meth c A hAe S hr hlk htab hP hK hs ht hnc hA hAn hS ls hl
  obtain ⟨hx, hb, hml, hown, hT⟩ := id S
  have hl : lv_has ls 5 [(0, .ref o), (1, .int (iZ f)), (2, .int (iZ g)), (3, .ref bo)] := hl
  refine lv_aload_n hx hb dL_times_0 rfl (lv_at hl 3 rfl) ?_
  refine zi_const hx hb 0 dL_times_1 ?_
  refine lv_aload_n hx hb dL_times_2 rfl (lv_at hl 0 rfl) ?_
  refine lv_iload_n hx hb dL_times_3 rfl (lv_at hl 1 rfl) ?_
  refine lv_iload_n hx hb dL_times_4 rfl (lv_at hl 2 rfl) ?_
  refine wr_V (As := [.int (iZ f), .int (iZ g)]) (rest := [.int (iZ 0), .ref bo]) (st1 := [.int (iZ k), .int (iZ 0), .ref bo]) (F' := (fiZ F (k * 72).toNat 72 (fun j => wnZ (spZ F G f g 72) (wkZ (jC j) 0) (jN j)))) (G' := (spZ F G f g 72)) (k' := (k + 1)) S (k_X0_times l D o q1 q2 cI tE tL F G k f g hdl.1 hF hG hk hf hg h0 h1) tb_211 tb_212 tb_213 tb_1 tb_214 hd_X0_times ⟨rfl, rfl, by decide, by decide⟩ (lX_x hP) hK rfl hs hS ⟨hA.1, hA.2.1, hA.2.2.1⟩ hAn rfl hl.1 rfl (Nat.le_of_ble_eq_true rfl) dL_times_5 ⟨Nat.zero_le _, Nat.zero_le _⟩ rfl (fun H locs hP1 hS hz hkp => ?_)
  have hP := lX_join hP1 hP hkp hdl
  refine zi_i2l hx hb dL_times_8 (by omega) ?_
  refine hl_out hx hb hK hP hdl hA hS dL_times_9 (fun H locs hP hS => ?_)
  refine lv_goto (tgt := 21) hx hb dL_times_10 (by decide) ?_
  refine zi_const hx hb 0 dL_times_21 ?_
  exact hl_iret hx hb hr hlk hP hS dL_times_22
set_option maxHeartbeats 4000000 in
set_option maxRecDepth 100000 in
theorem hl_times_tO (l : Launch) (hl0 : l.stackTraces = false) (D : va_G) (o q1 q2 : Nat) (cI cJ : ClassId) (tE tL : Nat) (F G : Nat → Int) (k : Int) (bo : Nat) (w : Nat → Int) (hdl : dL o q1 q2 bo) (f g : Int) (hk : 0 ≤ k ∧ k ≤ 60) (hf0 : -2147483648 ≤ f ∧ f ≤ 2147483647) (hg0 : -2147483648 ≤ g ∧ g ≤ 2147483647) (h0 : ¬ ((0 ≤ f ∧ f < k) ∧ (0 ≤ g ∧ g < k))) : hl_M l yL_times cL_times 5 [(0, 10, 13, 21), (0, 10, 17, 15)] ({ frames := 8, cells := 1, slots := 6, locals := 139 }) [.ref o, .int (iZ f), .int (iZ g), .ref bo] D o q1 q2 cI cJ tE tL F G k bo w 1 F G k w 1 6 := by
  refine hl_of (by decide) rfl (Nat.le_of_ble_eq_true rfl) ?_
  intro p e s m below meth c A hAe S hr hlk htab hP hK hs ht hnc hA hAn hS ls hl
  obtain ⟨hx, hb, hml, hown, hT⟩ := id S
  have hl : lv_has ls 5 [(0, .ref o), (1, .int (iZ f)), (2, .int (iZ g)), (3, .ref bo)] := hl
  refine lv_aload_n hx hb dL_times_0 rfl (lv_at hl 3 rfl) ?_
  refine zi_const hx hb 0 dL_times_1 ?_
  refine lv_aload_n hx hb dL_times_2 rfl (lv_at hl 0 rfl) ?_
  refine lv_iload_n hx hb dL_times_3 rfl (lv_at hl 1 rfl) ?_
  refine lv_iload_n hx hb dL_times_4 rfl (lv_at hl 2 rfl) ?_
  refine hl_T (As := [.int (iZ f), .int (iZ g)]) (rest := [.int (iZ 0), .ref bo]) S (tO_X0_times l hl0 D o q1 q2 cI tE tL F G k f g hk hf0 hg0 h0) tb_211 tb_212 tb_213 tb_1 tb_214 hd_X0_times ⟨rfl, rfl, by decide, by decide⟩ hP hK hs ht rfl hl.1 rfl (Nat.le_of_ble_eq_true rfl) dL_times_5 ⟨by decide, by decide⟩ [] ⟨0, 10, 13, 21⟩ [⟨0, 10, 17, 15⟩] (htab.trans rfl) (fun z hz => absurd hz List.not_mem_nil) rfl (by decide) (hT _ tb_168) ht.2.1.2.2.word (fun q9 H hP hS => ?_)
  refine lv_astore (lv' := [(4, .ref q9), (0, .ref o), (1, .int (iZ f)), (2, .int (iZ g)), (3, .ref bo)]) hx hb dL_times_13 hl (by decide) rfl (fun ls hl => ?_)
  refine zi_const hx hb 1 dL_times_15 ?_
  exact hl_iret hx hb hr hlk hP hS dL_times_16
set_option maxHeartbeats 4000000 in
set_option maxRecDepth 100000 in
theorem hl_times_tS (l : Launch) (hl0 : l.stackTraces = false) (D : va_G) (o q1 q2 : Nat) (cI cJ : ClassId) (tE tL : Nat) (F G : Nat → Int) (k : Int) (bo : Nat) (w : Nat → Int) (hdl : dL o q1 q2 bo) (f g : Int) (hk : 0 ≤ k ∧ k ≤ 60) (hf : 0 ≤ f ∧ f < k) (hg : 0 ≤ g ∧ g < k) (h0 : ¬ k < 60) : hl_M l yL_times cL_times 5 [(0, 10, 13, 21), (0, 10, 17, 15)] ({ frames := 8, cells := 1, slots := 6, locals := 139 }) [.ref o, .int (iZ f), .int (iZ g), .ref bo] D o q1 q2 cI cJ tE tL F G k bo w 2 F G k w 1 6 := by
  refine hl_of (by decide) rfl (Nat.le_of_ble_eq_true rfl) ?_
  intro p e s m below meth c A hAe S hr hlk htab hP hK hs ht hnc hA hAn hS ls hl
  obtain ⟨hx, hb, hml, hown, hT⟩ := id S
  have hl : lv_has ls 5 [(0, .ref o), (1, .int (iZ f)), (2, .int (iZ g)), (3, .ref bo)] := hl
  refine lv_aload_n hx hb dL_times_0 rfl (lv_at hl 3 rfl) ?_
  refine zi_const hx hb 0 dL_times_1 ?_
  refine lv_aload_n hx hb dL_times_2 rfl (lv_at hl 0 rfl) ?_
  refine lv_iload_n hx hb dL_times_3 rfl (lv_at hl 1 rfl) ?_
  refine lv_iload_n hx hb dL_times_4 rfl (lv_at hl 2 rfl) ?_
  refine hl_T (As := [.int (iZ f), .int (iZ g)]) (rest := [.int (iZ 0), .ref bo]) S (tS_X0_times l hl0 D o q1 q2 cI tE tL F G k f g hk hf hg h0) tb_211 tb_212 tb_213 tb_1 tb_214 hd_X0_times ⟨rfl, rfl, by decide, by decide⟩ hP hK hs ht rfl hl.1 rfl (Nat.le_of_ble_eq_true rfl) dL_times_5 ⟨by decide, by decide⟩ [⟨0, 10, 13, 21⟩] ⟨0, 10, 17, 15⟩ [] (htab.trans rfl) (fun z hz => by rw [List.mem_singleton.mp hz]; exact Or.inr ⟨by decide, _, hT _ tb_168, hnc.2.1⟩) rfl (by decide) (hT _ tb_37) ht.2.1.2.1.word (fun q9 H hP hS => ?_)
  refine lv_astore (lv' := [(4, .ref q9), (0, .ref o), (1, .int (iZ f)), (2, .int (iZ g)), (3, .ref bo)]) hx hb dL_times_17 hl (by decide) rfl (fun ls hl => ?_)
  refine zi_const hx hb 2 dL_times_19 ?_
  exact hl_iret hx hb hr hlk hP hS dL_times_20
set_option maxHeartbeats 4000000 in
set_option maxRecDepth 100000 in
theorem hl_times_tF (l : Launch) (hl0 : l.stackTraces = false) (D : va_G) (o q1 q2 : Nat) (cI cJ : ClassId) (tE tL : Nat) (F G : Nat → Int) (k : Int) (bo : Nat) (w : Nat → Int) (hdl : dL o q1 q2 bo) (f g : Int) (hF : ∀ j, 0 ≤ F j ∧ F j < 32003) (hk : 0 ≤ k ∧ k < 60) (hf : 0 ≤ f ∧ f < k) (hg : 0 ≤ g ∧ g < k) (h0 : lmZ F f g = 1 ∨ lmZ F g f = 1) : hl_M l yL_times cL_times 5 [(0, 10, 13, 21), (0, 10, 17, 15)] ({ frames := 8, cells := 1, slots := 6, locals := 139 }) [.ref o, .int (iZ f), .int (iZ g), .ref bo] D o q1 q2 cI cJ tE tL F G k bo w 2 F G k w 1 6 := by
  refine hl_of (by decide) rfl (Nat.le_of_ble_eq_true rfl) ?_
  intro p e s m below meth c A hAe S hr hlk htab hP hK hs ht hnc hA hAn hS ls hl
  obtain ⟨hx, hb, hml, hown, hT⟩ := id S
  have hl : lv_has ls 5 [(0, .ref o), (1, .int (iZ f)), (2, .int (iZ g)), (3, .ref bo)] := hl
  refine lv_aload_n hx hb dL_times_0 rfl (lv_at hl 3 rfl) ?_
  refine zi_const hx hb 0 dL_times_1 ?_
  refine lv_aload_n hx hb dL_times_2 rfl (lv_at hl 0 rfl) ?_
  refine lv_iload_n hx hb dL_times_3 rfl (lv_at hl 1 rfl) ?_
  refine lv_iload_n hx hb dL_times_4 rfl (lv_at hl 2 rfl) ?_
  refine hl_T (As := [.int (iZ f), .int (iZ g)]) (rest := [.int (iZ 0), .ref bo]) S (tF_X0_times l hl0 D o q1 q2 cI tE tL F G k f g hF hk hf hg h0) tb_211 tb_212 tb_213 tb_1 tb_214 hd_X0_times ⟨rfl, rfl, by decide, by decide⟩ hP hK hs ht rfl hl.1 rfl (Nat.le_of_ble_eq_true rfl) dL_times_5 ⟨by decide, by decide⟩ [⟨0, 10, 13, 21⟩] ⟨0, 10, 17, 15⟩ [] (htab.trans rfl) (fun z hz => by rw [List.mem_singleton.mp hz]; exact Or.inr ⟨by decide, _, hT _ tb_168, hnc.2.1⟩) rfl (by decide) (hT _ tb_37) ht.2.1.2.1.word (fun q9 H hP hS => ?_)
  refine lv_astore (lv' := [(4, .ref q9), (0, .ref o), (1, .int (iZ f)), (2, .int (iZ g)), (3, .ref bo)]) hx hb dL_times_17 hl (by decide) rfl (fun ls hl => ?_)
  refine zi_const hx hb 2 dL_times_19 ?_
  exact hl_iret hx hb hr hlk hP hS dL_times_20
set_option maxHeartbeats 4000000 in
set_option maxRecDepth 100000 in
theorem hl_times_tw (l : Launch) (hl0 : l.stackTraces = false) (D : va_G) (o q1 q2 : Nat) (cI cJ : ClassId) (tE tL : Nat) (F G : Nat → Int) (k : Int) (bo : Nat) (w : Nat → Int) (hdl : dL o q1 q2 bo) (f g : Int) (hF : ∀ j, 0 ≤ F j ∧ F j < 32003) (hG : ∀ j, 0 ≤ G j ∧ G j < 32003) (hk : 0 ≤ k ∧ k < 60) (hf : 0 ≤ f ∧ f < k) (hg : 0 ≤ g ∧ g < k) (h0 : lmZ F f g = 0 ∧ lmZ F g f = 0) (h1 : ptZ (spZ F G f g 72) = 1) : hl_M l yL_times cL_times 5 [(0, 10, 13, 21), (0, 10, 17, 15)] ({ frames := 8, cells := 1, slots := 6, locals := 139 }) [.ref o, .int (iZ f), .int (iZ g), .ref bo] D o q1 q2 cI cJ tE tL F G k bo w 2 F (spZ F G f g 72) k w 1 6 := by
  refine hl_of (by decide) rfl (Nat.le_of_ble_eq_true rfl) ?_
  intro p e s m below meth c A hAe S hr hlk htab hP hK hs ht hnc hA hAn hS ls hl
  obtain ⟨hx, hb, hml, hown, hT⟩ := id S
  have hl : lv_has ls 5 [(0, .ref o), (1, .int (iZ f)), (2, .int (iZ g)), (3, .ref bo)] := hl
  refine lv_aload_n hx hb dL_times_0 rfl (lv_at hl 3 rfl) ?_
  refine zi_const hx hb 0 dL_times_1 ?_
  refine lv_aload_n hx hb dL_times_2 rfl (lv_at hl 0 rfl) ?_
  refine lv_iload_n hx hb dL_times_3 rfl (lv_at hl 1 rfl) ?_
  refine lv_iload_n hx hb dL_times_4 rfl (lv_at hl 2 rfl) ?_
  refine hl_Tw (As := [.int (iZ f), .int (iZ g)]) (rest := [.int (iZ 0), .ref bo]) S (tw_X0_times l hl0 D o q1 q2 cI tE tL F G k f g hdl.1 hF hG hk hf hg h0 h1) tb_211 tb_212 tb_213 tb_1 tb_214 hd_X0_times ⟨rfl, rfl, by decide, by decide⟩ hP hK hs ht hA hAn hdl rfl hl.1 rfl (Nat.le_of_ble_eq_true rfl) dL_times_5 ⟨by decide, by decide⟩ [⟨0, 10, 13, 21⟩] ⟨0, 10, 17, 15⟩ [] (htab.trans rfl) (fun z hz => by rw [List.mem_singleton.mp hz]; exact Or.inr ⟨by decide, _, hT _ tb_168, hnc.2.1⟩) rfl (by decide) (hT _ tb_37) ht.2.1.2.1.word (fun q9 H locs hP hS => ?_)
  refine lv_astore (lv' := [(4, .ref q9), (0, .ref o), (1, .int (iZ f)), (2, .int (iZ g)), (3, .ref bo)]) hx hb dL_times_17 hl (by decide) rfl (fun ls hl => ?_)
  refine zi_const hx hb 2 dL_times_19 ?_
  exact hl_iret hx hb hr hlk hP hS dL_times_20
set_option maxHeartbeats 4000000 in
set_option maxRecDepth 100000 in
theorem hl_derive_k (l : Launch) (D : va_G) (o q1 q2 : Nat) (cI cJ : ClassId) (tE tL : Nat) (F G : Nat → Int) (k : Int) (bo : Nat) (w : Nat → Int) (hdl : dL o q1 q2 bo) (f : Int) (hF : ∀ j, 0 ≤ F j ∧ F j < 32003) (hk : 0 ≤ k ∧ k < 60) (hf : 0 ≤ f ∧ f < k) (h0 : stZ F f = 0) : hl_M l yL_derive cL_derive 4 [(0, 9, 12, 21), (0, 9, 15, 15)] ({ frames := 6, cells := 0, slots := 0, locals := 134 }) [.ref o, .int (iZ f), .ref bo] D o q1 q2 cI cJ tE tL F G k bo w 0 (fiZ F (k * 72).toNat 72 (fun j => slZ F f (jC j) (jN j))) G (k + 1) (uZ w 0 k) 0 0 := by
  refine hl_of (by decide) rfl (Nat.le_of_ble_eq_true rfl) ?_
  intro p e s m below meth c A hAe S hr hlk htab hP hK hs ht hnc hA hAn hS ls hl
  obtain ⟨hx, hb, hml, hown, hT⟩ := id S
  have hl : lv_has ls 4 [(0, .ref o), (1, .int (iZ f)), (2, .ref bo)] := hl
  refine lv_aload_n hx hb dL_derive_0 rfl (lv_at hl 2 rfl) ?_
  refine zi_const hx hb 0 dL_derive_1 ?_
  refine lv_aload_n hx hb dL_derive_2 rfl (lv_at hl 0 rfl) ?_
  refine lv_iload_n hx hb dL_derive_3 rfl (lv_at hl 1 rfl) ?_
  refine wr_V (As := [.int (iZ f)]) (rest := [.int (iZ 0), .ref bo]) (st1 := [.int (iZ k), .int (iZ 0), .ref bo]) (F' := (fiZ F (k * 72).toNat 72 (fun j => slZ F f (jC j) (jN j)))) (G' := G) (k' := (k + 1)) S (k_X0_derive l D o q1 q2 cI tE tL F G k f hdl.1 hF hk hf h0) tb_278 tb_279 tb_280 tb_1 tb_281 hd_X0_derive ⟨rfl, rfl, by decide, by decide⟩ (lX_x hP) hK rfl hs hS ⟨hA.1, hA.2.1, hA.2.2.1⟩ hAn rfl hl.1 rfl (Nat.le_of_ble_eq_true rfl) dL_derive_4 ⟨Nat.zero_le _, Nat.zero_le _⟩ rfl (fun H locs hP1 hS hz hkp => ?_)
  have hP := lX_join hP1 hP hkp hdl
  refine zi_i2l hx hb dL_derive_7 (by omega) ?_
  refine hl_out hx hb hK hP hdl hA hS dL_derive_8 (fun H locs hP hS => ?_)
  refine lv_goto (tgt := 18) hx hb dL_derive_9 (by decide) ?_
  refine zi_const hx hb 0 dL_derive_18 ?_
  exact hl_iret hx hb hr hlk hP hS dL_derive_19
set_option maxHeartbeats 4000000 in
set_option maxRecDepth 100000 in
theorem hl_derive_tO (l : Launch) (hl0 : l.stackTraces = false) (D : va_G) (o q1 q2 : Nat) (cI cJ : ClassId) (tE tL : Nat) (F G : Nat → Int) (k : Int) (bo : Nat) (w : Nat → Int) (hdl : dL o q1 q2 bo) (f : Int) (hk : 0 ≤ k ∧ k ≤ 60) (hf0 : -2147483648 ≤ f ∧ f ≤ 2147483647) (h0 : ¬ (0 ≤ f ∧ f < k)) : hl_M l yL_derive cL_derive 4 [(0, 9, 12, 21), (0, 9, 15, 15)] ({ frames := 8, cells := 1, slots := 6, locals := 134 }) [.ref o, .int (iZ f), .ref bo] D o q1 q2 cI cJ tE tL F G k bo w 1 F G k w 1 6 := by
  refine hl_of (by decide) rfl (Nat.le_of_ble_eq_true rfl) ?_
  intro p e s m below meth c A hAe S hr hlk htab hP hK hs ht hnc hA hAn hS ls hl
  obtain ⟨hx, hb, hml, hown, hT⟩ := id S
  have hl : lv_has ls 4 [(0, .ref o), (1, .int (iZ f)), (2, .ref bo)] := hl
  refine lv_aload_n hx hb dL_derive_0 rfl (lv_at hl 2 rfl) ?_
  refine zi_const hx hb 0 dL_derive_1 ?_
  refine lv_aload_n hx hb dL_derive_2 rfl (lv_at hl 0 rfl) ?_
  refine lv_iload_n hx hb dL_derive_3 rfl (lv_at hl 1 rfl) ?_
  refine hl_T (As := [.int (iZ f)]) (rest := [.int (iZ 0), .ref bo]) S (tO_X0_derive l hl0 D o q1 q2 cI tE tL F G k f hk hf0 h0) tb_278 tb_279 tb_280 tb_1 tb_281 hd_X0_derive ⟨rfl, rfl, by decide, by decide⟩ hP hK hs ht rfl hl.1 rfl (Nat.le_of_ble_eq_true rfl) dL_derive_4 ⟨by decide, by decide⟩ [] ⟨0, 9, 12, 21⟩ [⟨0, 9, 15, 15⟩] (htab.trans rfl) (fun z hz => absurd hz List.not_mem_nil) rfl (by decide) (hT _ tb_168) ht.2.1.2.2.word (fun q9 H hP hS => ?_)
  refine lv_astore_n (lv' := [(3, .ref q9), (0, .ref o), (1, .int (iZ f)), (2, .ref bo)]) hx hb dL_derive_12 rfl hl (by decide) rfl (fun ls hl => ?_)
  refine zi_const hx hb 1 dL_derive_13 ?_
  exact hl_iret hx hb hr hlk hP hS dL_derive_14
set_option maxHeartbeats 4000000 in
set_option maxRecDepth 100000 in
theorem hl_derive_tS (l : Launch) (hl0 : l.stackTraces = false) (D : va_G) (o q1 q2 : Nat) (cI cJ : ClassId) (tE tL : Nat) (F G : Nat → Int) (k : Int) (bo : Nat) (w : Nat → Int) (hdl : dL o q1 q2 bo) (f : Int) (hk : 0 ≤ k ∧ k ≤ 60) (hf : 0 ≤ f ∧ f < k) (h0 : ¬ k < 60) : hl_M l yL_derive cL_derive 4 [(0, 9, 12, 21), (0, 9, 15, 15)] ({ frames := 8, cells := 1, slots := 6, locals := 134 }) [.ref o, .int (iZ f), .ref bo] D o q1 q2 cI cJ tE tL F G k bo w 2 F G k w 1 6 := by
  refine hl_of (by decide) rfl (Nat.le_of_ble_eq_true rfl) ?_
  intro p e s m below meth c A hAe S hr hlk htab hP hK hs ht hnc hA hAn hS ls hl
  obtain ⟨hx, hb, hml, hown, hT⟩ := id S
  have hl : lv_has ls 4 [(0, .ref o), (1, .int (iZ f)), (2, .ref bo)] := hl
  refine lv_aload_n hx hb dL_derive_0 rfl (lv_at hl 2 rfl) ?_
  refine zi_const hx hb 0 dL_derive_1 ?_
  refine lv_aload_n hx hb dL_derive_2 rfl (lv_at hl 0 rfl) ?_
  refine lv_iload_n hx hb dL_derive_3 rfl (lv_at hl 1 rfl) ?_
  refine hl_T (As := [.int (iZ f)]) (rest := [.int (iZ 0), .ref bo]) S (tS_X0_derive l hl0 D o q1 q2 cI tE tL F G k f hk hf h0) tb_278 tb_279 tb_280 tb_1 tb_281 hd_X0_derive ⟨rfl, rfl, by decide, by decide⟩ hP hK hs ht rfl hl.1 rfl (Nat.le_of_ble_eq_true rfl) dL_derive_4 ⟨by decide, by decide⟩ [⟨0, 9, 12, 21⟩] ⟨0, 9, 15, 15⟩ [] (htab.trans rfl) (fun z hz => by rw [List.mem_singleton.mp hz]; exact Or.inr ⟨by decide, _, hT _ tb_168, hnc.2.1⟩) rfl (by decide) (hT _ tb_37) ht.2.1.2.1.word (fun q9 H hP hS => ?_)
  refine lv_astore_n (lv' := [(3, .ref q9), (0, .ref o), (1, .int (iZ f)), (2, .ref bo)]) hx hb dL_derive_15 rfl hl (by decide) rfl (fun ls hl => ?_)
  refine zi_const hx hb 2 dL_derive_16 ?_
  exact hl_iret hx hb hr hlk hP hS dL_derive_17
set_option maxHeartbeats 4000000 in
set_option maxRecDepth 100000 in
theorem hl_derive_tF (l : Launch) (hl0 : l.stackTraces = false) (D : va_G) (o q1 q2 : Nat) (cI cJ : ClassId) (tE tL : Nat) (F G : Nat → Int) (k : Int) (bo : Nat) (w : Nat → Int) (hdl : dL o q1 q2 bo) (f : Int) (hF : ∀ j, 0 ≤ F j ∧ F j < 32003) (hk : 0 ≤ k ∧ k < 60) (hf : 0 ≤ f ∧ f < k) (h0 : stZ F f = 1) : hl_M l yL_derive cL_derive 4 [(0, 9, 12, 21), (0, 9, 15, 15)] ({ frames := 8, cells := 1, slots := 6, locals := 134 }) [.ref o, .int (iZ f), .ref bo] D o q1 q2 cI cJ tE tL F G k bo w 2 F G k w 1 6 := by
  refine hl_of (by decide) rfl (Nat.le_of_ble_eq_true rfl) ?_
  intro p e s m below meth c A hAe S hr hlk htab hP hK hs ht hnc hA hAn hS ls hl
  obtain ⟨hx, hb, hml, hown, hT⟩ := id S
  have hl : lv_has ls 4 [(0, .ref o), (1, .int (iZ f)), (2, .ref bo)] := hl
  refine lv_aload_n hx hb dL_derive_0 rfl (lv_at hl 2 rfl) ?_
  refine zi_const hx hb 0 dL_derive_1 ?_
  refine lv_aload_n hx hb dL_derive_2 rfl (lv_at hl 0 rfl) ?_
  refine lv_iload_n hx hb dL_derive_3 rfl (lv_at hl 1 rfl) ?_
  refine hl_T (As := [.int (iZ f)]) (rest := [.int (iZ 0), .ref bo]) S (tF_X0_derive l hl0 D o q1 q2 cI tE tL F G k f hF hk hf h0) tb_278 tb_279 tb_280 tb_1 tb_281 hd_X0_derive ⟨rfl, rfl, by decide, by decide⟩ hP hK hs ht rfl hl.1 rfl (Nat.le_of_ble_eq_true rfl) dL_derive_4 ⟨by decide, by decide⟩ [⟨0, 9, 12, 21⟩] ⟨0, 9, 15, 15⟩ [] (htab.trans rfl) (fun z hz => by rw [List.mem_singleton.mp hz]; exact Or.inr ⟨by decide, _, hT _ tb_168, hnc.2.1⟩) rfl (by decide) (hT _ tb_37) ht.2.1.2.1.word (fun q9 H hP hS => ?_)
  refine lv_astore_n (lv' := [(3, .ref q9), (0, .ref o), (1, .int (iZ f)), (2, .ref bo)]) hx hb dL_derive_15 rfl hl (by decide) rfl (fun ls hl => ?_)
  refine zi_const hx hb 2 dL_derive_16 ?_
  exact hl_iret hx hb hr hlk hP hS dL_derive_17
set_option maxHeartbeats 4000000 in
set_option maxRecDepth 100000 in
theorem hl_integrate_k (l : Launch) (D : va_G) (o q1 q2 : Nat) (cI cJ : ClassId) (tE tL : Nat) (F G : Nat → Int) (k : Int) (bo : Nat) (w : Nat → Int) (hdl : dL o q1 q2 bo) (f : Int) (hF : ∀ j, 0 ≤ F j ∧ F j < 32003) (hk : 0 ≤ k ∧ k < 60) (hf : 0 ≤ f ∧ f < k) (h0 : hrZ F f = 0) (h1 : itZ F f = 0) : hl_M l yL_integrate cL_integrate 4 [(0, 9, 12, 21), (0, 9, 15, 15)] ({ frames := 7, cells := 0, slots := 0, locals := 156 }) [.ref o, .int (iZ f), .ref bo] D o q1 q2 cI cJ tE tL F G k bo w 0 (fiZ F (k * 72).toNat 72 (fun j => igZ F f (jC j) (jN j))) G (k + 1) (uZ w 0 k) 0 0 := by
  refine hl_of (by decide) rfl (Nat.le_of_ble_eq_true rfl) ?_
  intro p e s m below meth c A hAe S hr hlk htab hP hK hs ht hnc hA hAn hS ls hl
  obtain ⟨hx, hb, hml, hown, hT⟩ := id S
  have hl : lv_has ls 4 [(0, .ref o), (1, .int (iZ f)), (2, .ref bo)] := hl
  refine lv_aload_n hx hb dL_integrate_0 rfl (lv_at hl 2 rfl) ?_
  refine zi_const hx hb 0 dL_integrate_1 ?_
  refine lv_aload_n hx hb dL_integrate_2 rfl (lv_at hl 0 rfl) ?_
  refine lv_iload_n hx hb dL_integrate_3 rfl (lv_at hl 1 rfl) ?_
  refine wr_V (As := [.int (iZ f)]) (rest := [.int (iZ 0), .ref bo]) (st1 := [.int (iZ k), .int (iZ 0), .ref bo]) (F' := (fiZ F (k * 72).toNat 72 (fun j => igZ F f (jC j) (jN j)))) (G' := G) (k' := (k + 1)) S (k_X0_integrate l D o q1 q2 cI tE tL F G k f hdl.1 hF hk hf h0 h1) tb_298 tb_299 tb_300 tb_1 tb_301 hd_X0_integrate ⟨rfl, rfl, by decide, by decide⟩ (lX_x hP) hK rfl hs hS ⟨hA.1, hA.2.1, hA.2.2.1⟩ hAn rfl hl.1 rfl (Nat.le_of_ble_eq_true rfl) dL_integrate_4 ⟨Nat.zero_le _, Nat.zero_le _⟩ rfl (fun H locs hP1 hS hz hkp => ?_)
  have hP := lX_join hP1 hP hkp hdl
  refine zi_i2l hx hb dL_integrate_7 (by omega) ?_
  refine hl_out hx hb hK hP hdl hA hS dL_integrate_8 (fun H locs hP hS => ?_)
  refine lv_goto (tgt := 18) hx hb dL_integrate_9 (by decide) ?_
  refine zi_const hx hb 0 dL_integrate_18 ?_
  exact hl_iret hx hb hr hlk hP hS dL_integrate_19
set_option maxHeartbeats 4000000 in
set_option maxRecDepth 100000 in
theorem hl_integrate_k0 (l : Launch) (D : va_G) (o q1 q2 : Nat) (cI cJ : ClassId) (tE tL : Nat) (F G : Nat → Int) (k : Int) (bo : Nat) (w : Nat → Int) (hdl : dL o q1 q2 bo) (f : Int) (hF : ∀ j, 0 ≤ F j ∧ F j < 32003) (hk : 0 ≤ k ∧ k < 60) (hf : 0 ≤ f ∧ f < k) (h0 : hrZ F f = 1) : hl_M l yL_integrate cL_integrate 4 [(0, 9, 12, 21), (0, 9, 15, 15)] ({ frames := 7, cells := 0, slots := 0, locals := 156 }) [.ref o, .int (iZ f), .ref bo] D o q1 q2 cI cJ tE tL F G k bo w 0 F G k (uZ w 0 (-1)) 0 0 := by
  refine hl_of (by decide) rfl (Nat.le_of_ble_eq_true rfl) ?_
  intro p e s m below meth c A hAe S hr hlk htab hP hK hs ht hnc hA hAn hS ls hl
  obtain ⟨hx, hb, hml, hown, hT⟩ := id S
  have hl : lv_has ls 4 [(0, .ref o), (1, .int (iZ f)), (2, .ref bo)] := hl
  refine lv_aload_n hx hb dL_integrate_0 rfl (lv_at hl 2 rfl) ?_
  refine zi_const hx hb 0 dL_integrate_1 ?_
  refine lv_aload_n hx hb dL_integrate_2 rfl (lv_at hl 0 rfl) ?_
  refine lv_iload_n hx hb dL_integrate_3 rfl (lv_at hl 1 rfl) ?_
  refine wr_V (As := [.int (iZ f)]) (rest := [.int (iZ 0), .ref bo]) (st1 := [.int (iZ (-1)), .int (iZ 0), .ref bo]) (F' := F) (G' := G) (k' := k) S (k0_X0_integrate l D o q1 q2 cI tE tL F G k f hdl.1 hF hk hf h0) tb_298 tb_299 tb_300 tb_1 tb_301 hd_X0_integrate ⟨rfl, rfl, by decide, by decide⟩ (lX_x hP) hK rfl hs hS ⟨hA.1, hA.2.1, hA.2.2.1⟩ hAn rfl hl.1 rfl (Nat.le_of_ble_eq_true rfl) dL_integrate_4 ⟨Nat.zero_le _, Nat.zero_le _⟩ rfl (fun H locs hP1 hS hz hkp => ?_)
  have hP := lX_join hP1 hP hkp hdl
  refine zi_i2l hx hb dL_integrate_7 (by omega) ?_
  refine hl_out hx hb hK hP hdl hA hS dL_integrate_8 (fun H locs hP hS => ?_)
  refine lv_goto (tgt := 18) hx hb dL_integrate_9 (by decide) ?_
  refine zi_const hx hb 0 dL_integrate_18 ?_
  exact hl_iret hx hb hr hlk hP hS dL_integrate_19
set_option maxHeartbeats 4000000 in
set_option maxRecDepth 100000 in
theorem hl_integrate_tO (l : Launch) (hl0 : l.stackTraces = false) (D : va_G) (o q1 q2 : Nat) (cI cJ : ClassId) (tE tL : Nat) (F G : Nat → Int) (k : Int) (bo : Nat) (w : Nat → Int) (hdl : dL o q1 q2 bo) (f : Int) (hk : 0 ≤ k ∧ k ≤ 60) (hf0 : -2147483648 ≤ f ∧ f ≤ 2147483647) (h0 : ¬ (0 ≤ f ∧ f < k)) : hl_M l yL_integrate cL_integrate 4 [(0, 9, 12, 21), (0, 9, 15, 15)] ({ frames := 8, cells := 1, slots := 6, locals := 156 }) [.ref o, .int (iZ f), .ref bo] D o q1 q2 cI cJ tE tL F G k bo w 1 F G k w 1 6 := by
  refine hl_of (by decide) rfl (Nat.le_of_ble_eq_true rfl) ?_
  intro p e s m below meth c A hAe S hr hlk htab hP hK hs ht hnc hA hAn hS ls hl
  obtain ⟨hx, hb, hml, hown, hT⟩ := id S
  have hl : lv_has ls 4 [(0, .ref o), (1, .int (iZ f)), (2, .ref bo)] := hl
  refine lv_aload_n hx hb dL_integrate_0 rfl (lv_at hl 2 rfl) ?_
  refine zi_const hx hb 0 dL_integrate_1 ?_
  refine lv_aload_n hx hb dL_integrate_2 rfl (lv_at hl 0 rfl) ?_
  refine lv_iload_n hx hb dL_integrate_3 rfl (lv_at hl 1 rfl) ?_
  refine hl_T (As := [.int (iZ f)]) (rest := [.int (iZ 0), .ref bo]) S (tO_X0_integrate l hl0 D o q1 q2 cI tE tL F G k f hk hf0 h0) tb_298 tb_299 tb_300 tb_1 tb_301 hd_X0_integrate ⟨rfl, rfl, by decide, by decide⟩ hP hK hs ht rfl hl.1 rfl (Nat.le_of_ble_eq_true rfl) dL_integrate_4 ⟨by decide, by decide⟩ [] ⟨0, 9, 12, 21⟩ [⟨0, 9, 15, 15⟩] (htab.trans rfl) (fun z hz => absurd hz List.not_mem_nil) rfl (by decide) (hT _ tb_168) ht.2.1.2.2.word (fun q9 H hP hS => ?_)
  refine lv_astore_n (lv' := [(3, .ref q9), (0, .ref o), (1, .int (iZ f)), (2, .ref bo)]) hx hb dL_integrate_12 rfl hl (by decide) rfl (fun ls hl => ?_)
  refine zi_const hx hb 1 dL_integrate_13 ?_
  exact hl_iret hx hb hr hlk hP hS dL_integrate_14
set_option maxHeartbeats 4000000 in
set_option maxRecDepth 100000 in
theorem hl_integrate_tS (l : Launch) (hl0 : l.stackTraces = false) (D : va_G) (o q1 q2 : Nat) (cI cJ : ClassId) (tE tL : Nat) (F G : Nat → Int) (k : Int) (bo : Nat) (w : Nat → Int) (hdl : dL o q1 q2 bo) (f : Int) (hk : 0 ≤ k ∧ k ≤ 60) (hf : 0 ≤ f ∧ f < k) (h0 : ¬ k < 60) : hl_M l yL_integrate cL_integrate 4 [(0, 9, 12, 21), (0, 9, 15, 15)] ({ frames := 8, cells := 1, slots := 6, locals := 156 }) [.ref o, .int (iZ f), .ref bo] D o q1 q2 cI cJ tE tL F G k bo w 2 F G k w 1 6 := by
  refine hl_of (by decide) rfl (Nat.le_of_ble_eq_true rfl) ?_
  intro p e s m below meth c A hAe S hr hlk htab hP hK hs ht hnc hA hAn hS ls hl
  obtain ⟨hx, hb, hml, hown, hT⟩ := id S
  have hl : lv_has ls 4 [(0, .ref o), (1, .int (iZ f)), (2, .ref bo)] := hl
  refine lv_aload_n hx hb dL_integrate_0 rfl (lv_at hl 2 rfl) ?_
  refine zi_const hx hb 0 dL_integrate_1 ?_
  refine lv_aload_n hx hb dL_integrate_2 rfl (lv_at hl 0 rfl) ?_
  refine lv_iload_n hx hb dL_integrate_3 rfl (lv_at hl 1 rfl) ?_
  refine hl_T (As := [.int (iZ f)]) (rest := [.int (iZ 0), .ref bo]) S (tS_X0_integrate l hl0 D o q1 q2 cI tE tL F G k f hk hf h0) tb_298 tb_299 tb_300 tb_1 tb_301 hd_X0_integrate ⟨rfl, rfl, by decide, by decide⟩ hP hK hs ht rfl hl.1 rfl (Nat.le_of_ble_eq_true rfl) dL_integrate_4 ⟨by decide, by decide⟩ [⟨0, 9, 12, 21⟩] ⟨0, 9, 15, 15⟩ [] (htab.trans rfl) (fun z hz => by rw [List.mem_singleton.mp hz]; exact Or.inr ⟨by decide, _, hT _ tb_168, hnc.2.1⟩) rfl (by decide) (hT _ tb_37) ht.2.1.2.1.word (fun q9 H hP hS => ?_)
  refine lv_astore_n (lv' := [(3, .ref q9), (0, .ref o), (1, .int (iZ f)), (2, .ref bo)]) hx hb dL_integrate_15 rfl hl (by decide) rfl (fun ls hl => ?_)
  refine zi_const hx hb 2 dL_integrate_16 ?_
  exact hl_iret hx hb hr hlk hP hS dL_integrate_17
set_option maxHeartbeats 4000000 in
set_option maxRecDepth 100000 in
theorem hl_integrate_tF (l : Launch) (hl0 : l.stackTraces = false) (D : va_G) (o q1 q2 : Nat) (cI cJ : ClassId) (tE tL : Nat) (F G : Nat → Int) (k : Int) (bo : Nat) (w : Nat → Int) (hdl : dL o q1 q2 bo) (f : Int) (hF : ∀ j, 0 ≤ F j ∧ F j < 32003) (hk : 0 ≤ k ∧ k < 60) (hf : 0 ≤ f ∧ f < k) (h0 : hrZ F f = 0) (h1 : itZ F f = 1) : hl_M l yL_integrate cL_integrate 4 [(0, 9, 12, 21), (0, 9, 15, 15)] ({ frames := 8, cells := 1, slots := 6, locals := 156 }) [.ref o, .int (iZ f), .ref bo] D o q1 q2 cI cJ tE tL F G k bo w 2 F G k w 1 6 := by
  refine hl_of (by decide) rfl (Nat.le_of_ble_eq_true rfl) ?_
  intro p e s m below meth c A hAe S hr hlk htab hP hK hs ht hnc hA hAn hS ls hl
  obtain ⟨hx, hb, hml, hown, hT⟩ := id S
  have hl : lv_has ls 4 [(0, .ref o), (1, .int (iZ f)), (2, .ref bo)] := hl
  refine lv_aload_n hx hb dL_integrate_0 rfl (lv_at hl 2 rfl) ?_
  refine zi_const hx hb 0 dL_integrate_1 ?_
  refine lv_aload_n hx hb dL_integrate_2 rfl (lv_at hl 0 rfl) ?_
  refine lv_iload_n hx hb dL_integrate_3 rfl (lv_at hl 1 rfl) ?_
  refine hl_T (As := [.int (iZ f)]) (rest := [.int (iZ 0), .ref bo]) S (tF_X0_integrate l hl0 D o q1 q2 cI tE tL F G k f hF hk hf h0 h1) tb_298 tb_299 tb_300 tb_1 tb_301 hd_X0_integrate ⟨rfl, rfl, by decide, by decide⟩ hP hK hs ht rfl hl.1 rfl (Nat.le_of_ble_eq_true rfl) dL_integrate_4 ⟨by decide, by decide⟩ [⟨0, 9, 12, 21⟩] ⟨0, 9, 15, 15⟩ [] (htab.trans rfl) (fun z hz => by rw [List.mem_singleton.mp hz]; exact Or.inr ⟨by decide, _, hT _ tb_168, hnc.2.1⟩) rfl (by decide) (hT _ tb_37) ht.2.1.2.1.word (fun q9 H hP hS => ?_)
  refine lv_astore_n (lv' := [(3, .ref q9), (0, .ref o), (1, .int (iZ f)), (2, .ref bo)]) hx hb dL_integrate_15 rfl hl (by decide) rfl (fun ls hl => ?_)
  refine zi_const hx hb 2 dL_integrate_16 ?_
  exact hl_iret hx hb hr hlk hP hS dL_integrate_17
set_option maxHeartbeats 4000000 in
set_option maxRecDepth 100000 in
theorem hl_rest_k (l : Launch) (D : va_G) (o q1 q2 : Nat) (cI cJ : ClassId) (tE tL : Nat) (F G : Nat → Int) (k : Int) (bo : Nat) (w : Nat → Int) (hdl : dL o q1 q2 bo) (f c1 : Int) (hF : ∀ j, 0 ≤ F j ∧ F j < 32003) (hf : 0 ≤ f ∧ f < k ∧ k ≤ 60) (hc1 : 0 ≤ c1 ∧ c1 < 8) : hl_M l yL_rest cL_rest 5 [(0, 10, 13, 21), (0, 10, 17, 13)] ({ frames := 6, cells := 0, slots := 0, locals := 135 }) [.ref o, .int (iZ f), .int (iZ c1), .ref bo] D o q1 q2 cI cJ tE tL F G k bo w 0 F G k (uZ w 0 (rsZ F f c1)) 0 0 := by
  refine hl_of (by decide) rfl (Nat.le_of_ble_eq_true rfl) ?_
  intro p e s m below meth c A hAe S hr hlk htab hP hK hs ht hnc hA hAn hS ls hl
  obtain ⟨hx, hb, hml, hown, hT⟩ := id S
  have hl : lv_has ls 5 [(0, .ref o), (1, .int (iZ f)), (2, .int (iZ c1)), (3, .ref bo)] := hl
  refine lv_aload_n hx hb dL_rest_0 rfl (lv_at hl 3 rfl) ?_
  refine zi_const hx hb 0 dL_rest_1 ?_
  refine lv_aload_n hx hb dL_rest_2 rfl (lv_at hl 0 rfl) ?_
  refine lv_iload_n hx hb dL_rest_3 rfl (lv_at hl 1 rfl) ?_
  refine lv_iload_n hx hb dL_rest_4 rfl (lv_at hl 2 rfl) ?_
  refine rd_V (As := [.int (iZ f), .int (iZ c1)]) (rest := [.int (iZ 0), .ref bo]) (st1 := [.int (iZ (rsZ F f c1)), .int (iZ 0), .ref bo]) S (k_X0_rest l D o q1 q2 cI tE tL F G k f c1 hF hf hc1) tb_342 tb_343 tb_344 tb_1 tb_345 hd_X0_rest ⟨rfl, rfl, by decide, by decide⟩ rX_bl (rX_w (lX_x hP) hK rfl hs hS) (va_recv hK (lX_x hP) (ci := 0) (q0 := 0) rfl rfl) rfl hl.1 rfl (Nat.le_of_ble_eq_true rfl) dL_rest_5 ⟨Nat.zero_le _, Nat.zero_le _⟩ rfl ?_
  have hrg : 0 ≤ rsZ F f c1 ∧ rsZ F f c1 < 32003 := by unfold rsZ; split <;> omega
  refine zi_i2l hx hb dL_rest_8 (by omega) ?_
  refine hl_out hx hb hK hP hdl hA hS dL_rest_9 (fun H locs hP hS => ?_)
  refine lv_goto (tgt := 21) hx hb dL_rest_10 (by decide) ?_
  refine zi_const hx hb 0 dL_rest_21 ?_
  exact hl_iret hx hb hr hlk hP hS dL_rest_22
set_option maxHeartbeats 4000000 in
set_option maxRecDepth 100000 in
theorem hl_rest_tO (l : Launch) (hl0 : l.stackTraces = false) (D : va_G) (o q1 q2 : Nat) (cI cJ : ClassId) (tE tL : Nat) (F G : Nat → Int) (k : Int) (bo : Nat) (w : Nat → Int) (hdl : dL o q1 q2 bo) (f c1 : Int) (hk : 0 ≤ k ∧ k ≤ 60) (hf0 : -2147483648 ≤ f ∧ f ≤ 2147483647) (hc10 : -2147483648 ≤ c1 ∧ c1 ≤ 2147483647) (h0 : ¬ (0 ≤ f ∧ f < k)) : hl_M l yL_rest cL_rest 5 [(0, 10, 13, 21), (0, 10, 17, 13)] ({ frames := 8, cells := 1, slots := 6, locals := 135 }) [.ref o, .int (iZ f), .int (iZ c1), .ref bo] D o q1 q2 cI cJ tE tL F G k bo w 1 F G k w 1 6 := by
  refine hl_of (by decide) rfl (Nat.le_of_ble_eq_true rfl) ?_
  intro p e s m below meth c A hAe S hr hlk htab hP hK hs ht hnc hA hAn hS ls hl
  obtain ⟨hx, hb, hml, hown, hT⟩ := id S
  have hl : lv_has ls 5 [(0, .ref o), (1, .int (iZ f)), (2, .int (iZ c1)), (3, .ref bo)] := hl
  refine lv_aload_n hx hb dL_rest_0 rfl (lv_at hl 3 rfl) ?_
  refine zi_const hx hb 0 dL_rest_1 ?_
  refine lv_aload_n hx hb dL_rest_2 rfl (lv_at hl 0 rfl) ?_
  refine lv_iload_n hx hb dL_rest_3 rfl (lv_at hl 1 rfl) ?_
  refine lv_iload_n hx hb dL_rest_4 rfl (lv_at hl 2 rfl) ?_
  refine hl_T (As := [.int (iZ f), .int (iZ c1)]) (rest := [.int (iZ 0), .ref bo]) S (tO_X0_rest l hl0 D o q1 q2 cI tE tL F G k f c1 hk hf0 hc10 h0) tb_342 tb_343 tb_344 tb_1 tb_345 hd_X0_rest ⟨rfl, rfl, by decide, by decide⟩ hP hK hs ht rfl hl.1 rfl (Nat.le_of_ble_eq_true rfl) dL_rest_5 ⟨by decide, by decide⟩ [] ⟨0, 10, 13, 21⟩ [⟨0, 10, 17, 13⟩] (htab.trans rfl) (fun z hz => absurd hz List.not_mem_nil) rfl (by decide) (hT _ tb_168) ht.2.1.2.2.word (fun q9 H hP hS => ?_)
  refine lv_astore (lv' := [(4, .ref q9), (0, .ref o), (1, .int (iZ f)), (2, .int (iZ c1)), (3, .ref bo)]) hx hb dL_rest_13 hl (by decide) rfl (fun ls hl => ?_)
  refine zi_const hx hb 1 dL_rest_15 ?_
  exact hl_iret hx hb hr hlk hP hS dL_rest_16
set_option maxHeartbeats 4000000 in
set_option maxRecDepth 100000 in
theorem hl_rest_tA (l : Launch) (hl0 : l.stackTraces = false) (D : va_G) (o q1 q2 : Nat) (cI cJ : ClassId) (tE tL : Nat) (F G : Nat → Int) (k : Int) (bo : Nat) (w : Nat → Int) (hdl : dL o q1 q2 bo) (f c1 : Int) (hk : 0 ≤ k ∧ k ≤ 60) (hf : 0 ≤ f ∧ f < k) (hc10 : -2147483648 ≤ c1 ∧ c1 ≤ 2147483647) (h0 : ¬ (0 ≤ c1 ∧ c1 < 8)) : hl_M l yL_rest cL_rest 5 [(0, 10, 13, 21), (0, 10, 17, 13)] ({ frames := 8, cells := 1, slots := 6, locals := 135 }) [.ref o, .int (iZ f), .int (iZ c1), .ref bo] D o q1 q2 cI cJ tE tL F G k bo w 2 F G k w 1 6 := by
  refine hl_of (by decide) rfl (Nat.le_of_ble_eq_true rfl) ?_
  intro p e s m below meth c A hAe S hr hlk htab hP hK hs ht hnc hA hAn hS ls hl
  obtain ⟨hx, hb, hml, hown, hT⟩ := id S
  have hl : lv_has ls 5 [(0, .ref o), (1, .int (iZ f)), (2, .int (iZ c1)), (3, .ref bo)] := hl
  refine lv_aload_n hx hb dL_rest_0 rfl (lv_at hl 3 rfl) ?_
  refine zi_const hx hb 0 dL_rest_1 ?_
  refine lv_aload_n hx hb dL_rest_2 rfl (lv_at hl 0 rfl) ?_
  refine lv_iload_n hx hb dL_rest_3 rfl (lv_at hl 1 rfl) ?_
  refine lv_iload_n hx hb dL_rest_4 rfl (lv_at hl 2 rfl) ?_
  refine hl_T (As := [.int (iZ f), .int (iZ c1)]) (rest := [.int (iZ 0), .ref bo]) S (tA_X0_rest l hl0 D o q1 q2 cI tE tL F G k f c1 hk hf hc10 h0) tb_342 tb_343 tb_344 tb_1 tb_345 hd_X0_rest ⟨rfl, rfl, by decide, by decide⟩ hP hK hs ht rfl hl.1 rfl (Nat.le_of_ble_eq_true rfl) dL_rest_5 ⟨by decide, by decide⟩ [⟨0, 10, 13, 21⟩] ⟨0, 10, 17, 13⟩ [] (htab.trans rfl) (fun z hz => by rw [List.mem_singleton.mp hz]; exact Or.inr ⟨by decide, _, hT _ tb_168, hnc.2.2⟩) rfl (by decide) (hT _ tb_36) ht.2.1.1.word (fun q9 H hP hS => ?_)
  refine lv_astore (lv' := [(4, .ref q9), (0, .ref o), (1, .int (iZ f)), (2, .int (iZ c1)), (3, .ref bo)]) hx hb dL_rest_17 hl (by decide) rfl (fun ls hl => ?_)
  refine zi_const hx hb 2 dL_rest_19 ?_
  exact hl_iret hx hb hr hlk hP hS dL_rest_20
set_option maxHeartbeats 4000000 in
set_option maxRecDepth 100000 in
theorem hl_at_k (l : Launch) (D : va_G) (o q1 q2 : Nat) (cI cJ : ClassId) (tE tL : Nat) (F G : Nat → Int) (k : Int) (bo : Nat) (w : Nat → Int) (hdl : dL o q1 q2 bo) (f c1 n : Int) (hF : ∀ j, 0 ≤ F j ∧ F j < 32003) (hf : 0 ≤ f ∧ f < k ∧ k ≤ 60) (hc1 : 0 ≤ c1 ∧ c1 < 8) (hn : -4 ≤ n ∧ n ≤ 4) : hl_M l yL_at cL_at 6 [(0, 12, 15, 21), (0, 12, 19, 13)] ({ frames := 4, cells := 0, slots := 0, locals := 88 }) [.ref o, .int (iZ f), .int (iZ c1), .int (iZ n), .ref bo] D o q1 q2 cI cJ tE tL F G k bo w 0 F G k (uZ w 0 (nuZ F f c1 n)) 0 0 := by
  refine hl_of (by decide) rfl (Nat.le_of_ble_eq_true rfl) ?_
  intro p e s m below meth c A hAe S hr hlk htab hP hK hs ht hnc hA hAn hS ls hl
  obtain ⟨hx, hb, hml, hown, hT⟩ := id S
  have hl : lv_has ls 6 [(0, .ref o), (1, .int (iZ f)), (2, .int (iZ c1)), (3, .int (iZ n)), (4, .ref bo)] := hl
  refine lv_aload hx hb dL_at_0 (lv_at hl 4 rfl) ?_
  refine zi_const hx hb 0 dL_at_2 ?_
  refine lv_aload_n hx hb dL_at_3 rfl (lv_at hl 0 rfl) ?_
  refine lv_iload_n hx hb dL_at_4 rfl (lv_at hl 1 rfl) ?_
  refine lv_iload_n hx hb dL_at_5 rfl (lv_at hl 2 rfl) ?_
  refine lv_iload_n hx hb dL_at_6 rfl (lv_at hl 3 rfl) ?_
  refine rd_V (As := [.int (iZ f), .int (iZ c1), .int (iZ n)]) (rest := [.int (iZ 0), .ref bo]) (st1 := [.int (iZ (nuZ F f c1 n)), .int (iZ 0), .ref bo]) S (k_X0_at l D o q1 q2 cI tE tL F G k f c1 n hF hf hc1 hn) tb_349 tb_350 tb_351 tb_1 tb_352 hd_X0_at ⟨rfl, rfl, by decide, by decide⟩ rX_bl (rX_w (lX_x hP) hK rfl hs hS) (va_recv hK (lX_x hP) (ci := 0) (q0 := 0) rfl rfl) rfl hl.1 rfl (Nat.le_of_ble_eq_true rfl) dL_at_7 ⟨Nat.zero_le _, Nat.zero_le _⟩ rfl ?_
  have hrg := nuZ_rng hF f c1 n
  refine zi_i2l hx hb dL_at_10 (by omega) ?_
  refine hl_out hx hb hK hP hdl hA hS dL_at_11 (fun H locs hP hS => ?_)
  refine lv_goto (tgt := 23) hx hb dL_at_12 (by decide) ?_
  refine zi_const hx hb 0 dL_at_23 ?_
  exact hl_iret hx hb hr hlk hP hS dL_at_24
set_option maxHeartbeats 4000000 in
set_option maxRecDepth 100000 in
theorem hl_at_tO (l : Launch) (hl0 : l.stackTraces = false) (D : va_G) (o q1 q2 : Nat) (cI cJ : ClassId) (tE tL : Nat) (F G : Nat → Int) (k : Int) (bo : Nat) (w : Nat → Int) (hdl : dL o q1 q2 bo) (f c1 n : Int) (hk : 0 ≤ k ∧ k ≤ 60) (hf0 : -2147483648 ≤ f ∧ f ≤ 2147483647) (hc10 : -2147483648 ≤ c1 ∧ c1 ≤ 2147483647) (hn0 : -2147483648 ≤ n ∧ n ≤ 2147483647) (h0 : ¬ (0 ≤ f ∧ f < k)) : hl_M l yL_at cL_at 6 [(0, 12, 15, 21), (0, 12, 19, 13)] ({ frames := 8, cells := 1, slots := 6, locals := 126 }) [.ref o, .int (iZ f), .int (iZ c1), .int (iZ n), .ref bo] D o q1 q2 cI cJ tE tL F G k bo w 1 F G k w 1 6 := by
  refine hl_of (by decide) rfl (Nat.le_of_ble_eq_true rfl) ?_
  intro p e s m below meth c A hAe S hr hlk htab hP hK hs ht hnc hA hAn hS ls hl
  obtain ⟨hx, hb, hml, hown, hT⟩ := id S
  have hl : lv_has ls 6 [(0, .ref o), (1, .int (iZ f)), (2, .int (iZ c1)), (3, .int (iZ n)), (4, .ref bo)] := hl
  refine lv_aload hx hb dL_at_0 (lv_at hl 4 rfl) ?_
  refine zi_const hx hb 0 dL_at_2 ?_
  refine lv_aload_n hx hb dL_at_3 rfl (lv_at hl 0 rfl) ?_
  refine lv_iload_n hx hb dL_at_4 rfl (lv_at hl 1 rfl) ?_
  refine lv_iload_n hx hb dL_at_5 rfl (lv_at hl 2 rfl) ?_
  refine lv_iload_n hx hb dL_at_6 rfl (lv_at hl 3 rfl) ?_
  refine hl_T (As := [.int (iZ f), .int (iZ c1), .int (iZ n)]) (rest := [.int (iZ 0), .ref bo]) S (tO_X0_at l hl0 D o q1 q2 cI tE tL F G k f c1 n hk hf0 hc10 hn0 h0) tb_349 tb_350 tb_351 tb_1 tb_352 hd_X0_at ⟨rfl, rfl, by decide, by decide⟩ hP hK hs ht rfl hl.1 rfl (Nat.le_of_ble_eq_true rfl) dL_at_7 ⟨by decide, by decide⟩ [] ⟨0, 12, 15, 21⟩ [⟨0, 12, 19, 13⟩] (htab.trans rfl) (fun z hz => absurd hz List.not_mem_nil) rfl (by decide) (hT _ tb_168) ht.2.1.2.2.word (fun q9 H hP hS => ?_)
  refine lv_astore (lv' := [(5, .ref q9), (0, .ref o), (1, .int (iZ f)), (2, .int (iZ c1)), (3, .int (iZ n)), (4, .ref bo)]) hx hb dL_at_15 hl (by decide) rfl (fun ls hl => ?_)
  refine zi_const hx hb 1 dL_at_17 ?_
  exact hl_iret hx hb hr hlk hP hS dL_at_18
set_option maxHeartbeats 4000000 in
set_option maxRecDepth 100000 in
theorem hl_at_tA (l : Launch) (hl0 : l.stackTraces = false) (D : va_G) (o q1 q2 : Nat) (cI cJ : ClassId) (tE tL : Nat) (F G : Nat → Int) (k : Int) (bo : Nat) (w : Nat → Int) (hdl : dL o q1 q2 bo) (f c1 n : Int) (hk : 0 ≤ k ∧ k ≤ 60) (hf : 0 ≤ f ∧ f < k) (hc10 : -2147483648 ≤ c1 ∧ c1 ≤ 2147483647) (hn0 : -2147483648 ≤ n ∧ n ≤ 2147483647) (h0 : ¬ ((0 ≤ c1 ∧ c1 < 8) ∧ (-4 ≤ n ∧ n ≤ 4))) : hl_M l yL_at cL_at 6 [(0, 12, 15, 21), (0, 12, 19, 13)] ({ frames := 8, cells := 1, slots := 6, locals := 126 }) [.ref o, .int (iZ f), .int (iZ c1), .int (iZ n), .ref bo] D o q1 q2 cI cJ tE tL F G k bo w 2 F G k w 1 6 := by
  refine hl_of (by decide) rfl (Nat.le_of_ble_eq_true rfl) ?_
  intro p e s m below meth c A hAe S hr hlk htab hP hK hs ht hnc hA hAn hS ls hl
  obtain ⟨hx, hb, hml, hown, hT⟩ := id S
  have hl : lv_has ls 6 [(0, .ref o), (1, .int (iZ f)), (2, .int (iZ c1)), (3, .int (iZ n)), (4, .ref bo)] := hl
  refine lv_aload hx hb dL_at_0 (lv_at hl 4 rfl) ?_
  refine zi_const hx hb 0 dL_at_2 ?_
  refine lv_aload_n hx hb dL_at_3 rfl (lv_at hl 0 rfl) ?_
  refine lv_iload_n hx hb dL_at_4 rfl (lv_at hl 1 rfl) ?_
  refine lv_iload_n hx hb dL_at_5 rfl (lv_at hl 2 rfl) ?_
  refine lv_iload_n hx hb dL_at_6 rfl (lv_at hl 3 rfl) ?_
  refine hl_T (As := [.int (iZ f), .int (iZ c1), .int (iZ n)]) (rest := [.int (iZ 0), .ref bo]) S (tA_X0_at l hl0 D o q1 q2 cI tE tL F G k f c1 n hk hf hc10 hn0 h0) tb_349 tb_350 tb_351 tb_1 tb_352 hd_X0_at ⟨rfl, rfl, by decide, by decide⟩ hP hK hs ht rfl hl.1 rfl (Nat.le_of_ble_eq_true rfl) dL_at_7 ⟨by decide, by decide⟩ [⟨0, 12, 15, 21⟩] ⟨0, 12, 19, 13⟩ [] (htab.trans rfl) (fun z hz => by rw [List.mem_singleton.mp hz]; exact Or.inr ⟨by decide, _, hT _ tb_168, hnc.2.2⟩) rfl (by decide) (hT _ tb_36) ht.2.1.1.word (fun q9 H hP hS => ?_)
  refine lv_astore (lv' := [(5, .ref q9), (0, .ref o), (1, .int (iZ f)), (2, .int (iZ c1)), (3, .int (iZ n)), (4, .ref bo)]) hx hb dL_at_19 hl (by decide) rfl (fun ls hl => ?_)
  refine zi_const hx hb 2 dL_at_21 ?_
  exact hl_iret hx hb hr hlk hP hS dL_at_22
set_option maxHeartbeats 4000000 in
set_option maxRecDepth 100000 in
theorem hl_terms_k (l : Launch) (D : va_G) (o q1 q2 : Nat) (cI cJ : ClassId) (tE tL : Nat) (F G : Nat → Int) (k : Int) (bo : Nat) (w : Nat → Int) (hdl : dL o q1 q2 bo) (f c1 : Int) (hF : ∀ j, 0 ≤ F j ∧ F j < 32003) (hf : 0 ≤ f ∧ f < k ∧ k ≤ 60) (hc1 : -1 ≤ c1 ∧ c1 < 8) : hl_M l yL_terms cL_terms 5 [(0, 10, 13, 21), (0, 10, 17, 13)] ({ frames := 5, cells := 0, slots := 0, locals := 113 }) [.ref o, .int (iZ f), .int (iZ c1), .ref bo] D o q1 q2 cI cJ tE tL F G k bo w 0 F G k (uZ w 0 (tmZ F f c1)) 0 0 := by
  refine hl_of (by decide) rfl (Nat.le_of_ble_eq_true rfl) ?_
  intro p e s m below meth c A hAe S hr hlk htab hP hK hs ht hnc hA hAn hS ls hl
  obtain ⟨hx, hb, hml, hown, hT⟩ := id S
  have hl : lv_has ls 5 [(0, .ref o), (1, .int (iZ f)), (2, .int (iZ c1)), (3, .ref bo)] := hl
  refine lv_aload_n hx hb dL_terms_0 rfl (lv_at hl 3 rfl) ?_
  refine zi_const hx hb 0 dL_terms_1 ?_
  refine lv_aload_n hx hb dL_terms_2 rfl (lv_at hl 0 rfl) ?_
  refine lv_iload_n hx hb dL_terms_3 rfl (lv_at hl 1 rfl) ?_
  refine lv_iload_n hx hb dL_terms_4 rfl (lv_at hl 2 rfl) ?_
  refine rd_V (As := [.int (iZ f), .int (iZ c1)]) (rest := [.int (iZ 0), .ref bo]) (st1 := [.int (iZ (tmZ F f c1)), .int (iZ 0), .ref bo]) S (k_X0_terms l D o q1 q2 cI tE tL F G k f c1 hF hf hc1) tb_356 tb_357 tb_358 tb_1 tb_359 hd_X0_terms ⟨rfl, rfl, by decide, by decide⟩ rX_bl (rX_w (lX_x hP) hK rfl hs hS) (va_recv hK (lX_x hP) (ci := 0) (q0 := 0) rfl rfl) rfl hl.1 rfl (Nat.le_of_ble_eq_true rfl) dL_terms_5 ⟨Nat.zero_le _, Nat.zero_le _⟩ rfl ?_
  have hrg := tmZ_rng F f c1
  refine zi_i2l hx hb dL_terms_8 (by omega) ?_
  refine hl_out hx hb hK hP hdl hA hS dL_terms_9 (fun H locs hP hS => ?_)
  refine lv_goto (tgt := 21) hx hb dL_terms_10 (by decide) ?_
  refine zi_const hx hb 0 dL_terms_21 ?_
  exact hl_iret hx hb hr hlk hP hS dL_terms_22
set_option maxHeartbeats 4000000 in
set_option maxRecDepth 100000 in
theorem hl_terms_tO (l : Launch) (hl0 : l.stackTraces = false) (D : va_G) (o q1 q2 : Nat) (cI cJ : ClassId) (tE tL : Nat) (F G : Nat → Int) (k : Int) (bo : Nat) (w : Nat → Int) (hdl : dL o q1 q2 bo) (f c1 : Int) (hk : 0 ≤ k ∧ k ≤ 60) (hf0 : -2147483648 ≤ f ∧ f ≤ 2147483647) (hc10 : -2147483648 ≤ c1 ∧ c1 ≤ 2147483647) (h0 : ¬ (0 ≤ f ∧ f < k)) : hl_M l yL_terms cL_terms 5 [(0, 10, 13, 21), (0, 10, 17, 13)] ({ frames := 8, cells := 1, slots := 6, locals := 125 }) [.ref o, .int (iZ f), .int (iZ c1), .ref bo] D o q1 q2 cI cJ tE tL F G k bo w 1 F G k w 1 6 := by
  refine hl_of (by decide) rfl (Nat.le_of_ble_eq_true rfl) ?_
  intro p e s m below meth c A hAe S hr hlk htab hP hK hs ht hnc hA hAn hS ls hl
  obtain ⟨hx, hb, hml, hown, hT⟩ := id S
  have hl : lv_has ls 5 [(0, .ref o), (1, .int (iZ f)), (2, .int (iZ c1)), (3, .ref bo)] := hl
  refine lv_aload_n hx hb dL_terms_0 rfl (lv_at hl 3 rfl) ?_
  refine zi_const hx hb 0 dL_terms_1 ?_
  refine lv_aload_n hx hb dL_terms_2 rfl (lv_at hl 0 rfl) ?_
  refine lv_iload_n hx hb dL_terms_3 rfl (lv_at hl 1 rfl) ?_
  refine lv_iload_n hx hb dL_terms_4 rfl (lv_at hl 2 rfl) ?_
  refine hl_T (As := [.int (iZ f), .int (iZ c1)]) (rest := [.int (iZ 0), .ref bo]) S (tO_X0_terms l hl0 D o q1 q2 cI tE tL F G k f c1 hk hf0 hc10 h0) tb_356 tb_357 tb_358 tb_1 tb_359 hd_X0_terms ⟨rfl, rfl, by decide, by decide⟩ hP hK hs ht rfl hl.1 rfl (Nat.le_of_ble_eq_true rfl) dL_terms_5 ⟨by decide, by decide⟩ [] ⟨0, 10, 13, 21⟩ [⟨0, 10, 17, 13⟩] (htab.trans rfl) (fun z hz => absurd hz List.not_mem_nil) rfl (by decide) (hT _ tb_168) ht.2.1.2.2.word (fun q9 H hP hS => ?_)
  refine lv_astore (lv' := [(4, .ref q9), (0, .ref o), (1, .int (iZ f)), (2, .int (iZ c1)), (3, .ref bo)]) hx hb dL_terms_13 hl (by decide) rfl (fun ls hl => ?_)
  refine zi_const hx hb 1 dL_terms_15 ?_
  exact hl_iret hx hb hr hlk hP hS dL_terms_16
set_option maxHeartbeats 4000000 in
set_option maxRecDepth 100000 in
theorem hl_terms_tA (l : Launch) (hl0 : l.stackTraces = false) (D : va_G) (o q1 q2 : Nat) (cI cJ : ClassId) (tE tL : Nat) (F G : Nat → Int) (k : Int) (bo : Nat) (w : Nat → Int) (hdl : dL o q1 q2 bo) (f c1 : Int) (hk : 0 ≤ k ∧ k ≤ 60) (hf : 0 ≤ f ∧ f < k) (hc10 : -2147483648 ≤ c1 ∧ c1 ≤ 2147483647) (h0 : ¬ (-1 ≤ c1 ∧ c1 < 8)) : hl_M l yL_terms cL_terms 5 [(0, 10, 13, 21), (0, 10, 17, 13)] ({ frames := 8, cells := 1, slots := 6, locals := 125 }) [.ref o, .int (iZ f), .int (iZ c1), .ref bo] D o q1 q2 cI cJ tE tL F G k bo w 2 F G k w 1 6 := by
  refine hl_of (by decide) rfl (Nat.le_of_ble_eq_true rfl) ?_
  intro p e s m below meth c A hAe S hr hlk htab hP hK hs ht hnc hA hAn hS ls hl
  obtain ⟨hx, hb, hml, hown, hT⟩ := id S
  have hl : lv_has ls 5 [(0, .ref o), (1, .int (iZ f)), (2, .int (iZ c1)), (3, .ref bo)] := hl
  refine lv_aload_n hx hb dL_terms_0 rfl (lv_at hl 3 rfl) ?_
  refine zi_const hx hb 0 dL_terms_1 ?_
  refine lv_aload_n hx hb dL_terms_2 rfl (lv_at hl 0 rfl) ?_
  refine lv_iload_n hx hb dL_terms_3 rfl (lv_at hl 1 rfl) ?_
  refine lv_iload_n hx hb dL_terms_4 rfl (lv_at hl 2 rfl) ?_
  refine hl_T (As := [.int (iZ f), .int (iZ c1)]) (rest := [.int (iZ 0), .ref bo]) S (tA_X0_terms l hl0 D o q1 q2 cI tE tL F G k f c1 hk hf hc10 h0) tb_356 tb_357 tb_358 tb_1 tb_359 hd_X0_terms ⟨rfl, rfl, by decide, by decide⟩ hP hK hs ht rfl hl.1 rfl (Nat.le_of_ble_eq_true rfl) dL_terms_5 ⟨by decide, by decide⟩ [⟨0, 10, 13, 21⟩] ⟨0, 10, 17, 13⟩ [] (htab.trans rfl) (fun z hz => by rw [List.mem_singleton.mp hz]; exact Or.inr ⟨by decide, _, hT _ tb_168, hnc.2.2⟩) rfl (by decide) (hT _ tb_36) ht.2.1.1.word (fun q9 H hP hS => ?_)
  refine lv_astore (lv' := [(4, .ref q9), (0, .ref o), (1, .int (iZ f)), (2, .int (iZ c1)), (3, .ref bo)]) hx hb dL_terms_17 hl (by decide) rfl (fun ls hl => ?_)
  refine zi_const hx hb 2 dL_terms_19 ?_
  exact hl_iret hx hb hr hlk hP hS dL_terms_20
set_option maxHeartbeats 4000000 in
set_option maxRecDepth 100000 in
theorem hl_degree_k (l : Launch) (D : va_G) (o q1 q2 : Nat) (cI cJ : ClassId) (tE tL : Nat) (F G : Nat → Int) (k : Int) (bo : Nat) (w : Nat → Int) (hdl : dL o q1 q2 bo) (f c1 : Int) (hF : ∀ j, 0 ≤ F j ∧ F j < 32003) (hf : 0 ≤ f ∧ f < k ∧ k ≤ 60) (hc1 : 0 ≤ c1 ∧ c1 < 8) : hl_M l yL_degree cL_degree 5 [(0, 10, 13, 21), (0, 10, 17, 13)] ({ frames := 4, cells := 0, slots := 0, locals := 88 }) [.ref o, .int (iZ f), .int (iZ c1), .ref bo] D o q1 q2 cI cJ tE tL F G k bo w 0 F G k (uZ w 0 (dgZ F f c1 9)) 0 0 := by
  refine hl_of (by decide) rfl (Nat.le_of_ble_eq_true rfl) ?_
  intro p e s m below meth c A hAe S hr hlk htab hP hK hs ht hnc hA hAn hS ls hl
  obtain ⟨hx, hb, hml, hown, hT⟩ := id S
  have hl : lv_has ls 5 [(0, .ref o), (1, .int (iZ f)), (2, .int (iZ c1)), (3, .ref bo)] := hl
  refine lv_aload_n hx hb dL_degree_0 rfl (lv_at hl 3 rfl) ?_
  refine zi_const hx hb 0 dL_degree_1 ?_
  refine lv_aload_n hx hb dL_degree_2 rfl (lv_at hl 0 rfl) ?_
  refine lv_iload_n hx hb dL_degree_3 rfl (lv_at hl 1 rfl) ?_
  refine lv_iload_n hx hb dL_degree_4 rfl (lv_at hl 2 rfl) ?_
  refine rd_V (As := [.int (iZ f), .int (iZ c1)]) (rest := [.int (iZ 0), .ref bo]) (st1 := [.int (iZ (dgZ F f c1 9)), .int (iZ 0), .ref bo]) S (k_X0_degree l D o q1 q2 cI tE tL F G k f c1 hF hf hc1) tb_363 tb_364 tb_365 tb_1 tb_366 hd_X0_degree ⟨rfl, rfl, by decide, by decide⟩ rX_bl (rX_w (lX_x hP) hK rfl hs hS) (va_recv hK (lX_x hP) (ci := 0) (q0 := 0) rfl rfl) rfl hl.1 rfl (Nat.le_of_ble_eq_true rfl) dL_degree_5 ⟨Nat.zero_le _, Nat.zero_le _⟩ rfl ?_
  have hrg := dgZ_rng F f c1 9
  refine zi_i2l hx hb dL_degree_8 (by omega) ?_
  refine hl_out hx hb hK hP hdl hA hS dL_degree_9 (fun H locs hP hS => ?_)
  refine lv_goto (tgt := 21) hx hb dL_degree_10 (by decide) ?_
  refine zi_const hx hb 0 dL_degree_21 ?_
  exact hl_iret hx hb hr hlk hP hS dL_degree_22
set_option maxHeartbeats 4000000 in
set_option maxRecDepth 100000 in
theorem hl_degree_tO (l : Launch) (hl0 : l.stackTraces = false) (D : va_G) (o q1 q2 : Nat) (cI cJ : ClassId) (tE tL : Nat) (F G : Nat → Int) (k : Int) (bo : Nat) (w : Nat → Int) (hdl : dL o q1 q2 bo) (f c1 : Int) (hk : 0 ≤ k ∧ k ≤ 60) (hf0 : -2147483648 ≤ f ∧ f ≤ 2147483647) (hc10 : -2147483648 ≤ c1 ∧ c1 ≤ 2147483647) (h0 : ¬ (0 ≤ f ∧ f < k)) : hl_M l yL_degree cL_degree 5 [(0, 10, 13, 21), (0, 10, 17, 13)] ({ frames := 8, cells := 1, slots := 6, locals := 126 }) [.ref o, .int (iZ f), .int (iZ c1), .ref bo] D o q1 q2 cI cJ tE tL F G k bo w 1 F G k w 1 6 := by
  refine hl_of (by decide) rfl (Nat.le_of_ble_eq_true rfl) ?_
  intro p e s m below meth c A hAe S hr hlk htab hP hK hs ht hnc hA hAn hS ls hl
  obtain ⟨hx, hb, hml, hown, hT⟩ := id S
  have hl : lv_has ls 5 [(0, .ref o), (1, .int (iZ f)), (2, .int (iZ c1)), (3, .ref bo)] := hl
  refine lv_aload_n hx hb dL_degree_0 rfl (lv_at hl 3 rfl) ?_
  refine zi_const hx hb 0 dL_degree_1 ?_
  refine lv_aload_n hx hb dL_degree_2 rfl (lv_at hl 0 rfl) ?_
  refine lv_iload_n hx hb dL_degree_3 rfl (lv_at hl 1 rfl) ?_
  refine lv_iload_n hx hb dL_degree_4 rfl (lv_at hl 2 rfl) ?_
  refine hl_T (As := [.int (iZ f), .int (iZ c1)]) (rest := [.int (iZ 0), .ref bo]) S (tO_X0_degree l hl0 D o q1 q2 cI tE tL F G k f c1 hk hf0 hc10 h0) tb_363 tb_364 tb_365 tb_1 tb_366 hd_X0_degree ⟨rfl, rfl, by decide, by decide⟩ hP hK hs ht rfl hl.1 rfl (Nat.le_of_ble_eq_true rfl) dL_degree_5 ⟨by decide, by decide⟩ [] ⟨0, 10, 13, 21⟩ [⟨0, 10, 17, 13⟩] (htab.trans rfl) (fun z hz => absurd hz List.not_mem_nil) rfl (by decide) (hT _ tb_168) ht.2.1.2.2.word (fun q9 H hP hS => ?_)
  refine lv_astore (lv' := [(4, .ref q9), (0, .ref o), (1, .int (iZ f)), (2, .int (iZ c1)), (3, .ref bo)]) hx hb dL_degree_13 hl (by decide) rfl (fun ls hl => ?_)
  refine zi_const hx hb 1 dL_degree_15 ?_
  exact hl_iret hx hb hr hlk hP hS dL_degree_16
set_option maxHeartbeats 4000000 in
set_option maxRecDepth 100000 in
theorem hl_degree_tA (l : Launch) (hl0 : l.stackTraces = false) (D : va_G) (o q1 q2 : Nat) (cI cJ : ClassId) (tE tL : Nat) (F G : Nat → Int) (k : Int) (bo : Nat) (w : Nat → Int) (hdl : dL o q1 q2 bo) (f c1 : Int) (hk : 0 ≤ k ∧ k ≤ 60) (hf : 0 ≤ f ∧ f < k) (hc10 : -2147483648 ≤ c1 ∧ c1 ≤ 2147483647) (h0 : ¬ (0 ≤ c1 ∧ c1 < 8)) : hl_M l yL_degree cL_degree 5 [(0, 10, 13, 21), (0, 10, 17, 13)] ({ frames := 8, cells := 1, slots := 6, locals := 126 }) [.ref o, .int (iZ f), .int (iZ c1), .ref bo] D o q1 q2 cI cJ tE tL F G k bo w 2 F G k w 1 6 := by
  refine hl_of (by decide) rfl (Nat.le_of_ble_eq_true rfl) ?_
  intro p e s m below meth c A hAe S hr hlk htab hP hK hs ht hnc hA hAn hS ls hl
  obtain ⟨hx, hb, hml, hown, hT⟩ := id S
  have hl : lv_has ls 5 [(0, .ref o), (1, .int (iZ f)), (2, .int (iZ c1)), (3, .ref bo)] := hl
  refine lv_aload_n hx hb dL_degree_0 rfl (lv_at hl 3 rfl) ?_
  refine zi_const hx hb 0 dL_degree_1 ?_
  refine lv_aload_n hx hb dL_degree_2 rfl (lv_at hl 0 rfl) ?_
  refine lv_iload_n hx hb dL_degree_3 rfl (lv_at hl 1 rfl) ?_
  refine lv_iload_n hx hb dL_degree_4 rfl (lv_at hl 2 rfl) ?_
  refine hl_T (As := [.int (iZ f), .int (iZ c1)]) (rest := [.int (iZ 0), .ref bo]) S (tA_X0_degree l hl0 D o q1 q2 cI tE tL F G k f c1 hk hf hc10 h0) tb_363 tb_364 tb_365 tb_1 tb_366 hd_X0_degree ⟨rfl, rfl, by decide, by decide⟩ hP hK hs ht rfl hl.1 rfl (Nat.le_of_ble_eq_true rfl) dL_degree_5 ⟨by decide, by decide⟩ [⟨0, 10, 13, 21⟩] ⟨0, 10, 17, 13⟩ [] (htab.trans rfl) (fun z hz => by rw [List.mem_singleton.mp hz]; exact Or.inr ⟨by decide, _, hT _ tb_168, hnc.2.2⟩) rfl (by decide) (hT _ tb_36) ht.2.1.1.word (fun q9 H hP hS => ?_)
  refine lv_astore (lv' := [(4, .ref q9), (0, .ref o), (1, .int (iZ f)), (2, .int (iZ c1)), (3, .ref bo)]) hx hb dL_degree_17 hl (by decide) rfl (fun ls hl => ?_)
  refine zi_const hx hb 2 dL_degree_19 ?_
  exact hl_iret hx hb hr hlk hP hS dL_degree_20
set_option maxHeartbeats 4000000 in
set_option maxRecDepth 100000 in
theorem hl_value_k (l : Launch) (D : va_G) (o q1 q2 : Nat) (cI cJ : ClassId) (tE tL : Nat) (F G : Nat → Int) (k : Int) (bo : Nat) (w : Nat → Int) (hdl : dL o q1 q2 bo) (f x1 l1 e1 : Int) (hF : ∀ j, 0 ≤ F j ∧ F j < 32003) (hf : 0 ≤ f ∧ f < k ∧ k ≤ 60) (hx1 : -9223372036854775808 ≤ x1 ∧ x1 ≤ 9223372036854775807) (hl1 : -9223372036854775808 ≤ l1 ∧ l1 ≤ 9223372036854775807) (he1 : -9223372036854775808 ≤ e1 ∧ e1 ≤ 9223372036854775807) : hl_M l yL_value cL_value 10 [(0, 15, 18, 21)] ({ frames := 6, cells := 0, slots := 0, locals := 148 }) [.ref o, .int (iZ f), .long (lZ x1), .long (lZ l1), .long (lZ e1), .ref bo] D o q1 q2 cI cJ tE tL F G k bo w 0 F G k (uZ w 0 (vlZ F f x1 l1 e1)) 0 0 := by
  refine hl_of (by decide) rfl (Nat.le_of_ble_eq_true rfl) ?_
  intro p e s m below meth c A hAe S hr hlk htab hP hK hs ht hnc hA hAn hS ls hl
  obtain ⟨hx, hb, hml, hown, hT⟩ := id S
  have hl : lv_has ls 10 [(0, .ref o), (1, .int (iZ f)), (2, .long (lZ x1)), (4, .long (lZ l1)), (6, .long (lZ e1)), (8, .ref bo)] := hl
  refine lv_aload hx hb dL_value_0 (lv_at hl 5 rfl) ?_
  refine zi_const hx hb 0 dL_value_2 ?_
  refine lv_aload_n hx hb dL_value_3 rfl (lv_at hl 0 rfl) ?_
  refine lv_iload_n hx hb dL_value_4 rfl (lv_at hl 1 rfl) ?_
  refine lv_lload_n hx hb dL_value_5 rfl (lv_at hl 2 rfl) ?_
  refine lv_lload hx hb dL_value_6 (lv_at hl 3 rfl) ?_
  refine lv_lload hx hb dL_value_8 (lv_at hl 4 rfl) ?_
  refine rd_V (As := [.int (iZ f), .long (lZ x1), .long (lZ l1), .long (lZ e1)]) (rest := [.int (iZ 0), .ref bo]) (st1 := [.int (iZ (vlZ F f x1 l1 e1)), .int (iZ 0), .ref bo]) S (k_X0_value l D o q1 q2 cI tE tL F G k f x1 l1 e1 hF hf hx1 hl1 he1) tb_370 tb_371 tb_372 tb_1 tb_373 hd_X0_value ⟨rfl, rfl, by decide, by decide⟩ rX_bl (rX_w (lX_x hP) hK rfl hs hS) (va_recv hK (lX_x hP) (ci := 0) (q0 := 0) rfl rfl) rfl hl.1 rfl (Nat.le_of_ble_eq_true rfl) dL_value_10 ⟨Nat.zero_le _, Nat.zero_le _⟩ rfl ?_
  have hrg := vlZ_rng F f x1 l1 e1
  refine zi_i2l hx hb dL_value_13 (by omega) ?_
  refine hl_out hx hb hK hP hdl hA hS dL_value_14 (fun H locs hP hS => ?_)
  refine lv_goto (tgt := 22) hx hb dL_value_15 (by decide) ?_
  refine zi_const hx hb 0 dL_value_22 ?_
  exact hl_iret hx hb hr hlk hP hS dL_value_23
set_option maxHeartbeats 4000000 in
set_option maxRecDepth 100000 in
theorem hl_value_tO (l : Launch) (hl0 : l.stackTraces = false) (D : va_G) (o q1 q2 : Nat) (cI cJ : ClassId) (tE tL : Nat) (F G : Nat → Int) (k : Int) (bo : Nat) (w : Nat → Int) (hdl : dL o q1 q2 bo) (f x1 l1 e1 : Int) (hk : 0 ≤ k ∧ k ≤ 60) (hf0 : -2147483648 ≤ f ∧ f ≤ 2147483647) (h0 : ¬ (0 ≤ f ∧ f < k)) : hl_M l yL_value cL_value 10 [(0, 15, 18, 21)] ({ frames := 8, cells := 1, slots := 6, locals := 148 }) [.ref o, .int (iZ f), .long (lZ x1), .long (lZ l1), .long (lZ e1), .ref bo] D o q1 q2 cI cJ tE tL F G k bo w 1 F G k w 1 6 := by
  refine hl_of (by decide) rfl (Nat.le_of_ble_eq_true rfl) ?_
  intro p e s m below meth c A hAe S hr hlk htab hP hK hs ht hnc hA hAn hS ls hl
  obtain ⟨hx, hb, hml, hown, hT⟩ := id S
  have hl : lv_has ls 10 [(0, .ref o), (1, .int (iZ f)), (2, .long (lZ x1)), (4, .long (lZ l1)), (6, .long (lZ e1)), (8, .ref bo)] := hl
  refine lv_aload hx hb dL_value_0 (lv_at hl 5 rfl) ?_
  refine zi_const hx hb 0 dL_value_2 ?_
  refine lv_aload_n hx hb dL_value_3 rfl (lv_at hl 0 rfl) ?_
  refine lv_iload_n hx hb dL_value_4 rfl (lv_at hl 1 rfl) ?_
  refine lv_lload_n hx hb dL_value_5 rfl (lv_at hl 2 rfl) ?_
  refine lv_lload hx hb dL_value_6 (lv_at hl 3 rfl) ?_
  refine lv_lload hx hb dL_value_8 (lv_at hl 4 rfl) ?_
  refine hl_T (As := [.int (iZ f), .long (lZ x1), .long (lZ l1), .long (lZ e1)]) (rest := [.int (iZ 0), .ref bo]) S (tO_X0_value l hl0 D o q1 q2 cI tE tL F G k f x1 l1 e1 hk hf0 h0) tb_370 tb_371 tb_372 tb_1 tb_373 hd_X0_value ⟨rfl, rfl, by decide, by decide⟩ hP hK hs ht rfl hl.1 rfl (Nat.le_of_ble_eq_true rfl) dL_value_10 ⟨by decide, by decide⟩ [] ⟨0, 15, 18, 21⟩ [] (htab.trans rfl) (fun z hz => absurd hz List.not_mem_nil) rfl (by decide) (hT _ tb_168) ht.2.1.2.2.word (fun q9 H hP hS => ?_)
  refine lv_astore (lv' := [(9, .ref q9), (0, .ref o), (1, .int (iZ f)), (2, .long (lZ x1)), (4, .long (lZ l1)), (6, .long (lZ e1)), (8, .ref bo)]) hx hb dL_value_18 hl (by decide) rfl (fun ls hl => ?_)
  refine zi_const hx hb 1 dL_value_20 ?_
  exact hl_iret hx hb hr hlk hP hS dL_value_21
set_option maxHeartbeats 4000000 in
set_option maxRecDepth 100000 in
theorem hl_same_k (l : Launch) (D : va_G) (o q1 q2 : Nat) (cI cJ : ClassId) (tE tL : Nat) (F G : Nat → Int) (k : Int) (bo : Nat) (w : Nat → Int) (hdl : dL o q1 q2 bo) (f g : Int) (hF : ∀ j, 0 ≤ F j ∧ F j < 32003) (hf : 0 ≤ f ∧ f < k ∧ k ≤ 60) (hg : 0 ≤ g ∧ g < k) : hl_M l yL_same cL_same 5 [(0, 17, 20, 21)] ({ frames := 4, cells := 0, slots := 0, locals := 89 }) [.ref o, .int (iZ f), .int (iZ g), .ref bo] D o q1 q2 cI cJ tE tL F G k bo w 0 F G k (uZ w 0 (smZ F f g)) 0 0 := by
  refine hl_of (by decide) rfl (Nat.le_of_ble_eq_true rfl) ?_
  intro p e s m below meth c A hAe S hr hlk htab hP hK hs ht hnc hA hAn hS ls hl
  obtain ⟨hx, hb, hml, hown, hT⟩ := id S
  have hl : lv_has ls 5 [(0, .ref o), (1, .int (iZ f)), (2, .int (iZ g)), (3, .ref bo)] := hl
  refine lv_aload_n hx hb dL_same_0 rfl (lv_at hl 3 rfl) ?_
  refine zi_const hx hb 0 dL_same_1 ?_
  refine lv_aload_n hx hb dL_same_2 rfl (lv_at hl 0 rfl) ?_
  refine lv_iload_n hx hb dL_same_3 rfl (lv_at hl 1 rfl) ?_
  refine lv_iload_n hx hb dL_same_4 rfl (lv_at hl 2 rfl) ?_
  refine rd_V (As := [.int (iZ f), .int (iZ g)]) (rest := [.int (iZ 0), .ref bo]) (st1 := [.int (iZ (smZ F f g)), .int (iZ 0), .ref bo]) S (k_X0_same l D o q1 q2 cI tE tL F G k f g hF hf hg) tb_392 tb_393 tb_394 tb_1 tb_395 hd_X0_same ⟨rfl, rfl, by decide, by decide⟩ rX_bl (rX_w (lX_x hP) hK rfl hs hS) (va_recv hK (lX_x hP) (ci := 0) (q0 := 0) rfl rfl) rfl hl.1 rfl (Nat.le_of_ble_eq_true rfl) dL_same_5 ⟨Nat.zero_le _, Nat.zero_le _⟩ rfl ?_
  have hso := smZ_or F f g
  refine zi_feq (tgt := 15) hx hb dL_same_8 (by decide) (by omega) (fun hc8 => ?_) (fun hc8 => ?_)
  · refine zl_const hx hb 0 dL_same_15 (by decide) ?_
    refine hl_out hx hb hK hP hdl hA hS dL_same_16 (fun H locs hP hS => ?_)
    refine lv_goto (tgt := 24) hx hb dL_same_17 (by decide) ?_
    refine zi_const hx hb 0 dL_same_24 ?_
    exact hl_iret hx hb hr hlk (lX_eq hP (by rw [show smZ F f g = 0 by omega])) hS dL_same_25
  · refine zl_const hx hb 1 dL_same_11 (by decide) ?_
    refine lv_goto (tgt := 16) hx hb dL_same_12 (by decide) ?_
    refine hl_out hx hb hK hP hdl hA hS dL_same_16 (fun H locs hP hS => ?_)
    refine lv_goto (tgt := 24) hx hb dL_same_17 (by decide) ?_
    refine zi_const hx hb 0 dL_same_24 ?_
    exact hl_iret hx hb hr hlk (lX_eq hP (by rw [show smZ F f g = 1 by omega])) hS dL_same_25
set_option maxHeartbeats 4000000 in
set_option maxRecDepth 100000 in
theorem hl_same_tO (l : Launch) (hl0 : l.stackTraces = false) (D : va_G) (o q1 q2 : Nat) (cI cJ : ClassId) (tE tL : Nat) (F G : Nat → Int) (k : Int) (bo : Nat) (w : Nat → Int) (hdl : dL o q1 q2 bo) (f g : Int) (hk : 0 ≤ k ∧ k ≤ 60) (hf0 : -2147483648 ≤ f ∧ f ≤ 2147483647) (hg0 : -2147483648 ≤ g ∧ g ≤ 2147483647) (h0 : ¬ ((0 ≤ f ∧ f < k) ∧ (0 ≤ g ∧ g < k))) : hl_M l yL_same cL_same 5 [(0, 17, 20, 21)] ({ frames := 8, cells := 1, slots := 6, locals := 127 }) [.ref o, .int (iZ f), .int (iZ g), .ref bo] D o q1 q2 cI cJ tE tL F G k bo w 1 F G k w 1 6 := by
  refine hl_of (by decide) rfl (Nat.le_of_ble_eq_true rfl) ?_
  intro p e s m below meth c A hAe S hr hlk htab hP hK hs ht hnc hA hAn hS ls hl
  obtain ⟨hx, hb, hml, hown, hT⟩ := id S
  have hl : lv_has ls 5 [(0, .ref o), (1, .int (iZ f)), (2, .int (iZ g)), (3, .ref bo)] := hl
  refine lv_aload_n hx hb dL_same_0 rfl (lv_at hl 3 rfl) ?_
  refine zi_const hx hb 0 dL_same_1 ?_
  refine lv_aload_n hx hb dL_same_2 rfl (lv_at hl 0 rfl) ?_
  refine lv_iload_n hx hb dL_same_3 rfl (lv_at hl 1 rfl) ?_
  refine lv_iload_n hx hb dL_same_4 rfl (lv_at hl 2 rfl) ?_
  refine hl_T (As := [.int (iZ f), .int (iZ g)]) (rest := [.int (iZ 0), .ref bo]) S (tO_X0_same l hl0 D o q1 q2 cI tE tL F G k f g hk hf0 hg0 h0) tb_392 tb_393 tb_394 tb_1 tb_395 hd_X0_same ⟨rfl, rfl, by decide, by decide⟩ hP hK hs ht rfl hl.1 rfl (Nat.le_of_ble_eq_true rfl) dL_same_5 ⟨by decide, by decide⟩ [] ⟨0, 17, 20, 21⟩ [] (htab.trans rfl) (fun z hz => absurd hz List.not_mem_nil) rfl (by decide) (hT _ tb_168) ht.2.1.2.2.word (fun q9 H hP hS => ?_)
  refine lv_astore (lv' := [(4, .ref q9), (0, .ref o), (1, .int (iZ f)), (2, .int (iZ g)), (3, .ref bo)]) hx hb dL_same_20 hl (by decide) rfl (fun ls hl => ?_)
  refine zi_const hx hb 1 dL_same_22 ?_
  exact hl_iret hx hb hr hlk hP hS dL_same_23
