/-! ===== a throw behind a change of the class's cells; the class's constructor ===== -/
def xwQ (D : va_G) (o q1 q2 : Nat) (cI : ClassId) (A : Nat → Prop) (E0 : String) (F G : Nat → Int) (k : Int) : String → State → State → Prop := fun E st t => E = E0 ∧ va_P D vwCl (wX o q1 q2 cI F G k) t.heap ∧ va_F A st t
def tw_M (l : Launch) (y : MethodName) (cc : ByteArray) (mL : Nat) (ret : Option FieldType) (rm : Room) (As : List Value) (D : va_G) (o q1 q2 : Nat) (cI : ClassId) (tE tL : Nat) (F G : Nat → Int) (k : Int) (E0 : String) (F' G' : Nat → Int) (k' : Int) : Prop :=
  ∀ sz : Nat, vx_Met l y (.code y cc mL ret :: TB) rm (va_Pc (.ref o :: As) (fun U => cB D o q1 q2 cI tE tL F G k sz U ∧ tX (aX o q1 q2 sz) U U.heap)) (fun _ _ _ _ => False) (xwQ D o q1 q2 cI (aX o q1 q2 sz) E0 F' G' k') 1 6 (aX o q1 q2 sz)
theorem tw_of {l : Launch} {y : MethodName} {cc : ByteArray} {mL : Nat} {ret : Option FieldType} {rm : Room} {As : List Value} {D : va_G} {o q1 q2 : Nat} {cI : ClassId} {tE tL : Nat} {F G F' G' : Nat → Int} {k k' : Int} {E0 : String} (hy : plainName y.cls = true) (ho : y.cls = RX0) (hL : (lg_sl (.ref o :: As)).length ≤ mL)
    (body : ∀ (p : Program) (e : Env) (s : State) (m : MethodId) (below : List Frame) (meth : Method) (c : Code) (A : Nat → Prop), A = aX o q1 q2 s.heap.size → CallFix p m c cc mL s (Value.ref o :: As).toArray TB RX0 → meth.sig.returnType = ret → meth.locks = false → (∀ x ∈ c.exceptionTable.toList, False) → va_P D vwCl (wX o q1 q2 cI F G k) s.heap → va_K D vwCl [(cI, .int)] s → sX tE tL A s s.heap → tX A s s.heap → (A o ∧ A q1 ∧ A q2) → (∀ q, s.heap.size ≤ q → A q) → va_S A s.heap s.heap [] → ∀ ls : Array Slot, lv_has ls mL (lv_args 0 (.ref o :: As)) →
      W p l e rm s m (Value.ref o :: As).toArray below meth c s.heap [] 0 0 (vx_MQ below (fun _ _ _ _ => False) (xwQ D o q1 q2 cI A E0 F' G' k') (Value.ref o :: As).toArray s 1 6 A) (F0 m 0 ls [])) : tw_M l y cc mL ret rm As D o q1 q2 cI tE tL F G k E0 F' G' k' := by
  intro sz
  refine vx_ofW (cc := cc) (maxL := mL) (ret := ret) hy rfl ?_
  intro p e s m args below meth c s₁ B hml hno hv
  obtain ⟨rfl, ⟨hsz, hP, hK, hs⟩, hTX⟩ := hv
  subst hsz
  have hts := atoms_spec (ws := .code y cc mL ret :: TB) B.pre
  have hl := lv_entry (.ref o :: As) (n := mL) hL
  rw [lg_entry_eq]
  exact body p e s m below meth c _ rfl ⟨B.exec, B.bytes, hml, ho ▸ findClass_of_methodNamed B.named, fun w hw => hts w (List.mem_cons_of_mem _ hw)⟩ B.returns B.notSynchronized hno hP hK hs hTX ⟨Or.inl (Or.inl rfl), Or.inl (Or.inr (Or.inl rfl)), Or.inl (Or.inr (Or.inr rfl))⟩ (fun q h => Or.inr h) va_S.rf _ hl
theorem xw_end {D : va_G} {o q1 q2 : Nat} {cI : ClassId} {A : Nat → Prop} {E0 : String} {F G : Nat → Int} {k : Int} {s t : State} {H : Heap} {locs : List Loc} (hP : va_P D vwCl (wX o q1 q2 cI F G k) H) (hS : va_S A s.heap H locs) (h2 : H.size ≤ t.heap.size) (h3 : ∀ q : Nat, q < H.size → t.heap[q]? = H[q]?) : xwQ D o q1 q2 cI A E0 F G k E0 s t :=
  ⟨rfl, hP.kept (fun i q hq => h3 q.1 ((hP i q hq).lt)), Nat.le_trans hS.1 h2, fun q h1 h4 => (h3 q (Nat.lt_of_lt_of_le h1 hS.1)).trans (hS.2.1 q h1 h4)⟩
set_option maxHeartbeats 4000000 in
set_option maxRecDepth 100000 in
theorem tw_X0_times (l : Launch) (hl0 : l.stackTraces = false) (D : va_G) (o q1 q2 : Nat) (cI : ClassId) (tE tL : Nat) (F G : Nat → Int) (k : Int) (f g : Int) (hd : dX o q1 q2) (hF : ∀ j, 0 ≤ F j ∧ F j < 32003) (hG : ∀ j, 0 ≤ G j ∧ G j < 32003) (hk : 0 ≤ k ∧ k < 60) (hf : 0 ≤ f ∧ f < k) (hg : 0 ≤ g ∧ g < k) (h0 : lmZ F f g = 0 ∧ lmZ F g f = 0) (h1 : ptZ (spZ F G f g 72) = 1) : tw_M l yX0_times cX0_times 3 (some .int) ({ frames := 7, cells := 1, slots := 6, locals := 117 }) [.int (iZ f), .int (iZ g)] D o q1 q2 cI tE tL F G k exIS F (spZ F G f g 72) k := by
  refine tw_of (by decide) rfl (Nat.le_of_ble_eq_true rfl) ?_
  intro p e s m below meth c A hAe S hr hlk hno hP hK hs hTX hA hAn hS ls hl
  obtain ⟨hx, hb, hml, hown, hT⟩ := id S
  obtain ⟨⟨hZE, hTE⟩, hZL, hTL⟩ := id hs
  have hl : lv_has ls 3 [(0, .ref o), (1, .int (iZ f)), (2, .int (iZ g))] := hl
  refine lv_aload_n hx hb dX0_times_0 rfl (lv_at hl 0 rfl) ?_
  refine lv_iload_n hx hb dX0_times_1 rfl (lv_at hl 1 rfl) ?_
  refine rd_V (As := [.int (iZ f)]) (rest := []) (st1 := []) S (k_X0_needElement l D o q1 q2 cI tE tL F G k f (by omega)) tb_173 tb_175 ts_X0_needElement tb_1 tb_176 hd_X0_needElement ⟨rfl, rfl, by decide, by decide⟩ rX_bl (rX_w hP hK rfl hs hS) (va_recv hK hP (ci := 0) (q0 := 0) rfl rfl) rfl hl.1 rfl (Nat.le_of_ble_eq_true rfl) dX0_times_2 ⟨Nat.zero_le _, Nat.zero_le _⟩ rfl ?_
  refine lv_aload_n hx hb dX0_times_5 rfl (lv_at hl 0 rfl) ?_
  refine lv_iload_n hx hb dX0_times_6 rfl (lv_at hl 2 rfl) ?_
  refine rd_V (As := [.int (iZ g)]) (rest := []) (st1 := []) S (k_X0_needElement l D o q1 q2 cI tE tL F G k g (by omega)) tb_173 tb_175 ts_X0_needElement tb_1 tb_176 hd_X0_needElement ⟨rfl, rfl, by decide, by decide⟩ rX_bl (rX_w hP hK rfl hs hS) (va_recv hK hP (ci := 0) (q0 := 0) rfl rfl) rfl hl.1 rfl (Nat.le_of_ble_eq_true rfl) dX0_times_7 ⟨Nat.zero_le _, Nat.zero_le _⟩ rfl ?_
  refine lv_aload_n hx hb dX0_times_10 rfl (lv_at hl 0 rfl) ?_
  refine rd_V (As := []) (rest := []) (st1 := []) S (k_X0_needRoom l D o q1 q2 cI tE tL F G k (by omega)) tb_123 tb_125 ts_X0_needRoom tb_1 tb_126 hd_X0_needRoom ⟨rfl, rfl, by decide, by decide⟩ rX_bl (rX_w hP hK rfl hs hS) (va_recv hK hP (ci := 0) (q0 := 0) rfl rfl) rfl hl.1 rfl (Nat.le_of_ble_eq_true rfl) dX0_times_11 ⟨Nat.zero_le _, Nat.zero_le _⟩ rfl ?_
  refine lv_aload_n hx hb dX0_times_14 rfl (lv_at hl 0 rfl) ?_
  refine lv_iload_n hx hb dX0_times_15 rfl (lv_at hl 1 rfl) ?_
  refine lv_iload_n hx hb dX0_times_16 rfl (lv_at hl 2 rfl) ?_
  refine rd_V (As := [.int (iZ f), .int (iZ g)]) (rest := []) (st1 := [.int (iZ (lmZ F f g))]) S (k_X0_logMeetsExponential l D o q1 q2 cI tE tL F G k f g hF (by omega) (by omega)) tb_215 tb_217 ts_X0_logMeetsExponential tb_1 tb_218 hd_X0_logMeetsExponential ⟨rfl, rfl, by decide, by decide⟩ rX_bl (rX_w hP hK rfl hs hS) (va_recv hK hP (ci := 0) (q0 := 0) rfl rfl) rfl hl.1 rfl (Nat.le_of_ble_eq_true rfl) dX0_times_17 ⟨Nat.zero_le _, Nat.zero_le _⟩ rfl ?_
  have hlm20 := lmZ_or F f g
  refine zi_fne (tgt := 32) hx hb dX0_times_20 (by decide) (by omega) (fun hc20 => ?_) (fun hc20 => ?_)
  · exfalso
    omega
  · refine lv_aload_n hx hb dX0_times_23 rfl (lv_at hl 0 rfl) ?_
    refine lv_iload_n hx hb dX0_times_24 rfl (lv_at hl 2 rfl) ?_
    refine lv_iload_n hx hb dX0_times_25 rfl (lv_at hl 1 rfl) ?_
    refine rd_V (As := [.int (iZ g), .int (iZ f)]) (rest := []) (st1 := [.int (iZ (lmZ F g f))]) S (k_X0_logMeetsExponential l D o q1 q2 cI tE tL F G k g f hF (by omega) (by omega)) tb_215 tb_217 ts_X0_logMeetsExponential tb_1 tb_218 hd_X0_logMeetsExponential ⟨rfl, rfl, by decide, by decide⟩ rX_bl (rX_w hP hK rfl hs hS) (va_recv hK hP (ci := 0) (q0 := 0) rfl rfl) rfl hl.1 rfl (Nat.le_of_ble_eq_true rfl) dX0_times_26 ⟨Nat.zero_le _, Nat.zero_le _⟩ rfl ?_
    have hlm29 := lmZ_or F g f
    refine zi_feq (tgt := 42) hx hb dX0_times_29 (by decide) (by omega) (fun hc29 => ?_) (fun hc29 => ?_)
    · refine lv_aload_n hx hb dX0_times_42 rfl (lv_at hl 0 rfl) ?_
      refine lv_iload_n hx hb dX0_times_43 rfl (lv_at hl 1 rfl) ?_
      refine lv_iload_n hx hb dX0_times_44 rfl (lv_at hl 2 rfl) ?_
      refine wr_V (As := [.int (iZ f), .int (iZ g)]) (rest := []) (st1 := []) (F' := F) (G' := spZ F G f g 72) (k' := k) S (k_X0_sumUpProduct l D o q1 q2 cI tE tL F G k f g hd hF hG (by omega) (by omega)) tb_224 tb_226 ts_X0_sumUpProduct tb_1 tb_227 hd_X0_sumUpProduct ⟨rfl, rfl, by decide, by decide⟩ hP hK rfl hs hS hA hAn rfl hl.1 rfl (Nat.le_of_ble_eq_true rfl) dX0_times_45 ⟨Nat.zero_le _, Nat.zero_le _⟩ rfl (fun H locs hP hS _ _ => ?_)
      obtain ⟨G1, eG1⟩ : ∃ Z : Nat → Int, Z = spZ F G f g 72 := ⟨_, rfl⟩
      rw [← eG1] at hP
      have hGG1 : ∀ j, 0 ≤ G1 j ∧ G1 j < 32003 := by
        rw [eG1]
        exact spZ_rng hG 72
      rw [← eG1] at h1
      refine lv_aload_n hx hb dX0_times_48 rfl (lv_at hl 0 rfl) ?_
      refine rd_V (As := []) (rest := []) (st1 := [.int (iZ (ptZ G1))]) S (k_X0_productIsTooFar l D o q1 q2 cI tE tL F G1 k hGG1) tb_259 tb_261 ts_X0_productIsTooFar tb_1 tb_262 hd_X0_productIsTooFar ⟨rfl, rfl, by decide, by decide⟩ rX_bl (rX_w hP hK rfl hs hS) (va_recv hK hP (ci := 0) (q0 := 0) rfl rfl) rfl hl.1 rfl (Nat.le_of_ble_eq_true rfl) dX0_times_49 ⟨Nat.zero_le _, Nat.zero_le _⟩ rfl ?_
      have hpt52 := ptZ_or G1
      refine zi_feq (tgt := 65) hx hb dX0_times_52 (by decide) (by omega) (fun hc52 => ?_) (fun hc52 => ?_)
      · exfalso
        omega
      · rw [← eG1]
        exact xt_go hx hb hl0 hown hT hTX (is := 70) (text := "the product is too far") hTX.2.1.2.1 (by decide +kernel) tb_127 tb_7 (by decide +kernel) aS_1 aS_2 aS_3 hS (by rw [hml]; exact hl.1) dX0_times_55 dX0_times_58 dX0_times_59 dX0_times_61 dX0_times_64 hno (by decide) (Nat.le_of_ble_eq_true rfl) (by decide) (by decide) hlk (fun t _ h2 h3 => xw_end hP hS h2 h3) hS.2.2
    · exfalso
      omega
set_option maxHeartbeats 4000000 in
set_option maxRecDepth 100000 in
theorem c_X0_init (l : Launch) (D : va_G) (o : Nat) (sz : Nat) : Met l yX0_init (.code yX0_init cX0_init 1 none :: TB) ({ frames := 1, cells := 2, slots := 4575, locals := 12 }) (va_Pc [.ref o] (fun U => U.heap.size = sz ∧ va_P D vwCl [(o, .inr (0, [.null, .null, .int 0]))] U.heap ∧ va_K D vwCl [] U ∧ va_D (fun _ => True) [(o, .inr (0, [.null, .null, .int 0]))])) (va_Qv (fun _ : Nat × Nat × ClassId => True) (fun u t => va_P D vwCl (wX o u.1 u.2.1 u.2.2 (fun _ => 0) (fun _ => 0) 0) t.heap ∧ va_K D vwCl [(u.2.2, .int)] t ∧ va_D (va_A [(o, .inr (0, [.null, .null, .int 0]))] sz) (wX o u.1 u.2.1 u.2.2 (fun _ => 0) (fun _ => 0) 0)) (va_A [(o, .inr (0, [.null, .null, .int 0]))] sz)) 2 4575 (va_A [(o, .inr (0, [.null, .null, .int 0]))] sz) := by
  refine Met.ofW (cc := cX0_init) (maxL := 1) (ret := none) (by decide) rfl ?_
  intro p e s m args below meth c s₁ B hml hv
  obtain ⟨rfl, hsz, hP, hK, hD0⟩ := hv
  have hx := B.exec
  have hb := B.bytes
  have hr := B.returns
  have hts := atoms_spec (ws := .code yX0_init cX0_init 1 none :: TB) B.pre
  have hT : ∀ w ∈ TB, w.before #[Value.ref o] s = true := fun w hw => hts w (List.mem_cons_of_mem _ hw)
  have hown : s.vm.findClass RX0 = some m.cls := findClass_of_methodNamed B.named
  have hlk := B.notSynchronized
  have hin : meth.name = "<init>" := (name_of_methodNamed B.named B.method).1
  subst hsz
  have hD := hD0.self (sz := s.heap.size)
  generalize hAe : va_A [(o, .inr (0, [.null, .null, .int 0]))] s.heap.size = A at hD ⊢
  have hA : ∀ q : Nat, s.heap.size ≤ q → A q := fun q h => by rw [← hAe]; exact Or.inr h
  have hS : va_S A s.heap s.heap [] := va_S.rf
  have hl := lv_entry ([.ref o]) (n := 1) (Nat.le_of_ble_eq_true rfl)
  rw [lg_entry_eq]
  generalize (lg_sl ([.ref o]) ++ List.replicate (1 - (lg_sl ([.ref o])).length) Slot.unset).toArray = ls at hl ⊢
  have hl : lv_has ls 1 [(0, .ref o)] := hl
  refine lv_aload_n hx hb dX0_init_0 rfl (lv_at hl 0 rfl) ?_
  refine W.objInit hx hb hown (hT _ tb_15) (hT _ tb_16) (hT _ tb_17) rfl (by rw [hml]; exact hl.1) rfl dX0_init_1 (Nat.le_of_ble_eq_true rfl) (Nat.le_of_ble_eq_true rfl) ?_
  refine W.eq (g2 := F0 m 4 ls []) rfl ?_
  refine lv_aload_n hx hb dX0_init_4 rfl (lv_at hl 0 rfl) ?_
  refine zi_si hx hb 4320 dX0_init_5 (by decide) ?_
  refine va_newa (atype := .int) (ty := .int) (N' := 4320) (a0 := (4320, .inl (fun _ => iZ 0))) hx hb (hT _ tb_28) rfl hK hP hD hS hA (fun _ => rfl) (by decide) (by decide) (by decide) (by decide) (by decide) dX0_init_8 (fun q1 cI H hK hP hD hS => ?_)
  refine va_putF (D := D) (ci := 0) (v := .ref q1) (ty := .array .int) (C := RX0) (T := TX0) (N := 3) hx hb hT inX0 tyX0 tyX0_ok nmX0 hown hK hP hD hS 0 rfl rfl 0 (by decide) (hT _ tb_18) (fun _ h9 => h9) rfl hin rfl (by decide +kernel) rfl rfl (Nat.le_of_ble_eq_true rfl) dX0_init_10 (fun H locs hP hD hS => ?_)
  have hP : va_P D vwCl [(o, .inr (0, [.ref q1, .null, .int 0])), (q1, .inl (cI, 4320, .inl (fun _ => iZ 0)))] H := hP
  have hD : va_D A [(o, .inr (0, [.ref q1, .null, .int 0])), (q1, .inl (cI, 4320, .inl (fun _ => iZ 0)))] := hD
  refine lv_aload_n hx hb dX0_init_13 rfl (lv_at hl 0 rfl) ?_
  refine zi_si hx hb 255 dX0_init_14 (by decide) ?_
  refine va_newa (atype := .int) (ty := .int) (N' := 255) (a0 := (255, .inl (fun _ => iZ 0))) hx hb (hT _ tb_28) rfl hK hP hD hS hA (fun _ => rfl) (by decide) (by decide) (by decide) (by decide) (by decide) dX0_init_17 (fun q2 cJ H hK hP hD hS => ?_)
  refine va_putF (D := D) (ci := 0) (v := .ref q2) (ty := .array .int) (C := RX0) (T := TX0) (N := 3) hx hb hT inX0 tyX0 tyX0_ok nmX0 hown hK hP hD hS 0 rfl rfl 1 (by decide) (hT _ tb_19) (fun _ h9 => h9) rfl hin rfl (by decide +kernel) rfl rfl (Nat.le_of_ble_eq_true rfl) dX0_init_19 (fun H locs hP hD hS => ?_)
  have hP : va_P D vwCl [(o, .inr (0, [.ref q1, .ref q2, .int 0])), (q1, .inl (cI, 4320, .inl (fun _ => iZ 0))), (q2, .inl (cJ, 255, .inl (fun _ => iZ 0)))] H := hP
  have hD : va_D A [(o, .inr (0, [.ref q1, .ref q2, .int 0])), (q1, .inl (cI, 4320, .inl (fun _ => iZ 0))), (q2, .inl (cJ, 255, .inl (fun _ => iZ 0)))] := hD
  have hcc : cI = cJ := by
    have h1 : s.vm.findClass ("[" ++ FieldType.int.toString) = some cI := (hK.2 0 _ rfl).2
    have h2 : s.vm.findClass ("[" ++ FieldType.int.toString) = some cJ := (hK.2 1 _ rfl).2
    exact Option.some.inj (h1.symm.trans h2)
  subst hcc
  refine lv_aload_n hx hb dX0_init_22 rfl (lv_at hl 0 rfl) ?_
  refine zi_const hx hb 0 dX0_init_23 ?_
  refine va_put (D := D) (ci := 0) (v := .int (iZ 0)) (ty := .int) (C := RX0) (T := TX0) (N := 3) hx hb hT inX0 tyX0 tyX0_ok nmX0 hown hK hP hD hS 0 rfl rfl 2 (by decide) (hT _ tb_20) (fun _ h9 => h9) rfl (by decide +kernel) rfl rfl (Nat.le_of_ble_eq_true rfl) dX0_init_24 (fun H locs hP hD hS => ?_)
  have hP : va_P D vwCl (wX o q1 q2 cI (fun _ => 0) (fun _ => 0) 0) H := hP
  have hD : va_D A (wX o q1 q2 cI (fun _ => 0) (fun _ => 0) 0) := hD
  have hK9 := hK.sub (tys' := [(cI, .int)]) [0] rfl
  refine W.widen (k := 2) (n := 4575) (by decide) (by decide) ?_
  exact W.vret hx hb hr (fun t ht hW => ⟨⟨(q1, q2, cI), rfl, trivial, by rw [ht]; exact hP, va_K.moved hW.alike hK9, hD⟩, hS.F ht⟩) hS.2.2 dX0_init_27 hlk
