/-! ===== the law's helpers: the class's cells and the law's out ===== -/
abbrev oX (bo : Nat) (cJ : ClassId) (w : Nat → Int) : Nat × va_E := (bo, .inl (cJ, 1, .inr (.inl (fun j => lZ (w j)))))
abbrev lX (o q1 q2 : Nat) (cI cJ : ClassId) (F G : Nat → Int) (k : Int) (bo : Nat) (w : Nat → Int) : va_W := wX o q1 q2 cI F G k ++ [oX bo cJ w]
def aL (o q1 q2 bo sz : Nat) : Nat → Prop := fun q => (q = o ∨ q = q1 ∨ q = q2 ∨ q = bo) ∨ sz ≤ q
def dL (o q1 q2 bo : Nat) : Prop := dX o q1 q2 ∧ o ≠ bo ∧ q1 ≠ bo ∧ q2 ≠ bo
def nC (U : State) : Prop := va_Nc exIS exIA U ∧ va_Nc exIS exIO U ∧ va_Nc exIA exIO U
theorem nC.moved {u U : State} (hvm : u.vm.Alike U.vm) (h : nC u) : nC U := ⟨h.1.moved hvm, h.2.1.moved hvm, h.2.2.moved hvm⟩
section LX
variable {D : va_G} {o q1 q2 : Nat} {cI cJ : ClassId} {F G F' G' : Nat → Int} {k k' : Int} {bo : Nat} {w w' : Nat → Int} {A : Nat → Prop} {H H1 : Heap}
theorem lX_x (hP : va_P D vwCl (lX o q1 q2 cI cJ F G k bo w) H) : va_P D vwCl (wX o q1 q2 cI F G k) H := hP.sub [0, 1, 2] rfl
theorem lX_D (hd : dL o q1 q2 bo) (hA : A o ∧ A q1 ∧ A q2 ∧ A bo) : va_D A (lX o q1 q2 cI cJ F G k bo w) := by
  refine va_D.app (dX_D hd.1 ⟨hA.1, hA.2.1, hA.2.2.1⟩) ⟨fun i j p q hp hq _ => ?_, fun i q hq => ?_⟩ (fun i j p q hp hq => ?_)
  · have h1 : i < 1 := (List.getElem?_eq_some_iff.mp hp).1
    have h2 : j < 1 := (List.getElem?_eq_some_iff.mp hq).1
    omega
  · have h1 : i < 1 := (List.getElem?_eq_some_iff.mp hq).1
    rw [show i = 0 by omega] at hq
    cases hq
    exact hA.2.2.2
  · have h1 : j < 1 := (List.getElem?_eq_some_iff.mp hq).1
    rw [show j = 0 by omega] at hq
    cases hq
    match i, hp with
    | 0, hp => cases hp; exact hd.2.1
    | 1, hp => cases hp; exact hd.2.2.1
    | 2, hp => cases hp; exact hd.2.2.2
    | i + 3, hp => simp at hp
theorem lX_join (hP1 : va_P D vwCl (wX o q1 q2 cI F' G' k') H1) (hP : va_P D vwCl (lX o q1 q2 cI cJ F G k bo w) H) (hkp : ∀ q : Nat, q < H.size → ¬ aX o q1 q2 H.size q → H1[q]? = H[q]?) (hd : dL o q1 q2 bo) : va_P D vwCl (lX o q1 q2 cI cJ F' G' k' bo w) H1 := by
  have h3 : va_P D vwCl [oX bo cJ w] H := hP.sub [3] rfl
  have hlt : bo < H.size := (h3 0 _ rfl).lt
  refine va_P.app hP1 (h3.kept (fun i q hq => ?_))
  have h1 : i < 1 := (List.getElem?_eq_some_iff.mp hq).1
  rw [show i = 0 by omega] at hq
  cases hq
  refine hkp _ hlt (fun h => ?_)
  rcases h with (h | h | h) | h
  · exact hd.2.1 h.symm
  · exact hd.2.2.1 h.symm
  · exact hd.2.2.2 h.symm
  · exact Nat.not_le.mpr hlt h
theorem lX_eq (hP : va_P D vwCl (lX o q1 q2 cI cJ F G k bo w) H) (hw : w = w') : va_P D vwCl (lX o q1 q2 cI cJ F G k bo w') H := hw ▸ hP
end LX
def hB (D : va_G) (o q1 q2 : Nat) (cI cJ : ClassId) (tE tL : Nat) (F G : Nat → Int) (k : Int) (bo : Nat) (w : Nat → Int) (sz : Nat) : State → Prop := fun U => U.heap.size = sz ∧ va_P D vwCl (lX o q1 q2 cI cJ F G k bo w) U.heap ∧ va_K D vwCl (mT cI cJ) U ∧ sX tE tL (aL o q1 q2 bo sz) U U.heap ∧ tX (aL o q1 q2 bo sz) U U.heap ∧ nC U
theorem hB_bl {D : va_G} {o q1 q2 : Nat} {cI cJ : ClassId} {tE tL : Nat} {F G : Nat → Int} {k : Int} {bo : Nat} {w : Nat → Int} {sz : Nat} : bl_B (hB D o q1 q2 cI cJ tE tL F G k bo w sz) := fun U g mk a h => ⟨h.1, h.2.1, va_K.moved (u := U) (U := U.calling g mk a) (Vm.Alike.refl U.vm) h.2.2.1, sX.moved (u := U) (U := U.calling g mk a) (Vm.Alike.refl U.vm) h.2.2.2.1, tX.call g mk a h.2.2.2.2.1, nC.moved (u := U) (U := U.calling g mk a) (Vm.Alike.refl U.vm) h.2.2.2.2.2⟩
def hQ (D : va_G) (o q1 q2 : Nat) (cI cJ : ClassId) (A : Nat → Prop) (r : Int) (F G : Nat → Int) (k : Int) (bo : Nat) (w : Nat → Int) : Array Value → State → Outcome → State → Prop := fun _ st oc t => oc = .returned (some (.int (iZ r))) ∧ va_P D vwCl (lX o q1 q2 cI cJ F G k bo w) t.heap ∧ va_F A st t
/-- a helper of the law: it answers r, the class's cells and out change -/
def hl_M (l : Launch) (y : MethodName) (cc : ByteArray) (mL : Nat) (hh : List (Nat × Nat × Nat × Nat)) (rm : Room) (As : List Value) (D : va_G) (o q1 q2 : Nat) (cI cJ : ClassId) (tE tL : Nat) (F G : Nat → Int) (k : Int) (bo : Nat) (w : Nat → Int) (r : Int) (F' G' : Nat → Int) (k' : Int) (w' : Nat → Int) (mc ms : Nat) : Prop :=
  ∀ sz : Nat, Met l y (.codeWith y cc mL (some .int) hh :: TB) rm (va_Pc As (hB D o q1 q2 cI cJ tE tL F G k bo w sz)) (hQ D o q1 q2 cI cJ (aL o q1 q2 bo sz) r F' G' k' bo w') mc ms (aL o q1 q2 bo sz)
theorem hl_of {l : Launch} {y : MethodName} {cc : ByteArray} {mL : Nat} {hh : List (Nat × Nat × Nat × Nat)} {rm : Room} {As : List Value} {D : va_G} {o q1 q2 : Nat} {cI cJ : ClassId} {tE tL : Nat} {F G F' G' : Nat → Int} {k k' : Int} {bo : Nat} {w w' : Nat → Int} {r : Int} {mc ms : Nat} (hy : plainName y.cls = true) (ho : y.cls = RL) (hL : (lg_sl As).length ≤ mL)
    (body : ∀ (p : Program) (e : Env) (s : State) (m : MethodId) (below : List Frame) (meth : Method) (c : Code) (A : Nat → Prop), A = aL o q1 q2 bo s.heap.size → CallFix p m c cc mL s As.toArray TB RL → meth.sig.returnType = some .int → meth.locks = false → c.exceptionTable.toList = tableOf hh → va_P D vwCl (lX o q1 q2 cI cJ F G k bo w) s.heap → va_K D vwCl (mT cI cJ) s → sX tE tL A s s.heap → tX A s s.heap → nC s → (A o ∧ A q1 ∧ A q2 ∧ A bo) → (∀ q, s.heap.size ≤ q → A q) → va_S A s.heap s.heap [] → ∀ ls : Array Slot, lv_has ls mL (lv_args 0 As) →
      W p l e rm s m As.toArray below meth c s.heap [] 0 0 (MQ below (hQ D o q1 q2 cI cJ A r F' G' k' bo w') As.toArray s mc ms A) (F0 m 0 ls [])) : hl_M l y cc mL hh rm As D o q1 q2 cI cJ tE tL F G k bo w r F' G' k' w' mc ms := by
  intro sz
  refine va_MetW (cc := cc) (maxL := mL) (ret := some .int) (hh := hh) hy rfl ?_
  intro p e s m args below meth c s₁ B hml hv
  obtain ⟨rfl, hsz, hP, hK, hs, ht, hn⟩ := hv
  subst hsz
  have hts := atoms_spec (ws := .codeWith y cc mL (some .int) hh :: TB) B.pre
  have hl := lv_entry As (n := mL) hL
  rw [lg_entry_eq]
  exact body p e s m below meth c _ rfl ⟨B.exec, B.bytes, hml, ho ▸ findClass_of_methodNamed B.named, fun w hw => hts w (List.mem_cons_of_mem _ hw)⟩ B.returns B.notSynchronized (vx_table (x := y) B (hts _ List.mem_cons_self)) hP hK hs ht hn ⟨Or.inl (Or.inl rfl), Or.inl (Or.inr (Or.inl rfl)), Or.inl (Or.inr (Or.inr (Or.inl rfl))), Or.inl (Or.inr (Or.inr (Or.inr rfl)))⟩ (fun q h => Or.inr h) va_S.rf _ hl
section HL
variable {p : Program} {l : Launch} {e : Env} {R : Room} {s : State} {m : MethodId} {args : Array Value} {below : List Frame} {meth : Method} {c : Code} {H : Heap} {locs : List Loc} {cells slots : Nat} {Q : State → Prop}
variable {pc : Nat} {ls : Array Slot} {rest st0 : List Value} {D : va_G} {o q1 q2 : Nat} {cI cJ : ClassId} {tE tL : Nat} {F G F' G' : Nat → Int} {k k' : Int} {bo : Nat} {w w' : Nat → Int} {A : Nat → Prop} {H0 : Heap}
variable {y : MethodName} {cc cy : ByteArray} {nL mL i n : Nat} {ret : Option FieldType} {rm : Room} {own : String} {As : List Value} {E0 : String} {r : Int}
theorem hl_iret (hx : p.tables.exec = Jvm.exec) (hb : c.code = cc) (hr : meth.sig.returnType = some .int) (hlk : meth.locks = false) (hP : va_P D vwCl (lX o q1 q2 cI cJ F G k bo w) H) (hS : va_S A s.heap H locs) (hdg : decode cc pc = .ok (.ireturn, 1)) : W p l e R s m args below meth c H locs cells slots (MQ below (hQ D o q1 q2 cI cJ A r F G k bo w) args s cells slots A) (F0 m pc ls [.int (iZ r)]) :=
  W.iret hx hb hr (fun t ht _ => ⟨rfl, by rw [ht]; exact hP, hS.F ht⟩) hS.2.2 hdg hlk
/-- out[0] = v -/
theorem hl_out (hx : p.tables.exec = Jvm.exec) (hb : c.code = cc) (hK : va_K D vwCl (mT cI cJ) s) (hP : va_P D vwCl (lX o q1 q2 cI cJ F G k bo w) H) (hd : dL o q1 q2 bo) (hA : A o ∧ A q1 ∧ A q2 ∧ A bo) (hS : va_S A H0 H locs) {x : Int} (hdg : decode cc pc = .ok (.lastore, 1))
    (kk : ∀ (H1 : Heap) (locs1 : List Loc), va_P D vwCl (lX o q1 q2 cI cJ F G k bo (uZ w 0 x)) H1 → va_S A H0 H1 locs1 → W p l e R s m args below meth c H1 locs1 cells slots Q (F0 m (pc + 1) ls rest)) : W p l e R s m args below meth c H locs cells slots Q (F0 m pc ls (.long (lZ x) :: .int (iZ 0) :: .ref bo :: rest)) := by
  refine va_last hx hb hK hP (lX_D hd hA) hS 3 1 rfl rfl (iZ_in (by omega) (by omega) (by omega)) hdg (fun H1 locs1 hP hD hS => kk H1 locs1 ?_ hS)
  rw [lZ_upd (by omega)] at hP
  exact hP
theorem hl_gx {Qa : State → Outcome → State → Prop} (hr : vx_Run p l e R s m args below meth c s.heap [] 0 0 1 6 (F0 m pc ls st0) rest Qa (x0Q E0) nA) (hQ : ∀ st o t, ¬ Qa st o t)
    (kx : ∀ (ce : Cell) (q9 : Addr) (H1 : Heap), s.heap.size ≤ H1.size → (∀ q : Nat, q < s.heap.size → H1[q]? = s.heap[q]?) → H1[q9]? = some ce → ce.vm = .none → s.vm.findClass E0 = some ce.cls → vx_W p l e R s m args below meth c H1 [] 1 6 Q (F0 m pc ls rest) q9) : W p l e R s m args below meth c s.heap [] 0 0 Q (F0 m pc ls st0) := by
  intro T hT X
  rcases hr T hT X with ⟨v, st₀, t, T', L, h0, X', hL, e1, e2, hq, st⟩ | ⟨q, st₀, t, T', L, E, ce, h0, X', hL, e1, e2, hX, hce, hcv, hcl, st⟩
  · exact (hQ _ _ _ hq).elim
  · have hL0 : L = [] := by
      cases L with
      | nil => rfl
      | cons z _ => exact (hL z List.mem_cons_self).elim
    subst hL0
    obtain ⟨hE, hz, hk⟩ := hX
    subst hE
    rw [h0] at hz hk
    obtain ⟨t2, a1, b1⟩ := kx ce q T'.heap (by rw [e1]; exact hz) (fun q9 h1 => by rw [e1]; exact hk q9 h1 (fun z => z)) (by rw [e1]; exact hce) hcv hcl T' rfl X'
    exact ⟨t2, st.trans a1, b1⟩
theorem hl_gw {Qa : State → Outcome → State → Prop} {A1 : Nat → Prop} (hr : vx_Run p l e R s m args below meth c s.heap [] 0 0 1 6 (F0 m pc ls st0) rest Qa (xwQ D o q1 q2 cI A1 E0 F' G' k') A1) (hQ : ∀ st o t, ¬ Qa st o t)
    (kx : ∀ (ce : Cell) (q9 : Addr) (H1 : Heap) (locs1 : List Loc), va_P D vwCl (wX o q1 q2 cI F' G' k') H1 → s.heap.size ≤ H1.size → (∀ q : Nat, q < s.heap.size → ¬ A1 q → H1[q]? = s.heap[q]?) → (∀ z ∈ locs1, A1 z.base) → H1[q9]? = some ce → ce.vm = .none → s.vm.findClass E0 = some ce.cls → vx_W p l e R s m args below meth c H1 locs1 1 6 Q (F0 m pc ls rest) q9) : W p l e R s m args below meth c s.heap [] 0 0 Q (F0 m pc ls st0) := by
  intro T hT X
  rcases hr T hT X with ⟨v, st₀, t, T', L, h0, X', hL, e1, e2, hq, st⟩ | ⟨q, st₀, t, T', L, E, ce, h0, X', hL, e1, e2, hX, hce, hcv, hcl, st⟩
  · exact (hQ _ _ _ hq).elim
  · obtain ⟨hE, hp, hz, hk⟩ := hX
    subst hE
    rw [h0] at hz hk
    obtain ⟨t2, a1, b1⟩ := kx ce q T'.heap L (by rw [e1]; exact hp) (by rw [e1]; exact hz) (fun q9 h1 h2 => by rw [e1]; exact hk q9 h1 h2) hL (by rw [e1]; exact hce) hcv hcl T' rfl X'
    exact ⟨t2, st.trans a1, b1⟩
/-- a method of the class throws, nothing has changed; caught here -/
theorem hl_T (S : CallFix p m c cc nL s args TB own) (hM : th_M l y cy mL ret rm (.ref o :: As) (tXB D o q1 q2 cI tE tL F G k) E0) (h1 : Cond.methodLink own i y ∈ TB) (h2 : Cond.instanceMethod y ∈ TB) (h3 : Cond.selects RX0 y y ∈ TB) (h4 : Cond.initialized RX0 ∈ TB) (hc : Cond.code y cy mL ret ∈ TB)
    (hd : y.cls = RX0 ∧ y.cls ≠ "java/lang/invoke/MethodHandle" ∧ y.cls ≠ "java/lang/invoke/VarHandle" ∧ (parseMethodDescriptor y.desc).map (fun d => d.parameters.length) = some n) (hrm : rm.cells = 1 ∧ rm.slots = 6 ∧ rm.frames + 1 ≤ R.frames ∧ 8 + (mL + 11) + rm.locals ≤ R.locals)
    (hP : va_P D vwCl (lX o q1 q2 cI cJ F G k bo w) s.heap) (hK : va_K D vwCl (mT cI cJ) s) (hs : sX tE tL A s s.heap) (ht : tX A s s.heap)
    (hn : As.length = n) (hnL : ls.size = nL) (hst : st0 = As.reverse ++ .ref o :: rest) (hw : (rest.map fun v => v.category).sum ≤ 8) (hdg : decode cc pc = .ok (.invokevirtual i, 3)) (hcs : 0 + 1 ≤ R.cells ∧ 0 + 6 ≤ R.slots) {name : String}
    (pre : List ExceptionTableEntry) (x : ExceptionTableEntry) (suf : List ExceptionTableEntry) (hsplit : c.exceptionTable.toList = pre ++ x :: suf) (hpass : ∀ z ∈ pre, covers z pc = false ∨ (z.catchType ≠ 0 ∧ ∃ nm : String, (Cond.classLink own z.catchType nm).before args s = true ∧ va_Nc E0 nm s)) (hcov : covers x pc = true) (h0 : x.catchType ≠ 0) (hlink : (Cond.classLink own x.catchType name).before args s = true) (hcast : (Cond.castable E0 name).before args s = true)
    (kk : ∀ (q9 : Addr) (H1 : Heap), va_P D vwCl (lX o q1 q2 cI cJ F G k bo w) H1 → va_S A s.heap H1 [] → W p l e R s m args below meth c H1 [] 1 6 Q (F0 m x.handlerPc ls [.ref q9])) : W p l e R s m args below meth c s.heap [] 0 0 Q (F0 m pc ls st0) := by
  have hPx := lX_x hP
  refine hl_gx (vx_runV S hM (cwV n S.2.2.2.2 (gd_V h1 h2 h3 h4 hc) rfl hrm.1 hrm.2.1 hd hrm.2.2) ⟨fun a U g mk q => ⟨q.1, tXB_bl U g mk a q.2⟩, va_recv hK hPx (ci := 0) (q0 := 0) rfl rfl, fun U hU hW => ⟨rfl, rX_w hPx hK rfl hs va_S.rf U hU hW, by rw [hU]; exact tX.warm hW (ht.narrow (fun q h => h.elim))⟩⟩ rfl hn hnL hst (lv_room (m := m) (pc := pc) (ls := ls) (rest := st0) hw) hdg hcs) (fun _ _ _ h => h) (fun ce q9 H1 hz hkp hce hcv hcl => ?_)
  exact vx_catch S.2.2.2.1 pre x suf hsplit hpass hcov h0 hlink hcast hce hcv hcl (kk q9 H1 (hP.kept (fun j q hq => hkp q.1 ((hP j q hq).lt))) ⟨hz, fun q h9 _ => hkp q h9, fun _ h => nomatch h⟩)
/-- the same behind a change of the class's cells -/
theorem hl_Tw (S : CallFix p m c cc nL s args TB own) (hM : tw_M l y cy mL ret rm As D o q1 q2 cI tE tL F G k E0 F' G' k') (h1 : Cond.methodLink own i y ∈ TB) (h2 : Cond.instanceMethod y ∈ TB) (h3 : Cond.selects RX0 y y ∈ TB) (h4 : Cond.initialized RX0 ∈ TB) (hc : Cond.code y cy mL ret ∈ TB)
    (hd : y.cls = RX0 ∧ y.cls ≠ "java/lang/invoke/MethodHandle" ∧ y.cls ≠ "java/lang/invoke/VarHandle" ∧ (parseMethodDescriptor y.desc).map (fun d => d.parameters.length) = some n) (hrm : rm.cells = 1 ∧ rm.slots = 6 ∧ rm.frames + 1 ≤ R.frames ∧ 8 + (mL + 11) + rm.locals ≤ R.locals)
    (hP : va_P D vwCl (lX o q1 q2 cI cJ F G k bo w) s.heap) (hK : va_K D vwCl (mT cI cJ) s) (hs : sX tE tL A s s.heap) (ht : tX A s s.heap) (hA : A o ∧ A q1 ∧ A q2 ∧ A bo) (hAn : ∀ q, s.heap.size ≤ q → A q) (hdl : dL o q1 q2 bo)
    (hn : As.length = n) (hnL : ls.size = nL) (hst : st0 = As.reverse ++ .ref o :: rest) (hw : (rest.map fun v => v.category).sum ≤ 8) (hdg : decode cc pc = .ok (.invokevirtual i, 3)) (hcs : 0 + 1 ≤ R.cells ∧ 0 + 6 ≤ R.slots) {name : String}
    (pre : List ExceptionTableEntry) (x : ExceptionTableEntry) (suf : List ExceptionTableEntry) (hsplit : c.exceptionTable.toList = pre ++ x :: suf) (hpass : ∀ z ∈ pre, covers z pc = false ∨ (z.catchType ≠ 0 ∧ ∃ nm : String, (Cond.classLink own z.catchType nm).before args s = true ∧ va_Nc E0 nm s)) (hcov : covers x pc = true) (h0 : x.catchType ≠ 0) (hlink : (Cond.classLink own x.catchType name).before args s = true) (hcast : (Cond.castable E0 name).before args s = true)
    (kk : ∀ (q9 : Addr) (H1 : Heap) (locs1 : List Loc), va_P D vwCl (lX o q1 q2 cI cJ F' G' k' bo w) H1 → va_S A s.heap H1 locs1 → W p l e R s m args below meth c H1 locs1 1 6 Q (F0 m x.handlerPc ls [.ref q9])) : W p l e R s m args below meth c s.heap [] 0 0 Q (F0 m pc ls st0) := by
  have hPx := lX_x hP
  have hsub : ∀ q, aX o q1 q2 s.heap.size q → A q := fun q hq => by
    rcases hq with (h | h | h) | h
    · rw [h]; exact hA.1
    · rw [h]; exact hA.2.1
    · rw [h]; exact hA.2.2.1
    · exact hAn q h
  have hK1 : va_K D vwCl [(cI, .int)] s := hK.sub [0] rfl
  refine hl_gw (vx_runV S (hM s.heap.size) (cwV n S.2.2.2.2 (gd_V h1 h2 h3 h4 hc) rfl hrm.1 hrm.2.1 hd hrm.2.2) ⟨fun a U g mk q => ⟨q.1, cB_bl U g mk a q.2.1, tX.call g mk a q.2.2⟩, va_recv hK hPx (ci := 0) (q0 := 0) rfl rfl, fun U hU hW => ⟨rfl, ⟨by rw [hU], by rw [hU]; exact hPx, va_K.moved hW.alike hK1, by rw [hU]; exact sX.moved hW.alike (hs.narrow hsub)⟩, by rw [hU]; exact tX.warm hW (ht.narrow hsub)⟩⟩ rfl hn hnL hst (lv_room (m := m) (pc := pc) (ls := ls) (rest := st0) hw) hdg hcs) (fun _ _ _ h => h) (fun ce q9 H1 locs1 hp hz hkp hlo hce hcv hcl => ?_)
  exact vx_catch S.2.2.2.1 pre x suf hsplit hpass hcov h0 hlink hcast hce hcv hcl (kk q9 H1 locs1 (lX_join hp hP hkp hdl) ⟨hz, fun q h9 h8 => hkp q h9 (fun z => h8 (hsub q z)), fun z h => hsub _ (hlo z h)⟩)
/-- the law calls a helper -/
theorem hl_S {hh : List (Nat × Nat × Nat × Nat)} {mc ms : Nat} {st1 : List Value} (S : CallFix p m c cc nL s args TB RL) (hM : hl_M l y cy mL hh rm As D o q1 q2 cI cJ tE tL F G k bo w r F' G' k' w' mc ms) (h1 : Cond.methodLink RL i y ∈ TB) (h2 : Cond.static y ∈ TB) (h4 : Cond.initialized RL ∈ TB) (hc : Cond.codeWith y cy mL (some .int) hh ∈ TB)
    (hd : y.cls = RL ∧ y.cls ≠ "java/lang/invoke/MethodHandle" ∧ y.cls ≠ "java/lang/invoke/VarHandle" ∧ (parseMethodDescriptor y.desc).map (fun d => d.parameters.length) = some n) (hrm : rm.cells = mc ∧ rm.slots = ms ∧ rm.frames + 1 ≤ R.frames ∧ 8 + (mL + 11) + rm.locals ≤ R.locals)
    (hP : va_P D vwCl (lX o q1 q2 cI cJ F G k bo w) H) (hK : va_K D vwCl (mT cI cJ) s) (hs : sX tE tL A s s.heap) (ht : tX A s s.heap) (hnc : nC s) (hS : va_S A s.heap H locs) (hA : A o ∧ A q1 ∧ A q2 ∧ A bo) (hAn : ∀ q, s.heap.size ≤ q → A q)
    (hn : As.length = n) (hnL : ls.size = nL) (hst : st0 = As.reverse ++ rest) (hw : (rest.map fun v => v.category).sum ≤ 8) (hdg : decode cc pc = .ok (.invokestatic i, 3)) (hcs : cells + mc ≤ R.cells ∧ slots + ms ≤ R.slots) (hs1 : .int (iZ r) :: rest = st1)
    (kk : ∀ (H1 : Heap) (locs1 : List Loc), va_P D vwCl (lX o q1 q2 cI cJ F' G' k' bo w') H1 → va_S A s.heap H1 locs1 → H.size ≤ H1.size → (∀ q : Nat, q < H.size → ¬ aL o q1 q2 bo H.size q → H1[q]? = H[q]?) → W p l e R s m args below meth c H1 locs1 (cells + mc) (slots + ms) Q (F0 m (pc + 3) ls st1)) : W p l e R s m args below meth c H locs cells slots Q (F0 m pc ls st0) := by
  have hsub : ∀ q, aL o q1 q2 bo H.size q → A q := fun q hq => by
    rcases hq with (h | h | h | h) | h
    · rw [h]; exact hA.1
    · rw [h]; exact hA.2.1
    · rw [h]; exact hA.2.2.1
    · rw [h]; exact hA.2.2.2
    · exact hAn q (Nat.le_trans hS.1 h)
  subst hs1
  have hr := vx_runSW (H := H) (locs := locs) (cells := cells) (slots := slots) (meth := meth) (below := below) (e := e) (R := R) (g := F0 m pc ls st0) (rest := rest) S (hM H.size) (vx_cwSW n S.2.2.2.2 (gd_vS h1 h2 (hd.1 ▸ h4) hc) rfl hrm.1 hrm.2.1 hd.2 hrm.2.2) ⟨fun a U g mk q => ⟨q.1, hB_bl U g mk a q.2⟩, fun U hU hW => ⟨rfl, by rw [hU], by rw [hU]; exact hP, va_K.moved hW.alike hK, by rw [hU]; exact sX.moved hW.alike ((hs.kept hS.2.1).narrow hsub), by rw [hU]; exact tX.warm hW ((ht.kept hS.2.1).narrow hsub), hnc.moved hW.alike⟩⟩ rfl hn hnL hst (lv_room (m := m) (pc := pc) (ls := ls) (rest := st0) hw) hdg hcs
  intro T hT X
  obtain ⟨v, st₀, t, T', L, h0, X', hL, e1, e2, ⟨hv, hp, hz, hk⟩, st⟩ := hr T hT X
  cases hv
  rw [h0] at hz hk
  obtain ⟨t2, a1, b1⟩ := kk T'.heap (locs ++ L) (by rw [e1]; exact hp)
    ⟨Nat.le_trans hS.1 (by rw [e1]; exact hz), fun q h1 h2 => by rw [e1, hk q (Nat.lt_of_lt_of_le h1 hS.1) (fun z => h2 (hsub q z))]; exact hS.2.1 q h1 h2, fun q hq => by
      rcases List.mem_append.mp hq with h | h
      · exact hS.2.2 q h
      · exact hsub _ (hL q h)⟩ (by rw [e1]; exact hz) (fun q h1 h2 => by rw [e1]; exact hk q h1 h2) T' rfl X'
  exact ⟨t2, st t2 a1, b1⟩
end HL
