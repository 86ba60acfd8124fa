/-! ===== what a throw of the class stands on; methods that throw and have changed nothing ===== -/
def xcS (E : String) (U : State) : Prop := ∃ c : ClassId, U.vm.findClass E = some c ∧ U.vm.assignable c c = true
def dcS (C : String) (U : State) : Prop := va_Nw (.declares ⟨C, "<init>", "(Ljava/lang/String;)V"⟩) U
theorem xcS.moved {E : String} {u U : State} (hvm : u.vm.Alike U.vm) (h : xcS E u) : xcS E U := by
  obtain ⟨c, h1, h2⟩ := h
  exact ⟨c, by rw [hvm.findClass]; exact h1, by rw [hvm.assignable]; exact h2⟩
theorem xcS.word {E : String} {U : State} {args : Array Value} (h : xcS E U) : (Cond.castable E E).before args U = true := by
  obtain ⟨c, h1, h2⟩ := h
  simp [Cond.before, Cond.holds, Cond.value, h1, h2]
theorem xcS.of {E : String} {U : State} {args : Array Value} (h : (Cond.castable E E).before args U = true) : xcS E U := by
  obtain ⟨c, d, h1, h2, h3⟩ := Cond.castable_spec h
  cases Option.some.inj (h1.symm.trans h2)
  exact ⟨c, h1, h3⟩
def txS : List (Nat × String) := [(155, "no such kind"), (161, "no such n"), (148, "60 elements are there"), (145, "no such element"), (57, "a product of L and E"), (70, "the product is too far"), (79, "the slope is too far"), (90, "the integral is too far")]
def exIA : String := "java/lang/IllegalArgumentException"
def exIS : String := "java/lang/IllegalStateException"
def exIO : String := "java/lang/IndexOutOfBoundsException"
def exUp : List String := ["java/lang/RuntimeException", "java/lang/Exception"]
def tX (A : Nat → Prop) (U : State) (H : Heap) : Prop := (vx_Zq Bundle.tN "UNASSIGNED_STACK" Bundle.steD A U H ∧ vx_Zq Bundle.tN "SUPPRESSED_SENTINEL" Bundle.listD A U H) ∧ (xcS exIA U ∧ xcS exIS U ∧ xcS exIO U) ∧ (dcS "java/lang/RuntimeException" U ∧ dcS "java/lang/Exception" U ∧ dcS "java/lang/Throwable" U) ∧ ∀ q ∈ txS, ∃ sa : Nat, vk_R RX0 q.1 q.2 sa U
theorem tX.warm {A : Nat → Prop} {s U : State} {H : Heap} (hW : s.WarmedH U.vm) (h : tX A s H) : tX A U H := ⟨⟨h.1.1.moved hW.alike, h.1.2.moved hW.alike⟩, ⟨h.2.1.1.moved hW.alike, h.2.1.2.1.moved hW.alike, h.2.1.2.2.moved hW.alike⟩, ⟨va_Nw.warmD hW h.2.2.1.1, va_Nw.warmD hW h.2.2.1.2.1, va_Nw.warmD hW h.2.2.1.2.2⟩, fun q hq => by
  obtain ⟨sa, h9⟩ := h.2.2.2 q hq
  exact ⟨sa, vk_R.warm hW h9⟩⟩
theorem tX.call {A : Nat → Prop} {U : State} {H : Heap} (g : JFrame) (mk : MethodId) (a : Array Value) (h : tX A U H) : tX A (U.calling g mk a) H := tX.warm (s := U) (U := U.calling g mk a) (State.WarmedH.refl U) h
theorem tX.kept {A : Nat → Prop} {U : State} {H H1 : Heap} (h : tX A U H) (hq : ∀ a : Nat, a < H.size → ¬ A a → H1[a]? = H[a]?) : tX A U H1 := ⟨⟨h.1.1.kept hq, h.1.2.kept hq⟩, h.2⟩
theorem tX.narrow {A B : Nat → Prop} {U : State} {H : Heap} (h : tX A U H) (hAB : ∀ q, B q → A q) : tX B U H := ⟨⟨h.1.1.narrow hAB, h.1.2.narrow hAB⟩, h.2⟩
def x0Q (E0 : String) : String → State → State → Prop := fun E st t => E = E0 ∧ va_F nA st t
def th_M (l : Launch) (y : MethodName) (cc : ByteArray) (mL : Nat) (ret : Option FieldType) (rm : Room) (As : List Value) (B : State → Prop) (E0 : String) : Prop :=
  vx_Met l y (.code y cc mL ret :: TB) rm (va_Pc As B) (fun _ _ _ _ => False) (x0Q E0) 1 6 nA
/-- the words of a throw, out of ours -/
theorem at_of {args : Array Value} {s : State} {A : Nat → Prop} {H : Heap} {ic : Nat} {E : String} (hT : ∀ w ∈ TB, w.before args s = true) (ht : tX A s H) (hE : xcS E s) (h1 : ∀ w ∈ (vx_atS RX0 ic E exUp).filter goodWord, w ∈ lw_tbl)
    (h2 : ∀ w ∈ (vx_atS RX0 ic E exUp).filter (fun w => !goodWord w), w ∈ [Cond.castable E E, .declares ⟨"java/lang/RuntimeException", "<init>", "(Ljava/lang/String;)V"⟩, .declares ⟨"java/lang/Exception", "<init>", "(Ljava/lang/String;)V"⟩, .declares ⟨"java/lang/Throwable", "<init>", "(Ljava/lang/String;)V"⟩]) : ∀ w ∈ vx_atS RX0 ic E exUp, w.before args s = true :=
  vx_hat (fun w hw => hT w (List.mem_filter.mpr ⟨h1 w hw, (List.mem_filter.mp hw).2⟩)) h2 (vx_c hE.word (vx_c (va_Nw.use rfl ht.2.2.1.1) (vx_c (va_Nw.use rfl ht.2.2.1.2.1) (vx_c (va_Nw.use rfl ht.2.2.1.2.2) vx_n))))
theorem aI_1 : ∀ w ∈ (vx_atS RX0 157 exIA exUp).filter goodWord, w ∈ lw_tbl := by decide +kernel
theorem aI_2 : ∀ w ∈ (vx_atS RX0 157 exIA exUp).filter (fun w => !goodWord w), w ∈ [Cond.castable exIA exIA, .declares ⟨"java/lang/RuntimeException", "<init>", "(Ljava/lang/String;)V"⟩, .declares ⟨"java/lang/Exception", "<init>", "(Ljava/lang/String;)V"⟩, .declares ⟨"java/lang/Throwable", "<init>", "(Ljava/lang/String;)V"⟩] := by decide +kernel
theorem aI_3 : ∀ w ∈ Cond.classLink RX0 153 exIA :: Cond.initialized exIA :: vx_atS RX0 157 exIA exUp, vx_ot w = true := by decide +kernel
theorem aS_1 : ∀ w ∈ (vx_atS RX0 59 exIS exUp).filter goodWord, w ∈ lw_tbl := by decide +kernel
theorem aS_2 : ∀ w ∈ (vx_atS RX0 59 exIS exUp).filter (fun w => !goodWord w), w ∈ [Cond.castable exIS exIS, .declares ⟨"java/lang/RuntimeException", "<init>", "(Ljava/lang/String;)V"⟩, .declares ⟨"java/lang/Exception", "<init>", "(Ljava/lang/String;)V"⟩, .declares ⟨"java/lang/Throwable", "<init>", "(Ljava/lang/String;)V"⟩] := by decide +kernel
theorem aS_3 : ∀ w ∈ Cond.classLink RX0 55 exIS :: Cond.initialized exIS :: vx_atS RX0 59 exIS exUp, vx_ot w = true := by decide +kernel
theorem aO_1 : ∀ w ∈ (vx_atS RX0 147 exIO exUp).filter goodWord, w ∈ lw_tbl := by decide +kernel
theorem aO_2 : ∀ w ∈ (vx_atS RX0 147 exIO exUp).filter (fun w => !goodWord w), w ∈ [Cond.castable exIO exIO, .declares ⟨"java/lang/RuntimeException", "<init>", "(Ljava/lang/String;)V"⟩, .declares ⟨"java/lang/Exception", "<init>", "(Ljava/lang/String;)V"⟩, .declares ⟨"java/lang/Throwable", "<init>", "(Ljava/lang/String;)V"⟩] := by decide +kernel
theorem aO_3 : ∀ w ∈ Cond.classLink RX0 143 exIO :: Cond.initialized exIO :: vx_atS RX0 147 exIO exUp, vx_ot w = true := by decide +kernel
theorem up_fit : ∀ n ∈ exUp, Bundle.fit n = true := by decide +kernel
section TH
variable {p : Program} {l : Launch} {e : Env} {R : Room} {s : State} {m : MethodId} {args : Array Value} {below : List Frame} {meth : Method} {c : Code} {H : Heap} {locs : List Loc} {cells slots : Nat}
variable {pc : Nat} {ls : Array Slot} {rest st0 : List Value} {a : Array Value} {cc cy : ByteArray} {nL mL i n : Nat} {Qc : Array Value → State → Outcome → State → Prop} {XC : String → State → State → Prop} {free : Addr → Prop} {A : Nat → Prop}
/-- 'throw new E("text")' in a method of the class -/
theorem xt_go (hx : p.tables.exec = Jvm.exec) (hb : c.code = cc) (hl0 : l.stackTraces = false) (hown : s.vm.findClass RX0 = some m.cls) (hT : ∀ w ∈ TB, w.before args s = true) (ht : tX A s s.heap) {E : String} {ik ic is : Nat} {text : String} (hE : xcS E s) (hfit : Bundle.fit E = true) (hk : Cond.classLink RX0 ik E ∈ TB) (hi : Cond.initialized E ∈ TB) (hq : (is, text) ∈ txS)
    (h1 : ∀ w ∈ (vx_atS RX0 ic E exUp).filter goodWord, w ∈ lw_tbl) (h2 : ∀ w ∈ (vx_atS RX0 ic E exUp).filter (fun w => !goodWord w), w ∈ [Cond.castable E E, .declares ⟨"java/lang/RuntimeException", "<init>", "(Ljava/lang/String;)V"⟩, .declares ⟨"java/lang/Exception", "<init>", "(Ljava/lang/String;)V"⟩, .declares ⟨"java/lang/Throwable", "<init>", "(Ljava/lang/String;)V"⟩]) (h3 : ∀ w ∈ Cond.classLink RX0 ik E :: Cond.initialized E :: vx_atS RX0 ic E exUp, vx_ot w = true)
    (hS : va_S A s.heap H locs) (hsize : ls.size = c.maxLocals) (d0 : decode cc pc = .ok (.new ik, 3)) (d3 : decode cc (pc + 3) = .ok (.dup, 1)) (d4 : decode cc (pc + 4) = .ok (.ldc is, 2)) (d6 : decode cc (pc + 6) = .ok (.invokespecial ic, 3)) (d9 : decode cc (pc + 9) = .ok (.athrow, 1)) (hno : ∀ x ∈ c.exceptionTable.toList, False)
    (hRf : 5 < R.frames) (hRl : (rest.map fun v => v.category).sum + 82 ≤ R.locals) (hRc : 0 + 1 ≤ R.cells) (hRs : 0 + 6 ≤ R.slots) (hlk : meth.locks = false) (hX : ∀ t : State, s.vm.Alike t.vm → H.size ≤ t.heap.size → (∀ q : Nat, q < H.size → t.heap[q]? = H[q]?) → XC E s t) (hf : ∀ z ∈ locs, free z.base) :
    W p l e R s m args below meth c H locs 0 0 (vx_MQ below Qc XC args s 1 6 free) (F0 m pc ls rest) := by
  obtain ⟨sa, hsa⟩ := ht.2.2.2 _ hq
  exact vx_throwS hx hb hl0 hown hfit up_fit (hT _ hk) (hT _ hi) hsa (at_of hT ht hE h1 h2) h3 ht.1.1 ht.1.2 hS hsize d0 d3 d4 d6 d9 (fun x hx => (hno x hx).elim) hRf hRl hRc hRs hlk hX hf (Nat.le_refl _) (Nat.le_refl _)
theorem x0_end {E0 : String} {t : State} (h2 : s.heap.size ≤ t.heap.size) (h3 : ∀ q : Nat, q < s.heap.size → t.heap[q]? = s.heap[q]?) : x0Q E0 E0 s t := ⟨rfl, h2, fun q hq _ => h3 q hq⟩
variable {y : MethodName} {ret : Option FieldType} {rm : Room} {own : String} {As : List Value} {B : State → Prop} {E0 : String}
theorem th_go {Qa : State → Outcome → State → Prop} (hr : vx_Run p l e R s m args below meth c s.heap [] 0 0 1 6 (F0 m pc ls st0) rest Qa (x0Q E0) nA) (hQ : ∀ st o t, ¬ Qa st o t) (hno : ∀ x ∈ c.exceptionTable.toList, False) (hlk : meth.locks = false) :
    W p l e R s m args below meth c s.heap [] 0 0 (vx_MQ below Qc (x0Q E0) args s 1 6 nA) (F0 m pc ls st0) := by
  intro T hT X
  rcases hr T hT X with ⟨v, st₀, t, T', L, h0, X', hL, e1, e2, hq, st⟩ | ⟨q, st₀, t, T', L, E, ce, h0, X', hL, e1, e2, hX, hce, hcv, hcl, st⟩
  · exact (hQ _ _ _ hq).elim
  · have hL0 : L = [] := by
      cases L with
      | nil => rfl
      | cons z _ => exact (hL z List.mem_cons_self).elim
    subst hL0
    obtain ⟨hE, hz, hk⟩ := hX
    rw [h0] at hz hk
    obtain ⟨t2, a1, b1⟩ := vx_out (p := p) (l := l) (e := e) (R := R) (s := s) (m := m) (args := args) (below := below) (meth := meth) (c := c) (H := T'.heap) (locs := []) (cells := 1) (slots := 6) (free := nA) (ls := ls) (rest := rest) (Qc := Qc) (XC := x0Q E0) (pc := pc) (mc := 1) (ms := 6) (fun x hx => (hno x hx).elim) hlk (by rw [e1]; exact hce) hcv hcl
      (fun t9 h9 _ => ⟨hE, by rw [h9, e1]; exact hz, fun q9 h1 _ => by rw [h9, e1]; exact hk q9 h1 (fun z => z)⟩) (fun _ h => nomatch h) (Nat.le_refl _) (Nat.le_refl _) T' rfl X'
    exact ⟨t2, st.trans a1, b1⟩
theorem th_V {C : String} {b : Addr} (S : CallFix p m c cc nL s args TB own) (hM : th_M l y cy mL ret rm (.ref b :: As) B E0) (h1 : Cond.methodLink own i y ∈ TB) (h2 : Cond.instanceMethod y ∈ TB) (h3 : Cond.selects C y y ∈ TB) (h4 : Cond.initialized C ∈ TB) (hc : Cond.code y cy mL ret ∈ TB)
    (hd : y.cls = C ∧ y.cls ≠ "java/lang/invoke/MethodHandle" ∧ y.cls ≠ "java/lang/invoke/VarHandle" ∧ (parseMethodDescriptor y.desc).map (fun d => d.parameters.length) = some n) (hrm : rm.cells = 1 ∧ rm.slots = 6 ∧ rm.frames + 1 ≤ R.frames ∧ 8 + (mL + 11) + rm.locals ≤ R.locals)
    (hbl : bl_B B) (hB : ∀ U : State, U.heap = s.heap → s.WarmedH U.vm → B U) (hre : ∃ cell : Cell, s.heap[b]? = some cell ∧ cell.vm.isStatics = false ∧ s.vm.findClass C = some cell.cls) (hn : As.length = n) (hnL : ls.size = nL) (hst : st0 = As.reverse ++ .ref b :: rest) (hw : (rest.map fun v => v.category).sum ≤ 8) (hdg : decode cc pc = .ok (.invokevirtual i, 3)) (hcs : 0 + 1 ≤ R.cells ∧ 0 + 6 ≤ R.slots) (hno : ∀ x ∈ c.exceptionTable.toList, False) (hlk : meth.locks = false) :
    W p l e R s m args below meth c s.heap [] 0 0 (vx_MQ below Qc (x0Q E0) args s 1 6 nA) (F0 m pc ls st0) :=
  th_go (vx_runV S hM (cwV n S.2.2.2.2 (gd_V h1 h2 h3 h4 hc) rfl hrm.1 hrm.2.1 hd hrm.2.2) ⟨fun a U g mk q => ⟨q.1, hbl U g mk a q.2⟩, hre, fun U hU hW => ⟨rfl, hB U hU hW⟩⟩ rfl hn hnL hst (lv_room (m := m) (pc := pc) (ls := ls) (rest := st0) hw) hdg hcs) (fun _ _ _ h => h) hno hlk
theorem th_S (S : CallFix p m c cc nL s args TB own) (hM : th_M l y cy mL ret rm As B E0) (h1 : Cond.methodLink own i y ∈ TB) (h2 : Cond.static y ∈ TB) (h4 : Cond.initialized own ∈ TB) (hc : Cond.code y cy mL ret ∈ TB)
    (hd : y.cls = own ∧ y.cls ≠ "java/lang/invoke/MethodHandle" ∧ y.cls ≠ "java/lang/invoke/VarHandle" ∧ (parseMethodDescriptor y.desc).map (fun d => d.parameters.length) = some n) (hrm : rm.cells = 1 ∧ rm.slots = 6 ∧ rm.frames + 1 ≤ R.frames ∧ 8 + (mL + 11) + rm.locals ≤ R.locals)
    (hbl : bl_B B) (hB : ∀ U : State, U.heap = s.heap → s.WarmedH U.vm → B U) (hn : As.length = n) (hnL : ls.size = nL) (hst : st0 = As.reverse ++ rest) (hw : (rest.map fun v => v.category).sum ≤ 8) (hdg : decode cc pc = .ok (.invokestatic i, 3)) (hcs : 0 + 1 ≤ R.cells ∧ 0 + 6 ≤ R.slots) (hno : ∀ x ∈ c.exceptionTable.toList, False) (hlk : meth.locks = false) :
    W p l e R s m args below meth c s.heap [] 0 0 (vx_MQ below Qc (x0Q E0) args s 1 6 nA) (F0 m pc ls st0) :=
  th_go (vx_runS S hM (cwS n S.2.2.2.2 (gd_S h1 h2 h4 hc) rfl hrm.1 hrm.2.1 hd hrm.2.2) ⟨fun a U g mk q => ⟨q.1, hbl U g mk a q.2⟩, fun U hU hW => ⟨rfl, hB U hU hW⟩⟩ rfl hn hnL hst (lv_room (m := m) (pc := pc) (ls := ls) (rest := st0) hw) hdg hcs) (fun _ _ _ h => h) hno hlk
end TH
theorem th_of {l : Launch} {y : MethodName} {cc : ByteArray} {mL : Nat} {ret : Option FieldType} {rm : Room} {As : List Value} {B : State → Prop} {E0 : String} (hy : plainName y.cls = true) (ho : y.cls = RX0) (hL : (lg_sl As).length ≤ mL)
    (body : ∀ (p : Program) (e : Env) (s : State) (m : MethodId) (below : List Frame) (meth : Method) (c : Code), CallFix p m c cc mL s As.toArray TB RX0 → meth.sig.returnType = ret → meth.locks = false → (∀ x ∈ c.exceptionTable.toList, False) → B s → ∀ ls : Array Slot, lv_has ls mL (lv_args 0 As) →
      W p l e rm s m As.toArray below meth c s.heap [] 0 0 (vx_MQ below (fun _ _ _ _ => False) (x0Q E0) As.toArray s 1 6 nA) (F0 m 0 ls [])) : th_M l y cc mL ret rm As B E0 := by
  refine vx_ofW (cc := cc) (maxL := mL) (ret := ret) hy rfl ?_
  intro p e s m args below meth c s₁ D hml hno hv
  obtain ⟨rfl, hB⟩ := hv
  have hts := atoms_spec (ws := .code y cc mL ret :: TB) D.pre
  have hl := lv_entry As (n := mL) hL
  rw [lg_entry_eq]
  exact body p e s m below meth c ⟨D.exec, D.bytes, hml, ho ▸ findClass_of_methodNamed D.named, fun w hw => hts w (List.mem_cons_of_mem _ hw)⟩ D.returns D.notSynchronized hno hB _ hl
/-- what a throwing method of the class asks -/
def tXB (D : va_G) (o q1 q2 : Nat) (cI : ClassId) (tE tL : Nat) (F G : Nat → Int) (k : Int) (U : State) : Prop := rX D o q1 q2 cI tE tL F G k U ∧ tX nA U U.heap
theorem tXB_bl {D : va_G} {o q1 q2 : Nat} {cI : ClassId} {tE tL : Nat} {F G : Nat → Int} {k : Int} : bl_B (tXB D o q1 q2 cI tE tL F G k) := fun U g mk a h => ⟨rX_bl U g mk a h.1, tX.call g mk a h.2⟩
theorem tXB_mv {D : va_G} {o q1 q2 : Nat} {cI : ClassId} {tE tL : Nat} {F G : Nat → Int} {k : Int} {s : State} (h : tXB D o q1 q2 cI tE tL F G k s) : ∀ U : State, U.heap = s.heap → s.WarmedH U.vm → tXB D o q1 q2 cI tE tL F G k U := fun U hU hW => ⟨rX_mv h.1 U hU hW, by rw [hU]; exact tX.warm hW h.2⟩
def tSB (U : State) : Prop := tX nA U U.heap
theorem tSB_bl : bl_B tSB := fun _ g mk a h => tX.call g mk a h
theorem tSB_mv {s : State} (h : tSB s) : ∀ U : State, U.heap = s.heap → s.WarmedH U.vm → tSB U := fun U hU hW => by
  unfold tSB
  rw [hU]
  exact tX.warm hW h
