/-! ===== methods that only read: the answer, the heap as it was ===== -/
def rQ (r : Option Value) : Array Value → State → Outcome → State → Prop := fun _ st oc t => oc = .returned r ∧ t.heap = st.heap
def rd_M (l : Launch) (y : MethodName) (cc : ByteArray) (mL : Nat) (ret : Option FieldType) (rm : Room) (As : List Value) (B : State → Prop) (r : Option Value) : Prop :=
  Met l y (.code y cc mL ret :: TB) rm (va_Pc As B) (rQ r) 0 0 (fun _ => False)
def bl_B (B : State → Prop) : Prop := ∀ (U : State) (g : JFrame) (mk : MethodId) (a : Array Value), B U → B (U.calling g mk a)
theorem bl_T : bl_B (fun _ => True) := fun _ _ _ _ _ => trivial
section RD
variable {p : Program} {l : Launch} {e : Env} {R : Room} {s : State} {m : MethodId} {args : Array Value} {below : List Frame} {meth : Method} {c : Code} {H : Heap} {locs : List Loc} {cells slots : Nat} {Q : State → Prop}
variable {pc : Nat} {ls : Array Slot} {rest st0 st1 : List Value} {a : Array Value}
theorem rd_go {r : Option Value} (hr : va_Run p l e R s m args below meth c H locs cells slots 0 0 (F0 m pc ls st0) rest (rQ r a) (fun _ => False)) (kk : W p l e R s m args below meth c H locs cells slots Q (F0 m (pc + 3) ls (r.toList ++ rest))) : W p l e R s m args below meth c H locs cells slots Q (F0 m pc ls st0) := by
  intro T hT X
  obtain ⟨v, st₀, t, T', L, h0, X', hL, e1, e2, ⟨hv, hh⟩, st⟩ := hr T hT X
  cases hv
  have hL0 : L = [] := by
    cases L with
    | nil => rfl
    | cons q _ => exact (hL q List.mem_cons_self).elim
  subst hL0
  rw [List.append_nil] at X'
  obtain ⟨t2, a1, b1⟩ := kk T' (by rw [e1, hh, h0]) X'
  exact ⟨t2, st t2 a1, b1⟩
variable {y : MethodName} {cc cy : ByteArray} {nL mL i n : Nat} {ret : Option FieldType} {rm : Room} {own : String} {As : List Value} {B : State → Prop} {r : Option Value}
/-- a static method of the own class -/
theorem rd_S (S : CallFix p m c cc nL s args TB own) (hM : rd_M l y cy mL ret rm As B r) (h1 : Cond.methodLink own i y ∈ TB) (h2 : Cond.static y ∈ TB) (h4 : Cond.initialized own ∈ TB) (hc : Cond.code y cy mL ret ∈ TB)
    (hd : y.cls = own ∧ y.cls ≠ "java/lang/invoke/MethodHandle" ∧ y.cls ≠ "java/lang/invoke/VarHandle" ∧ (parseMethodDescriptor y.desc).map (fun d => d.parameters.length) = some n) (hrm : rm.cells = 0 ∧ rm.slots = 0 ∧ rm.frames + 1 ≤ R.frames ∧ 8 + (mL + 11) + rm.locals ≤ R.locals)
    (hbl : bl_B B) (hB : ∀ U : State, U.heap = H → s.WarmedH U.vm → B U) (hn : As.length = n) (hnL : ls.size = nL) (hst : st0 = As.reverse ++ rest) (hw : (rest.map fun v => v.category).sum ≤ 8) (hdg : decode cc pc = .ok (.invokestatic i, 3)) (hcs : cells ≤ R.cells ∧ slots ≤ R.slots)
    (hs1 : r.toList ++ rest = st1)
    (kk : W p l e R s m args below meth c H locs cells slots Q (F0 m (pc + 3) ls st1)) : W p l e R s m args below meth c H locs cells slots Q (F0 m pc ls st0) :=
  rd_go (va_runS S hM (cwS n S.2.2.2.2 (gd_S h1 h2 h4 hc) rfl hrm.1 hrm.2.1 hd hrm.2.2) ⟨fun a U g mk q => ⟨q.1, hbl U g mk a q.2⟩, fun U hU hW => ⟨rfl, hB U hU hW⟩⟩ rfl hn hnL hst (lv_room (m := m) (pc := pc) (ls := ls) (rest := st0) hw) hdg hcs) (hs1 ▸ kk)
/-- an instance method; the receiver is an object of class C -/
theorem rd_V {C : String} {b : Addr} (S : CallFix p m c cc nL s args TB own) (hM : rd_M l y cy mL ret rm (.ref b :: As) B r) (h1 : Cond.methodLink own i y ∈ TB) (h2 : Cond.instanceMethod y ∈ TB) (h3 : Cond.selects C y y ∈ TB) (h4 : Cond.initialized C ∈ TB) (hc : Cond.code y cy mL ret ∈ TB)
    (hd : y.cls = C ∧ y.cls ≠ "java/lang/invoke/MethodHandle" ∧ y.cls ≠ "java/lang/invoke/VarHandle" ∧ (parseMethodDescriptor y.desc).map (fun d => d.parameters.length) = some n) (hrm : rm.cells = 0 ∧ rm.slots = 0 ∧ rm.frames + 1 ≤ R.frames ∧ 8 + (mL + 11) + rm.locals ≤ R.locals)
    (hbl : bl_B B) (hB : ∀ U : State, U.heap = H → s.WarmedH U.vm → B U) (hre : ∃ cell : Cell, H[b]? = some cell ∧ cell.vm.isStatics = false ∧ s.vm.findClass C = some cell.cls) (hn : As.length = n) (hnL : ls.size = nL) (hst : st0 = As.reverse ++ .ref b :: rest) (hw : (rest.map fun v => v.category).sum ≤ 8) (hdg : decode cc pc = .ok (.invokevirtual i, 3)) (hcs : cells ≤ R.cells ∧ slots ≤ R.slots)
    (hs1 : r.toList ++ rest = st1)
    (kk : W p l e R s m args below meth c H locs cells slots Q (F0 m (pc + 3) ls st1)) : W p l e R s m args below meth c H locs cells slots Q (F0 m pc ls st0) :=
  rd_go (va_runV S hM (cwV n S.2.2.2.2 (gd_V h1 h2 h3 h4 hc) rfl hrm.1 hrm.2.1 hd hrm.2.2) ⟨fun a U g mk q => ⟨q.1, hbl U g mk a q.2⟩, hre, fun U hU hW => ⟨rfl, hB U hU hW⟩⟩ rfl hn hnL hst (lv_room (m := m) (pc := pc) (ls := ls) (rest := st0) hw) hdg hcs) (hs1 ▸ kk)
/-- a static method of another class -/
theorem rd_S2 (S : CallFix p m c cc nL s args TB own) (hM : rd_M l y cy mL ret rm As B r) (h1 : Cond.methodLink own i y ∈ TB) (h2 : Cond.static y ∈ TB) (h4 : Cond.initialized y.cls ∈ TB) (hc : Cond.code y cy mL ret ∈ TB)
    (hd : y.cls ≠ "java/lang/invoke/MethodHandle" ∧ y.cls ≠ "java/lang/invoke/VarHandle" ∧ (parseMethodDescriptor y.desc).map (fun d => d.parameters.length) = some n) (hrm : rm.cells = 0 ∧ rm.slots = 0 ∧ rm.frames + 1 ≤ R.frames ∧ 8 + (mL + 11) + rm.locals ≤ R.locals)
    (hbl : bl_B B) (hB : ∀ U : State, U.heap = H → s.WarmedH U.vm → B U) (hn : As.length = n) (hnL : ls.size = nL) (hst : st0 = As.reverse ++ rest) (hw : (rest.map fun v => v.category).sum ≤ 8) (hdg : decode cc pc = .ok (.invokestatic i, 3)) (hcs : cells ≤ R.cells ∧ slots ≤ R.slots)
    (hs1 : r.toList ++ rest = st1)
    (kk : W p l e R s m args below meth c H locs cells slots Q (F0 m (pc + 3) ls st1)) : W p l e R s m args below meth c H locs cells slots Q (F0 m pc ls st0) :=
  rd_go (va_runS S hM (va_cwS n S.2.2.2.2 (gd_vS h1 h2 h4 hc) rfl hrm.1 hrm.2.1 hd hrm.2.2) ⟨fun a U g mk q => ⟨q.1, hbl U g mk a q.2⟩, fun U hU hW => ⟨rfl, hB U hU hW⟩⟩ rfl hn hnL hst (lv_room (m := m) (pc := pc) (ls := ls) (rest := st0) hw) hdg hcs) (hs1 ▸ kk)
end RD
/-- a reading method's body -/
theorem rd_of {l : Launch} (own : String) {y : MethodName} {cc : ByteArray} {mL : Nat} {ret : Option FieldType} {rm : Room} {As : List Value} {B : State → Prop} {r : Option Value} (hy : plainName y.cls = true) (ho : y.cls = own) (hL : (lg_sl As).length ≤ mL)
    (body : ∀ (p : Program) (e : Env) (s : State) (m : MethodId) (below : List Frame) (meth : Method) (c : Code), CallFix p m c cc mL s As.toArray TB own → meth.sig.returnType = ret → meth.locks = false → B s → ∀ ls : Array Slot, lv_has ls mL (lv_args 0 As) →
      W p l e rm s m As.toArray below meth c s.heap [] 0 0 (MQ below (rQ r) As.toArray s 0 0 (fun _ => False)) (F0 m 0 ls [])) : rd_M l y cc mL ret rm As B r := by
  refine Met.ofW (cc := cc) (maxL := mL) (ret := ret) hy rfl ?_
  intro p e s m args below meth c s₁ D hml hv
  obtain ⟨rfl, hB⟩ := hv
  have hts := atoms_spec (ws := .code y cc mL ret :: TB) D.pre
  have hl := lv_entry As (n := mL) hL
  rw [lg_entry_eq]
  exact body p e s m below meth c ⟨D.exec, D.bytes, hml, ho ▸ findClass_of_methodNamed D.named, fun w hw => hts w (List.mem_cons_of_mem _ hw)⟩ D.returns D.notSynchronized hB _ hl
section RE
variable {p : Program} {l : Launch} {e : Env} {R : Room} {s : State} {m : MethodId} {args : Array Value} {below : List Frame} {meth : Method} {c : Code} {cells slots : Nat}
theorem rd_iret {cc : ByteArray} {v : Int32} {pc : Nat} {ls : Array Slot} (hx : p.tables.exec = Jvm.exec) (hb : c.code = cc) (hr : meth.sig.returnType = some .int) (hlk : meth.locks = false) {r : Option Value} (hv : r = some (.int v)) (hdg : decode cc pc = .ok (.ireturn, 1)) : W p l e R s m args below meth c s.heap [] 0 0 (MQ below (rQ r) args s 0 0 (fun _ => False)) (F0 m pc ls [.int v]) :=
  W.iret hx hb hr (fun t ht _ => ⟨by rw [hv], ht⟩) (fun _ h => nomatch h) hdg hlk
theorem rd_zret {cc : ByteArray} {v : Int32} {pc : Nat} {ls : Array Slot} (hx : p.tables.exec = Jvm.exec) (hb : c.code = cc) (hr : meth.sig.returnType = some .boolean) (hlk : meth.locks = false) {r : Option Value} (hv : r = some (.int v)) (hn : narrow .boolean (.int v) = .int v) (hdg : decode cc pc = .ok (.ireturn, 1)) : W p l e R s m args below meth c s.heap [] 0 0 (MQ below (rQ r) args s 0 0 (fun _ => False)) (F0 m pc ls [.int v]) :=
  W.zret hx hb hr hn (fun t ht _ => ⟨by rw [hv], ht⟩) (fun _ h => nomatch h) hdg hlk
theorem rd_vret {cc : ByteArray} {pc : Nat} {ls : Array Slot} (hx : p.tables.exec = Jvm.exec) (hb : c.code = cc) (hr : meth.sig.returnType = none) (hlk : meth.locks = false) {r : Option Value} (hv : r = none) (hdg : decode cc pc = .ok (.return_, 1)) : W p l e R s m args below meth c s.heap [] 0 0 (MQ below (rQ r) args s 0 0 (fun _ => False)) (F0 m pc ls []) :=
  W.vret hx hb hr (fun t ht _ => ⟨by rw [hv], ht⟩) (fun _ h => nomatch h) hdg hlk
theorem rd_lret {cc : ByteArray} {v : Int64} {pc : Nat} {ls : Array Slot} (hx : p.tables.exec = Jvm.exec) (hb : c.code = cc) (hr : meth.sig.returnType = some .long) (hlk : meth.locks = false) {r : Option Value} (hv : r = some (.long v)) (hdg : decode cc pc = .ok (.lreturn, 1)) : W p l e R s m args below meth c s.heap [] 0 0 (MQ below (rQ r) args s 0 0 (fun _ => False)) (F0 m pc ls [.long v]) :=
  W.lret hx hb hr (fun t ht _ => ⟨by rw [hv], ht⟩) (fun _ h => nomatch h) hdg hlk
end RE
