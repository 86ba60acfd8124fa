/-! ===== methods of the class that write its cells ===== -/
def aX (o q1 q2 sz : Nat) : Nat → Prop := fun q => (q = o ∨ q = q1 ∨ q = q2) ∨ sz ≤ q
def dX (o q1 q2 : Nat) : Prop := o ≠ q1 ∧ o ≠ q2 ∧ q1 ≠ q2
def uZ (F : Nat → Int) (n : Nat) (x : Int) : Nat → Int := fun j => if j = n then x else F j
theorem uZ_upd {F : Nat → Int} {i x : Int} (h : 0 ≤ i ∧ i ≤ 2147483647) : upd (fun j => iZ (F j)) (iZ i).toNatClampNeg (iZ x) = fun j => iZ (uZ F i.toNat x j) := by
  funext j
  rw [iZ_cl h.1 h.2]
  unfold uZ
  by_cases hj : j = i.toNat
  · subst hj
    rw [pk_us, if_pos rfl]
  · rw [pk_un hj, if_neg hj]
theorem dX_D {o q1 q2 : Nat} {cI : ClassId} {F G : Nat → Int} {k : Int} {A : Nat → Prop} (hd : dX o q1 q2) (hA : A o ∧ A q1 ∧ A q2) : va_D A (wX o q1 q2 cI F G k) := by
  obtain ⟨h1, h2, h3⟩ := hd
  obtain ⟨a1, a2, a3⟩ := hA
  refine ⟨fun i j p q hp hq e => ?_, fun i q hq => ?_⟩
  · match i, j, hp, hq with
    | 0, 0, _, _ => rfl
    | 1, 1, _, _ => rfl
    | 2, 2, _, _ => rfl
    | 0, 1, hp, hq => cases hp; cases hq; exact absurd e h1
    | 0, 2, hp, hq => cases hp; cases hq; exact absurd e h2
    | 1, 0, hp, hq => cases hp; cases hq; exact absurd e.symm h1
    | 1, 2, hp, hq => cases hp; cases hq; exact absurd e h3
    | 2, 0, hp, hq => cases hp; cases hq; exact absurd e.symm h2
    | 2, 1, hp, hq => cases hp; cases hq; exact absurd e.symm h3
    | i + 3, _, hp, _ => simp at hp
    | 0, j + 3, _, hq => simp at hq
    | 1, j + 3, _, hq => simp at hq
    | 2, j + 3, _, hq => simp at hq
  · match i, hq with
    | 0, hq => cases hq; exact a1
    | 1, hq => cases hq; exact a2
    | 2, hq => cases hq; exact a3
    | i + 3, hq => simp at hq
def cQ (D : va_G) (o q1 q2 : Nat) (cI : ClassId) (A : Nat → Prop) (r : Option Value) (F G : Nat → Int) (k : Int) : Array Value → State → Outcome → State → Prop := fun _ st oc t => oc = .returned r ∧ va_P D vwCl (wX o q1 q2 cI F G k) t.heap ∧ va_F A st t
def cB (D : va_G) (o q1 q2 : Nat) (cI : ClassId) (tE tL : Nat) (F G : Nat → Int) (k : Int) (sz : Nat) : State → Prop := fun U => U.heap.size = sz ∧ va_P D vwCl (wX o q1 q2 cI F G k) U.heap ∧ va_K D vwCl [(cI, .int)] U ∧ sX tE tL (aX o q1 q2 sz) U U.heap
def wr_M (l : Launch) (y : MethodName) (cc : ByteArray) (mL : Nat) (ret : Option FieldType) (rm : Room) (As : List Value) (D : va_G) (o q1 q2 : Nat) (cI : ClassId) (tE tL : Nat) (F G : Nat → Int) (k : Int) (r : Option Value) (F' G' : Nat → Int) (k' : Int) : Prop :=
  ∀ sz : Nat, Met l y (.code y cc mL ret :: TB) rm (va_Pc (.ref o :: As) (cB D o q1 q2 cI tE tL F G k sz)) (cQ D o q1 q2 cI (aX o q1 q2 sz) r F' G' k') 0 0 (aX o q1 q2 sz)
theorem cB_bl {D : va_G} {o q1 q2 : Nat} {cI : ClassId} {tE tL : Nat} {F G : Nat → Int} {k : Int} {sz : Nat} : bl_B (cB D o q1 q2 cI tE tL F G k sz) := fun U g mk a h => ⟨h.1, h.2.1, va_K.moved (u := U) (U := U.calling g mk a) (Vm.Alike.refl U.vm) h.2.2.1, sX.moved (u := U) (U := U.calling g mk a) (Vm.Alike.refl U.vm) h.2.2.2⟩
section WR
variable {p : Program} {l : Launch} {e : Env} {R : Room} {s : State} {m : MethodId} {args : Array Value} {below : List Frame} {meth : Method} {c : Code} {H : Heap} {locs : List Loc} {cells slots : Nat} {Q : State → Prop}
variable {pc : Nat} {ls : Array Slot} {rest st0 st1 : List Value} {a : Array Value} {D : va_G} {o q1 q2 : Nat} {cI : ClassId} {tE tL : Nat} {F G F' G' : Nat → Int} {k k' : Int} {A : Nat → Prop} {H0 : Heap}
theorem wr_go {r : Option Value} {A1 : Nat → Prop} (hr : va_Run p l e R s m args below meth c H locs cells slots 0 0 (F0 m pc ls st0) rest (cQ D o q1 q2 cI A1 r F' G' k' a) A1) (hS : va_S A H0 H locs) (hA1 : ∀ q, A1 q → A q)
    (kk : ∀ (H1 : Heap) (locs1 : List Loc), va_P D vwCl (wX o q1 q2 cI F' G' k') H1 → va_S A H0 H1 locs1 → H.size ≤ H1.size → (∀ q : Nat, q < H.size → ¬ A1 q → H1[q]? = H[q]?) → W p l e R s m args below meth c H1 locs1 cells slots Q (F0 m (pc + 3) ls (r.toList ++ rest))) : W p l e R s m args below meth c H locs cells slots Q (F0 m pc ls st0) := by
  intro T hT X
  obtain ⟨v, st₀, t, T', L, h0, X', hL, e1, e2, ⟨hv, hp, hz, hk⟩, st⟩ := hr T hT X
  cases hv
  rw [h0] at hz hk
  obtain ⟨t2, a1, b1⟩ := kk T'.heap (locs ++ L) (by rw [e1]; exact hp)
    ⟨Nat.le_trans hS.1 (by rw [e1]; exact hz), fun q h1 h2 => by rw [e1, hk q (Nat.lt_of_lt_of_le h1 hS.1) (fun z => h2 (hA1 q z))]; exact hS.2.1 q h1 h2, fun q hq => by
      rcases List.mem_append.mp hq with h | h
      · exact hS.2.2 q h
      · exact hA1 _ (hL q h)⟩ (by rw [e1]; exact hz) (fun q h1 h2 => by rw [e1]; exact hk q h1 h2) T' rfl X'
  exact ⟨t2, st t2 a1, b1⟩
variable {y : MethodName} {cc cy : ByteArray} {nL mL i n : Nat} {ret : Option FieldType} {rm : Room} {own : String} {As : List Value} {r : Option Value}
theorem wr_V (S : CallFix p m c cc nL s args TB own) (hM : wr_M l y cy mL ret rm As D o q1 q2 cI tE tL F G k r F' G' k') (h1 : Cond.methodLink own i y ∈ TB) (h2 : Cond.instanceMethod y ∈ TB) (h3 : Cond.selects RX0 y y ∈ TB) (h4 : Cond.initialized RX0 ∈ TB) (hc : Cond.code y cy mL ret ∈ TB)
    (hd : y.cls = RX0 ∧ y.cls ≠ "java/lang/invoke/MethodHandle" ∧ y.cls ≠ "java/lang/invoke/VarHandle" ∧ (parseMethodDescriptor y.desc).map (fun d => d.parameters.length) = some n) (hrm : rm.cells = 0 ∧ rm.slots = 0 ∧ rm.frames + 1 ≤ R.frames ∧ 8 + (mL + 11) + rm.locals ≤ R.locals)
    (hP : va_P D vwCl (wX o q1 q2 cI F G k) H) {tys : List (ClassId × FieldType)} (hK : va_K D vwCl tys s) (ht : tys[0]? = some (cI, .int)) (hs : sX tE tL A s s.heap) (hS : va_S A s.heap H locs) (hA : A o ∧ A q1 ∧ A q2) (hAn : ∀ q, s.heap.size ≤ q → A q)
    (hn : As.length = n) (hnL : ls.size = nL) (hst : st0 = As.reverse ++ .ref o :: rest) (hw : (rest.map fun v => v.category).sum ≤ 8) (hdg : decode cc pc = .ok (.invokevirtual i, 3)) (hcs : cells ≤ R.cells ∧ slots ≤ R.slots) (hs1 : r.toList ++ rest = st1)
    (kk : ∀ (H1 : Heap) (locs1 : List Loc), va_P D vwCl (wX o q1 q2 cI F' G' k') H1 → va_S A s.heap H1 locs1 → H.size ≤ H1.size → (∀ q : Nat, q < H.size → ¬ aX o q1 q2 H.size q → H1[q]? = H[q]?) → W p l e R s m args below meth c H1 locs1 cells slots Q (F0 m (pc + 3) ls st1)) : W p l e R s m args below meth c H locs cells slots Q (F0 m pc ls st0) := by
  have hsub : ∀ q, aX o q1 q2 H.size q → A q := fun q hq => by
    rcases hq with (h | h | h) | h
    · rw [h]; exact hA.1
    · rw [h]; exact hA.2.1
    · rw [h]; exact hA.2.2
    · exact hAn q (Nat.le_trans hS.1 h)
  have hK1 : va_K D vwCl [(cI, .int)] s := hK.sub [0] (by rw [List.filterMap_cons, ht]; rfl)
  refine wr_go (va_runV S (hM H.size) (cwV n S.2.2.2.2 (gd_V h1 h2 h3 h4 hc) rfl hrm.1 hrm.2.1 hd hrm.2.2) ⟨fun a U g mk q => ⟨q.1, cB_bl U g mk a q.2⟩, va_recv hK hP (ci := 0) (q0 := 0) rfl rfl, fun U hU hW => ⟨rfl, by rw [hU], by rw [hU]; exact hP, va_K.moved hW.alike hK1, by rw [hU]; exact sX.moved hW.alike ((hs.kept hS.2.1).narrow hsub)⟩⟩ rfl hn hnL hst (lv_room (m := m) (pc := pc) (ls := ls) (rest := st0) hw) hdg hcs) hS hsub (fun H1 locs1 a1 a2 a3 a4 => ?_)
  rw [hs1]
  exact kk H1 locs1 a1 a2 a3 a4
/-- what a reading method asks, in a heap that has moved on -/
theorem rX_w (hP : va_P D vwCl (wX o q1 q2 cI F G k) H) {tys : List (ClassId × FieldType)} (hK : va_K D vwCl tys s) (ht : tys[0]? = some (cI, .int)) (hs : sX tE tL A s s.heap) (hS : va_S A s.heap H locs) : ∀ U : State, U.heap = H → s.WarmedH U.vm → rX D o q1 q2 cI tE tL F G k U := fun U hU hW => by
  have hK1 : va_K D vwCl [(cI, .int)] s := hK.sub [0] (by rw [List.filterMap_cons, ht]; rfl)
  refine ⟨by rw [hU]; exact hP, va_K.moved hW.alike hK1, ?_⟩
  unfold sB
  rw [hU]
  exact sX.moved hW.alike ((hs.kept hS.2.1).narrow (fun q h => h.elim))
theorem sB_w (hs : sX tE tL A s s.heap) (hS : va_S A s.heap H locs) : ∀ U : State, U.heap = H → s.WarmedH U.vm → sB tE tL U := fun U hU hW => by
  unfold sB
  rw [hU]
  exact sX.moved hW.alike ((hs.kept hS.2.1).narrow (fun q h => h.elim))
/-- numbers[i] = x -/
theorem wx_num (hx : p.tables.exec = Jvm.exec) (hb : c.code = cc) (hK : va_K D vwCl [(cI, .int)] s) (hP : va_P D vwCl (wX o q1 q2 cI F G k) H) (hd : dX o q1 q2) (hA : A o ∧ A q1 ∧ A q2) (hS : va_S A H0 H locs) {z x : Int} (hi : 0 ≤ z ∧ z < 4320) (hdg : decode cc pc = .ok (.iastore, 1))
    (kk : ∀ (H1 : Heap) (locs1 : List Loc), va_P D vwCl (wX o q1 q2 cI (uZ F z.toNat x) G k) H1 → va_S A H0 H1 locs1 → W p l e R s m args below meth c H1 locs1 cells slots Q (F0 m (pc + 1) ls rest)) : W p l e R s m args below meth c H locs cells slots Q (F0 m pc ls (.int (iZ x) :: .int (iZ z) :: .ref q1 :: rest)) := by
  refine va_iast hx hb hK hP (dX_D hd hA) hS 1 0 rfl rfl (iZ_in hi.1 (by omega) (by decide)) hdg (fun H1 locs1 hP hD hS => kk H1 locs1 ?_ hS)
  rw [uZ_upd (by omega)] at hP
  exact hP
/-- wide[i] = x -/
theorem wx_wid (hx : p.tables.exec = Jvm.exec) (hb : c.code = cc) (hK : va_K D vwCl [(cI, .int)] s) (hP : va_P D vwCl (wX o q1 q2 cI F G k) H) (hd : dX o q1 q2) (hA : A o ∧ A q1 ∧ A q2) (hS : va_S A H0 H locs) {z x : Int} (hi : 0 ≤ z ∧ z < 255) (hdg : decode cc pc = .ok (.iastore, 1))
    (kk : ∀ (H1 : Heap) (locs1 : List Loc), va_P D vwCl (wX o q1 q2 cI F (uZ G z.toNat x) k) H1 → va_S A H0 H1 locs1 → W p l e R s m args below meth c H1 locs1 cells slots Q (F0 m (pc + 1) ls rest)) : W p l e R s m args below meth c H locs cells slots Q (F0 m pc ls (.int (iZ x) :: .int (iZ z) :: .ref q2 :: rest)) := by
  refine va_iast hx hb hK hP (dX_D hd hA) hS 2 0 rfl rfl (iZ_in hi.1 (by omega) (by decide)) hdg (fun H1 locs1 hP hD hS => kk H1 locs1 ?_ hS)
  rw [uZ_upd (by omega)] at hP
  exact hP
/-- a loop over the class's cells -/
theorem lp_goX {head nL : Nat} {α : Type} (lv : α → List (Nat × Value)) (wF wG : α → Nat → Int) (wk : α → Int) (I : Nat → α → Prop)
    (step : ∀ (n : Nat) (a : α), I n a → (∀ (k : Nat) (b : α), k < n → I k b → ∀ (H : Heap) (locs : List Loc), va_P D vwCl (wX o q1 q2 cI (wF b) (wG b) (wk b)) H → va_S A H0 H locs → ∀ ls : Array Slot, lv_has ls nL (lv b) → W p l e R s m args below meth c H locs cells slots Q (F0 m head ls [])) → ∀ (H : Heap) (locs : List Loc), va_P D vwCl (wX o q1 q2 cI (wF a) (wG a) (wk a)) H → va_S A H0 H locs → ∀ ls : Array Slot, lv_has ls nL (lv a) → W p l e R s m args below meth c H locs cells slots Q (F0 m head ls [])) :
    ∀ (n : Nat) (a : α), I n a → ∀ (H : Heap) (locs : List Loc), va_P D vwCl (wX o q1 q2 cI (wF a) (wG a) (wk a)) H → va_S A H0 H locs → ∀ ls : Array Slot, lv_has ls nL (lv a) → W p l e R s m args below meth c H locs cells slots Q (F0 m head ls []) := by
  intro n
  induction n using Nat.strongRecOn with
  | _ n ih => exact fun a ha H locs hP hS ls hl => step n a ha (fun k b hk hb => ih k hk b hb) H locs hP hS ls hl
theorem wP_eq {F1 G1 : Nat → Int} {k1 : Int} (hP : va_P D vwCl (wX o q1 q2 cI F G k) H) (hF : F = F1) (hG : G = G1) (hk : k = k1) : va_P D vwCl (wX o q1 q2 cI F1 G1 k1) H := by
  subst hF; subst hG; subst hk
  exact hP
end WR
/-- a writing method's body -/
theorem wr_of {l : Launch} {y : MethodName} {cc : ByteArray} {mL : Nat} {ret : Option FieldType} {rm : Room} {As : List Value} {D : va_G} {o q1 q2 : Nat} {cI : ClassId} {tE tL : Nat} {F G F' G' : Nat → Int} {k k' : Int} {r : Option Value} (hy : plainName y.cls = true) (ho : y.cls = RX0) (hL : (lg_sl (.ref o :: As)).length ≤ mL)
    (body : ∀ (p : Program) (e : Env) (s : State) (m : MethodId) (below : List Frame) (meth : Method) (c : Code) (A : Nat → Prop), A = aX o q1 q2 s.heap.size → CallFix p m c cc mL s (Value.ref o :: As).toArray TB RX0 → meth.sig.returnType = ret → meth.locks = false → va_P D vwCl (wX o q1 q2 cI F G k) s.heap → va_K D vwCl [(cI, .int)] s → sX tE tL A s s.heap → (A o ∧ A q1 ∧ A q2) → (∀ q, s.heap.size ≤ q → A q) → va_S A s.heap s.heap [] → ∀ ls : Array Slot, lv_has ls mL (lv_args 0 (.ref o :: As)) →
      W p l e rm s m (Value.ref o :: As).toArray below meth c s.heap [] 0 0 (MQ below (cQ D o q1 q2 cI A r F' G' k') (Value.ref o :: As).toArray s 0 0 A) (F0 m 0 ls [])) : wr_M l y cc mL ret rm As D o q1 q2 cI tE tL F G k r F' G' k' := by
  intro sz
  refine Met.ofW (cc := cc) (maxL := mL) (ret := ret) hy rfl ?_
  intro p e s m args below meth c s₁ B hml hv
  obtain ⟨rfl, hsz, hP, hK, hs⟩ := hv
  subst hsz
  have hts := atoms_spec (ws := .code y cc mL ret :: TB) B.pre
  have hl := lv_entry (.ref o :: As) (n := mL) hL
  rw [lg_entry_eq]
  exact body p e s m below meth c _ rfl ⟨B.exec, B.bytes, hml, ho ▸ findClass_of_methodNamed B.named, fun w hw => hts w (List.mem_cons_of_mem _ hw)⟩ B.returns B.notSynchronized hP hK hs ⟨Or.inl (Or.inl rfl), Or.inl (Or.inr (Or.inl rfl)), Or.inl (Or.inr (Or.inr rfl))⟩ (fun q h => Or.inr h) va_S.rf _ hl
section WE
variable {p : Program} {l : Launch} {e : Env} {R : Room} {s : State} {m : MethodId} {args : Array Value} {below : List Frame} {meth : Method} {c : Code} {H : Heap} {locs : List Loc} {cells slots : Nat} {D : va_G} {o q1 q2 : Nat} {cI : ClassId} {F G : Nat → Int} {k : Int} {A : Nat → Prop}
theorem wr_iret {cc : ByteArray} {v : Int32} {pc : Nat} {ls : Array Slot} (hx : p.tables.exec = Jvm.exec) (hb : c.code = cc) (hr : meth.sig.returnType = some .int) (hlk : meth.locks = false) {r : Option Value} (hP : va_P D vwCl (wX o q1 q2 cI F G k) H) (hS : va_S A s.heap H locs) (hv : r = some (.int v)) (hdg : decode cc pc = .ok (.ireturn, 1)) : W p l e R s m args below meth c H locs cells slots (MQ below (cQ D o q1 q2 cI A r F G k) args s cells slots A) (F0 m pc ls [.int v]) :=
  W.iret hx hb hr (fun t ht _ => ⟨by rw [hv], by rw [ht]; exact hP, hS.F ht⟩) hS.2.2 hdg hlk
theorem wr_vret {cc : ByteArray} {pc : Nat} {ls : Array Slot} (hx : p.tables.exec = Jvm.exec) (hb : c.code = cc) (hr : meth.sig.returnType = none) (hlk : meth.locks = false) {r : Option Value} (hP : va_P D vwCl (wX o q1 q2 cI F G k) H) (hS : va_S A s.heap H locs) (hv : r = none) (hdg : decode cc pc = .ok (.return_, 1)) : W p l e R s m args below meth c H locs cells slots (MQ below (cQ D o q1 q2 cI A r F G k) args s cells slots A) (F0 m pc ls []) :=
  W.vret hx hb hr (fun t ht _ => ⟨by rw [hv], by rw [ht]; exact hP, hS.F ht⟩) hS.2.2 hdg hlk
end WE
