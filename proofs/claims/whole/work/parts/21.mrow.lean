/-! ===== the reference's cells: the object, its six arrays ===== -/
abbrev mX (mo : Nat) (na : Nat → Nat) (cI cJ : ClassId) (c k : Int) (V : Nat → Nat → Int) : va_W := [(mo, .inr (1, [.int (iZ c), .int (iZ k), .ref (na 0), .ref (na 1), .ref (na 2), .ref (na 3), .ref (na 4), .ref (na 5)])), (na 0, .inl (cI, 4320, .inl (fun j => iZ (V 0 j)))), (na 1, .inl (cJ, 72, .inr (.inl (fun j => lZ (V 1 j))))), (na 2, .inl (cJ, 72, .inr (.inl (fun j => lZ (V 2 j))))), (na 3, .inl (cJ, 72, .inr (.inl (fun j => lZ (V 3 j))))), (na 4, .inl (cJ, 304, .inr (.inl (fun j => lZ (V 4 j))))), (na 5, .inl (cJ, 10, .inr (.inl (fun j => lZ (V 5 j)))))]
abbrev mT (cI cJ : ClassId) : List (ClassId × FieldType) := [(cI, .int), (cJ, .long)]
def sV (V : Nat → Nat → Int) (a : Nat) (g : Nat → Int) : Nat → Nat → Int := fun b => if b = a then g else V b
theorem sV_a {V : Nat → Nat → Int} {a : Nat} {g : Nat → Int} : sV V a g a = g := if_pos rfl
theorem sV_b {V : Nat → Nat → Int} {a b : Nat} {g : Nat → Int} (h : b ≠ a) : sV V a g b = V b := if_neg h
def dM (mo : Nat) (na : Nat → Nat) : Prop := (∀ i, i < 6 → mo ≠ na i) ∧ ∀ i j, i < 6 → j < 6 → na i = na j → i = j
def aM (mo : Nat) (na : Nat → Nat) (sz : Nat) : Nat → Prop := fun q => (q = mo ∨ ∃ i, i < 6 ∧ q = na i) ∨ sz ≤ q
def hM (mo : Nat) (na : Nat → Nat) (A : Nat → Prop) : Prop := A mo ∧ ∀ i, i < 6 → A (na i)
theorem mX_ad {mo : Nat} {na : Nat → Nat} {cI cJ : ClassId} {c k : Int} {V : Nat → Nat → Int} {i : Nat} {q : Nat × va_E} (h : (mX mo na cI cJ c k V)[i]? = some q) : (i = 0 ∧ q.1 = mo) ∨ ∃ j, j < 6 ∧ i = j + 1 ∧ q.1 = na j := by
  match i, h with
  | 0, h => cases h; exact Or.inl ⟨rfl, rfl⟩
  | 1, h => cases h; exact Or.inr ⟨0, by omega, rfl, rfl⟩
  | 2, h => cases h; exact Or.inr ⟨1, by omega, rfl, rfl⟩
  | 3, h => cases h; exact Or.inr ⟨2, by omega, rfl, rfl⟩
  | 4, h => cases h; exact Or.inr ⟨3, by omega, rfl, rfl⟩
  | 5, h => cases h; exact Or.inr ⟨4, by omega, rfl, rfl⟩
  | 6, h => cases h; exact Or.inr ⟨5, by omega, rfl, rfl⟩
  | i + 7, h => simp at h
theorem dM_D {mo : Nat} {na : Nat → Nat} {cI cJ : ClassId} {c k : Int} {V : Nat → Nat → Int} {A : Nat → Prop} (hd : dM mo na) (hA : hM mo na A) : va_D A (mX mo na cI cJ c k V) := by
  refine ⟨fun i j p q hp hq e => ?_, fun i q hq => ?_⟩
  · rcases mX_ad hp with ⟨h1, h2⟩ | ⟨a, h1, h2, h3⟩ <;> rcases mX_ad hq with ⟨g1, g2⟩ | ⟨b, g1, g2, g3⟩
    · omega
    · exact absurd (h2.symm.trans (e.trans g3)) (hd.1 b g1)
    · exact absurd (g2.symm.trans (e.symm.trans h3)) (hd.1 a h1)
    · have := hd.2 a b h1 g1 (h3.symm.trans (e.trans g3))
      omega
  · rcases mX_ad hq with ⟨h1, h2⟩ | ⟨a, h1, h2, h3⟩
    · rw [h2]; exact hA.1
    · rw [h3]; exact hA.2 a h1
def rM (D : va_G) (mo : Nat) (na : Nat → Nat) (cI cJ : ClassId) (c k : Int) (V : Nat → Nat → Int) (U : State) : Prop := va_P D vwCl (mX mo na cI cJ c k V) U.heap ∧ va_K D vwCl (mT cI cJ) U
theorem rM_bl {D : va_G} {mo : Nat} {na : Nat → Nat} {cI cJ : ClassId} {c k : Int} {V : Nat → Nat → Int} : bl_B (rM D mo na cI cJ c k V) := fun U g mk a h => ⟨h.1, va_K.moved (u := U) (U := U.calling g mk a) (Vm.Alike.refl U.vm) h.2⟩
theorem rM_mv {D : va_G} {mo : Nat} {na : Nat → Nat} {cI cJ : ClassId} {c k : Int} {V : Nat → Nat → Int} {s : State} {H : Heap} (hP : va_P D vwCl (mX mo na cI cJ c k V) H) (hK : va_K D vwCl (mT cI cJ) s) : ∀ U : State, U.heap = H → s.WarmedH U.vm → rM D mo na cI cJ c k V U := fun U hU hW => ⟨by rw [hU]; exact hP, va_K.moved hW.alike hK⟩
def mQ (D : va_G) (mo : Nat) (na : Nat → Nat) (cI cJ : ClassId) (A : Nat → Prop) (r : Option Value) (c k : Int) (Rv : (Nat → Nat → Int) → Prop) : Array Value → State → Outcome → State → Prop := fun _ st oc t => oc = .returned r ∧ (∃ V, Rv V ∧ va_P D vwCl (mX mo na cI cJ c k V) t.heap) ∧ va_F A st t
def mB (D : va_G) (mo : Nat) (na : Nat → Nat) (cI cJ : ClassId) (c k : Int) (V : Nat → Nat → Int) (sz : Nat) : State → Prop := fun U => U.heap.size = sz ∧ va_P D vwCl (mX mo na cI cJ c k V) U.heap ∧ va_K D vwCl (mT cI cJ) U
theorem mB_bl {D : va_G} {mo : Nat} {na : Nat → Nat} {cI cJ : ClassId} {c k : Int} {V : Nat → Nat → Int} {sz : Nat} : bl_B (mB D mo na cI cJ c k V sz) := fun U g mk a h => ⟨h.1, h.2.1, va_K.moved (u := U) (U := U.calling g mk a) (Vm.Alike.refl U.vm) h.2.2⟩
/-- a writing method of the reference: the answer, the two numbers, what the arrays hold -/
def wm_M (l : Launch) (y : MethodName) (cc : ByteArray) (mL : Nat) (ret : Option FieldType) (rm : Room) (As : List Value) (D : va_G) (mo : Nat) (na : Nat → Nat) (cI cJ : ClassId) (c k : Int) (V : Nat → Nat → Int) (r : Option Value) (c' k' : Int) (Rv : (Nat → Nat → Int) → Prop) : Prop :=
  ∀ sz : Nat, Met l y (.code y cc mL ret :: TB) rm (va_Pc (.ref mo :: As) (mB D mo na cI cJ c k V sz)) (mQ D mo na cI cJ (aM mo na sz) r c' k' Rv) 0 0 (aM mo na sz)
section WM
variable {p : Program} {l : Launch} {e : Env} {R : Room} {s : State} {m : MethodId} {args : Array Value} {below : List Frame} {meth : Method} {c : Code} {H : Heap} {locs : List Loc} {cells slots : Nat} {Q : State → Prop}
variable {pc : Nat} {ls : Array Slot} {rest st0 st1 : List Value} {a : Array Value} {D : va_G} {mo : Nat} {na : Nat → Nat} {cI cJ : ClassId} {c0 k0 c1 k1 : Int} {V : Nat → Nat → Int} {Rv : (Nat → Nat → Int) → Prop} {A : Nat → Prop} {H0 : Heap}
theorem wm_go {r : Option Value} {A1 : Nat → Prop} (hr : va_Run p l e R s m args below meth c H locs cells slots 0 0 (F0 m pc ls st0) rest (mQ D mo na cI cJ A1 r c1 k1 Rv a) A1) (hS : va_S A H0 H locs) (hA1 : ∀ q, A1 q → A q)
    (kk : ∀ (V1 : Nat → Nat → Int) (H1 : Heap) (locs1 : List Loc), Rv V1 → va_P D vwCl (mX mo na cI cJ c1 k1 V1) H1 → va_S A H0 H1 locs1 → H.size ≤ H1.size → (∀ q : Nat, q < H.size → ¬ A1 q → H1[q]? = H[q]?) → W p l e R s m args below meth c H1 locs1 cells slots Q (F0 m (pc + 3) ls (r.toList ++ rest))) : W p l e R s m args below meth c H locs cells slots Q (F0 m pc ls st0) := by
  intro T hT X
  obtain ⟨v, st₀, t, T', L, h0, X', hL, e1, e2, ⟨hv, ⟨V1, hR, hp⟩, hz, hk⟩, st⟩ := hr T hT X
  cases hv
  rw [h0] at hz hk
  obtain ⟨t2, a1, b1⟩ := kk V1 T'.heap (locs ++ L) hR (by rw [e1]; exact hp)
    ⟨Nat.le_trans hS.1 (by rw [e1]; exact hz), fun q h1 h2 => by rw [e1, hk q (Nat.lt_of_lt_of_le h1 hS.1) (fun z => h2 (hA1 q z))]; exact hS.2.1 q h1 h2, fun q hq => by
      rcases List.mem_append.mp hq with h | h
      · exact hS.2.2 q h
      · exact hA1 _ (hL q h)⟩ (by rw [e1]; exact hz) (fun q h1 h2 => by rw [e1]; exact hk q h1 h2) T' rfl X'
  exact ⟨t2, st t2 a1, b1⟩
variable {y : MethodName} {cc cy : ByteArray} {nL mL i n : Nat} {ret : Option FieldType} {rm : Room} {own : String} {As : List Value} {r : Option Value}
theorem wm_V (S : CallFix p m c cc nL s args TB own) (hMt : wm_M l y cy mL ret rm As D mo na cI cJ c0 k0 V r c1 k1 Rv) (h1 : Cond.methodLink own i y ∈ TB) (h2 : Cond.instanceMethod y ∈ TB) (h3 : Cond.selects RX1 y y ∈ TB) (h4 : Cond.initialized RX1 ∈ TB) (hc : Cond.code y cy mL ret ∈ TB)
    (hd : y.cls = RX1 ∧ y.cls ≠ "java/lang/invoke/MethodHandle" ∧ y.cls ≠ "java/lang/invoke/VarHandle" ∧ (parseMethodDescriptor y.desc).map (fun d => d.parameters.length) = some n) (hrm : rm.cells = 0 ∧ rm.slots = 0 ∧ rm.frames + 1 ≤ R.frames ∧ 8 + (mL + 11) + rm.locals ≤ R.locals)
    (hP : va_P D vwCl (mX mo na cI cJ c0 k0 V) H) (hK : va_K D vwCl (mT cI cJ) s) (hS : va_S A s.heap H locs) (hA : hM mo na A) (hAn : ∀ q, s.heap.size ≤ q → A q)
    (hn : As.length = n) (hnL : ls.size = nL) (hst : st0 = As.reverse ++ .ref mo :: rest) (hw : (rest.map fun v => v.category).sum ≤ 8) (hdg : decode cc pc = .ok (.invokevirtual i, 3)) (hcs : cells ≤ R.cells ∧ slots ≤ R.slots) (hs1 : r.toList ++ rest = st1)
    (kk : ∀ (V1 : Nat → Nat → Int) (H1 : Heap) (locs1 : List Loc), Rv V1 → va_P D vwCl (mX mo na cI cJ c1 k1 V1) H1 → va_S A s.heap H1 locs1 → H.size ≤ H1.size → (∀ q : Nat, q < H.size → ¬ aM mo na H.size q → H1[q]? = H[q]?) → W p l e R s m args below meth c H1 locs1 cells slots Q (F0 m (pc + 3) ls st1)) : W p l e R s m args below meth c H locs cells slots Q (F0 m pc ls st0) := by
  have hsub : ∀ q, aM mo na H.size q → A q := fun q hq => by
    rcases hq with (h | ⟨j, h, h9⟩) | h
    · rw [h]; exact hA.1
    · rw [h9]; exact hA.2 j h
    · exact hAn q (Nat.le_trans hS.1 h)
  refine wm_go (va_runV S (hMt H.size) (cwV n S.2.2.2.2 (gd_V h1 h2 h3 h4 hc) rfl hrm.1 hrm.2.1 hd hrm.2.2) ⟨fun a U g mk q => ⟨q.1, mB_bl U g mk a q.2⟩, va_recv hK hP (ci := 1) (q0 := 0) rfl rfl, fun U hU hW => ⟨rfl, by rw [hU], by rw [hU]; exact hP, va_K.moved hW.alike hK⟩⟩ rfl hn hnL hst (lv_room (m := m) (pc := pc) (ls := ls) (rest := st0) hw) hdg hcs) hS hsub (fun V1 H1 locs1 a0 a1 a2 a3 a4 => ?_)
  rw [hs1]
  exact kk V1 H1 locs1 a0 a1 a2 a3 a4
theorem lZ_upd {F : Nat → Int} {i x : Int} (h : 0 ≤ i ∧ i ≤ 2147483647) : vp_updL (fun j => lZ (F j)) (iZ i).toNatClampNeg (lZ x) = fun j => lZ (uZ F i.toNat x j) := by
  funext j
  rw [iZ_cl h.1 h.2]
  unfold uZ
  by_cases hj : j = i.toNat
  · subst hj
    rw [pk_uLs, if_pos rfl]
  · rw [pk_uLn hj, if_neg hj]
/-- an element of a long array written -/
theorem mm_l (hx : p.tables.exec = Jvm.exec) (hb : c.code = cc) (hK : va_K D vwCl (mT cI cJ) s) (hP : va_P D vwCl (mX mo na cI cJ c0 k0 V) H) (hd : dM mo na) (hA : hM mo na A) (hS : va_S A H0 H locs) (b ln : Nat) (ha : (mX mo na cI cJ c0 k0 V)[b + 1]? = some (na b, .inl (cJ, ln, .inr (.inl (fun j => lZ (V b j)))))) (hset : ∀ g : Nat → Int, (mX mo na cI cJ c0 k0 V).set (b + 1) (na b, .inl (cJ, ln, .inr (.inl (fun j => lZ (g j))))) = mX mo na cI cJ c0 k0 (sV V b g)) {z x : Int} (hi : 0 ≤ z ∧ z < ln ∧ ln < 1000) (hdg : decode cc pc = .ok (.lastore, 1))
    (kk : ∀ (H1 : Heap) (locs1 : List Loc), va_P D vwCl (mX mo na cI cJ c0 k0 (sV V b (uZ (V b) z.toNat x))) H1 → va_S A H0 H1 locs1 → W p l e R s m args below meth c H1 locs1 cells slots Q (F0 m (pc + 1) ls rest)) : W p l e R s m args below meth c H locs cells slots Q (F0 m pc ls (.long (lZ x) :: .int (iZ z) :: .ref (na b) :: rest)) := by
  refine va_last hx hb hK hP (dM_D hd hA) hS (b + 1) 1 ha rfl (iZ_in hi.1 (by omega) (by omega)) hdg (fun H1 locs1 hP hD hS => kk H1 locs1 ?_ hS)
  rw [lZ_upd (by omega), hset] at hP
  exact hP
/-- an element of numbers written -/
theorem mm_i (hx : p.tables.exec = Jvm.exec) (hb : c.code = cc) (hK : va_K D vwCl (mT cI cJ) s) (hP : va_P D vwCl (mX mo na cI cJ c0 k0 V) H) (hd : dM mo na) (hA : hM mo na A) (hS : va_S A H0 H locs) {z x : Int} (hi : 0 ≤ z ∧ z < 4320) (hdg : decode cc pc = .ok (.iastore, 1))
    (kk : ∀ (H1 : Heap) (locs1 : List Loc), va_P D vwCl (mX mo na cI cJ c0 k0 (sV V 0 (uZ (V 0) z.toNat x))) H1 → va_S A H0 H1 locs1 → W p l e R s m args below meth c H1 locs1 cells slots Q (F0 m (pc + 1) ls rest)) : W p l e R s m args below meth c H locs cells slots Q (F0 m pc ls (.int (iZ x) :: .int (iZ z) :: .ref (na 0) :: rest)) := by
  refine va_iast hx hb hK hP (dM_D hd hA) hS 1 0 rfl rfl (iZ_in hi.1 (by omega) (by decide)) hdg (fun H1 locs1 hP hD hS => kk H1 locs1 ?_ hS)
  rw [uZ_upd (by omega)] at hP
  exact hP
/-- a loop over the reference's cells -/
theorem lp_goM {head nL : Nat} {α : Type} (lv : α → List (Nat × Value)) (wc wk : α → Int) (wV : α → Nat → Nat → Int) (I : Nat → α → Prop)
    (step : ∀ (n : Nat) (a : α), I n a → (∀ (k : Nat) (b : α), k < n → I k b → ∀ (H : Heap) (locs : List Loc), va_P D vwCl (mX mo na cI cJ (wc b) (wk b) (wV b)) H → va_S A H0 H locs → ∀ ls : Array Slot, lv_has ls nL (lv b) → W p l e R s m args below meth c H locs cells slots Q (F0 m head ls [])) → ∀ (H : Heap) (locs : List Loc), va_P D vwCl (mX mo na cI cJ (wc a) (wk a) (wV a)) H → va_S A H0 H locs → ∀ ls : Array Slot, lv_has ls nL (lv a) → W p l e R s m args below meth c H locs cells slots Q (F0 m head ls [])) :
    ∀ (n : Nat) (a : α), I n a → ∀ (H : Heap) (locs : List Loc), va_P D vwCl (mX mo na cI cJ (wc a) (wk a) (wV a)) H → va_S A H0 H locs → ∀ ls : Array Slot, lv_has ls nL (lv a) → W p l e R s m args below meth c H locs cells slots Q (F0 m head ls []) := by
  intro n
  induction n using Nat.strongRecOn with
  | _ n ih => exact fun a ha H locs hP hS ls hl => step n a ha (fun k b hk hb => ih k hk b hb) H locs hP hS ls hl
end WM
theorem wm_of {l : Launch} {y : MethodName} {cc : ByteArray} {mL : Nat} {ret : Option FieldType} {rm : Room} {As : List Value} {D : va_G} {mo : Nat} {na : Nat → Nat} {cI cJ : ClassId} {c0 k0 c1 k1 : Int} {V : Nat → Nat → Int} {Rv : (Nat → Nat → Int) → Prop} {r : Option Value} (hy : plainName y.cls = true) (ho : y.cls = RX1) (hL : (lg_sl (.ref mo :: As)).length ≤ mL)
    (body : ∀ (p : Program) (e : Env) (s : State) (m : MethodId) (below : List Frame) (meth : Method) (c : Code) (A : Nat → Prop), A = aM mo na s.heap.size → CallFix p m c cc mL s (Value.ref mo :: As).toArray TB RX1 → meth.sig.returnType = ret → meth.locks = false → va_P D vwCl (mX mo na cI cJ c0 k0 V) s.heap → va_K D vwCl (mT cI cJ) s → hM mo na A → (∀ q, s.heap.size ≤ q → A q) → va_S A s.heap s.heap [] → ∀ ls : Array Slot, lv_has ls mL (lv_args 0 (.ref mo :: As)) →
      W p l e rm s m (Value.ref mo :: As).toArray below meth c s.heap [] 0 0 (MQ below (mQ D mo na cI cJ A r c1 k1 Rv) (Value.ref mo :: As).toArray s 0 0 A) (F0 m 0 ls [])) : wm_M l y cc mL ret rm As D mo na cI cJ c0 k0 V r c1 k1 Rv := by
  intro sz
  refine Met.ofW (cc := cc) (maxL := mL) (ret := ret) hy rfl ?_
  intro p e s m args below meth c s₁ B hml hv
  obtain ⟨rfl, hsz, hP, hK⟩ := hv
  subst hsz
  have hts := atoms_spec (ws := .code y cc mL ret :: TB) B.pre
  have hl := lv_entry (.ref mo :: As) (n := mL) hL
  rw [lg_entry_eq]
  exact body p e s m below meth c _ rfl ⟨B.exec, B.bytes, hml, ho ▸ findClass_of_methodNamed B.named, fun w hw => hts w (List.mem_cons_of_mem _ hw)⟩ B.returns B.notSynchronized hP hK ⟨Or.inl (Or.inl rfl), fun i hi => Or.inl (Or.inr ⟨i, hi, rfl⟩)⟩ (fun q h => Or.inr h) va_S.rf _ hl
section WF
variable {p : Program} {l : Launch} {e : Env} {R : Room} {s : State} {m : MethodId} {args : Array Value} {below : List Frame} {meth : Method} {c : Code} {H : Heap} {locs : List Loc} {cells slots : Nat} {D : va_G} {mo : Nat} {na : Nat → Nat} {cI cJ : ClassId} {c0 k0 c1 k1 : Int} {V : Nat → Nat → Int} {Rv : (Nat → Nat → Int) → Prop} {A : Nat → Prop} {r : Option Value} {cc : ByteArray} {pc : Nat} {ls : Array Slot}
theorem wm_iret {v : Int32} (hx : p.tables.exec = Jvm.exec) (hb : c.code = cc) (hr : meth.sig.returnType = some .int) (hlk : meth.locks = false) (hP : va_P D vwCl (mX mo na cI cJ c0 k0 V) H) (hR : Rv V) (hc : c0 = c1) (hk : k0 = k1) (hS : va_S A s.heap H locs) (hv : r = some (.int v)) (hdg : decode cc pc = .ok (.ireturn, 1)) : W p l e R s m args below meth c H locs cells slots (MQ below (mQ D mo na cI cJ A r c1 k1 Rv) args s cells slots A) (F0 m pc ls [.int v]) := by
  subst hc; subst hk
  exact W.iret hx hb hr (fun t ht _ => ⟨by rw [hv], ⟨V, hR, by rw [ht]; exact hP⟩, hS.F ht⟩) hS.2.2 hdg hlk
theorem wm_zret {v : Int32} (hx : p.tables.exec = Jvm.exec) (hb : c.code = cc) (hr : meth.sig.returnType = some .boolean) (hlk : meth.locks = false) (hP : va_P D vwCl (mX mo na cI cJ c0 k0 V) H) (hR : Rv V) (hc : c0 = c1) (hk : k0 = k1) (hS : va_S A s.heap H locs) (hv : r = some (.int v)) (hn : narrow .boolean (.int v) = .int v) (hdg : decode cc pc = .ok (.ireturn, 1)) : W p l e R s m args below meth c H locs cells slots (MQ below (mQ D mo na cI cJ A r c1 k1 Rv) args s cells slots A) (F0 m pc ls [.int v]) := by
  subst hc; subst hk
  exact W.zret hx hb hr hn (fun t ht _ => ⟨by rw [hv], ⟨V, hR, by rw [ht]; exact hP⟩, hS.F ht⟩) hS.2.2 hdg hlk
theorem wm_lret {v : Int64} (hx : p.tables.exec = Jvm.exec) (hb : c.code = cc) (hr : meth.sig.returnType = some .long) (hlk : meth.locks = false) (hP : va_P D vwCl (mX mo na cI cJ c0 k0 V) H) (hR : Rv V) (hc : c0 = c1) (hk : k0 = k1) (hS : va_S A s.heap H locs) (hv : r = some (.long v)) (hdg : decode cc pc = .ok (.lreturn, 1)) : W p l e R s m args below meth c H locs cells slots (MQ below (mQ D mo na cI cJ A r c1 k1 Rv) args s cells slots A) (F0 m pc ls [.long v]) := by
  subst hc; subst hk
  exact W.lret hx hb hr (fun t ht _ => ⟨by rw [hv], ⟨V, hR, by rw [ht]; exact hP⟩, hS.F ht⟩) hS.2.2 hdg hlk
theorem wm_vret (hx : p.tables.exec = Jvm.exec) (hb : c.code = cc) (hr : meth.sig.returnType = none) (hlk : meth.locks = false) (hP : va_P D vwCl (mX mo na cI cJ c0 k0 V) H) (hR : Rv V) (hc : c0 = c1) (hk : k0 = k1) (hS : va_S A s.heap H locs) (hv : r = none) (hdg : decode cc pc = .ok (.return_, 1)) : W p l e R s m args below meth c H locs cells slots (MQ below (mQ D mo na cI cJ A r c1 k1 Rv) args s cells slots A) (F0 m pc ls []) := by
  subst hc; subst hk
  exact W.vret hx hb hr (fun t ht _ => ⟨by rw [hv], ⟨V, hR, by rw [ht]; exact hP⟩, hS.F ht⟩) hS.2.2 hdg hlk
end WF
/-- a row filled one further -/
theorem st_lt {g P : Nat → Int} {i x : Int} (h : ∀ j : Nat, (j : Int) < i → g j = P j) (hi : 0 ≤ i) (hx : x = P i.toNat) : ∀ j : Nat, (j : Int) < i + 1 → uZ g i.toNat x j = P j := by
  intro j hj
  unfold uZ
  by_cases h2 : j = i.toNat
  · rw [if_pos h2, h2, hx]
  · rw [if_neg h2]
    exact h j (by omega)
