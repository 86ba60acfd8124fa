/-! THE CLAIM OUT OF ONE WALK OF THE LAW'S BODY. Your part is whole_start (and what it stands on); all else here is the same for every law, but numbers. -/
def R_law : String := "TowerIntegralsLaw"
def lw_P (b : Addr) (xs : List Int32) (args : Array Value) (s : State) : Prop := args = #[.ref b] ∧ s.IntsAt b xs ∧ xs.length ≤ 4096 ∧ (Jvm.Cond.and given_1 narrow_1).before args s = true
def lw_Q (_ : Array Value) (s : State) (o : Outcome) (t : State) : Prop := o = .returned (some (.int 1)) ∧ Framed s o t [] 1043 17677
def lw_Z (below : List Frame) (a : Array Value) (s : State) : State → Prop := fun t => ∃ o, t.status = .running ∧ Ended t below o ∧ lw_Q a s o t
/-- the law's own end, with 1 on the stack, nothing written that was there before, its room as the claim has it -/
theorem lw_ret {p : Program} {l : Launch} {e : Env} {s : State} {m : MethodId} {below : List Frame} {meth : Method} {c : Code} {b : Nat} (hx : p.tables.exec = Jvm.exec) (hb : c.code = code) (hr : meth.sig.returnType = ret) (hlocks : meth.locks = false) {pc : Nat} {H : Heap} {ls : Array Slot} (hdg : decode code pc = .ok (.ireturn, 1)) : W p l e room_1 s m #[Value.ref b] below meth c H [] 1043 17677 (lw_Z below #[Value.ref b] s) (F0 m pc ls [.int 1]) := by
  intro T hT X
  obtain ⟨fs, hret, hrun, hended, hW, hframe⟩ := X.leave (v := some (.int 1)) (hlocks := hlocks) (fun h => by rw [hr] at h; cases h)
  have hmeth' : T.vm.method? m = some meth := X.method'
  refine ⟨T.setFrames fs, ?_, .returned (some (.int 1)), hrun, hended, rfl, ⟨_, rfl⟩, hW, hframe⟩
  jvm_step X.here [X.here.top, hx, hb, hdg, hmeth', hr, ret, narrow_b1]
  (try refine ⟨rfl, ?_⟩); (try refine ⟨rfl, ?_⟩)
  first | (intro acts; rw [hret _ acts rfl rfl rfl]) | rw [hret _ _ rfl rfl rfl]
  exact Steps.refl _
/-- what holds at the law's entry: the machine, the code, the tables' words (any of lw_tbl by 'hts w (by decide +kernel)'), the script of L ints xs at the cell b, what the Statement gives of the start (any of its parts by flat_of_before) -/
def lw_At (p : Program) (s : State) (m : MethodId) (meth : Method) (c : Code) (b L : Nat) (xs : Nat → Int32) : Prop :=
  p.tables.exec = Jvm.exec ∧ c.code = code ∧ meth.sig.returnType = ret ∧ c.maxLocals = 7 ∧ s.vm.findClass R_law = some m.cls ∧ (∀ w ∈ lw_tbl, w.before #[Value.ref b] s = true) ∧ va_X b L xs s s.heap ∧ b < s.heap.size ∧ meth.locks = false ∧ (Jvm.Cond.and given_1 narrow_1).before #[Value.ref b] s = true
theorem st_E {args : Array Value} {s : State} {A : Nat → Prop} (hgv : (Jvm.Cond.and given_1 narrow_1).before args s = true) (hts : ∀ w ∈ lw_tbl, w.before args s = true) (hA : ∀ a : Nat, a < s.heap.size → ¬ A a) : ∃ t : Nat, va_Z RX0 "E_POWER" "[I" (.ref t) A s s.heap ∧ va_T .int t 8 eP A s s.heap := by
  have hs := flat_of_before _ hgv
  have hel : ∀ j : Nat, j < 8 → (Term.elem (.static "TowerIntegrals" "E_POWER" "[I") (.int (Int32.ofNat j))).eval args s none [] s = some (eP j) := by
    intro j hj
    rcases (show j = 0 ∨ j = 1 ∨ j = 2 ∨ j = 3 ∨ j = 4 ∨ j = 5 ∨ j = 6 ∨ j = 7 by omega) with rfl | rfl | rfl | rfl | rfl | rfl | rfl | rfl
    · exact (va_eqt (hs (Cond.eq (.elem (.static "TowerIntegrals" "E_POWER" "[I") (.int (0 : Int32))) (.int (0 : Int32))) (by decide +kernel))).trans (congrArg (fun z => some (Value.int z)) (show (0 : Int32) = iZ (ePz ((0 : Nat) : Int)) by decide))
    · exact (va_eqt (hs (Cond.eq (.elem (.static "TowerIntegrals" "E_POWER" "[I") (.int (1 : Int32))) (.int (0 : Int32))) (by decide +kernel))).trans (congrArg (fun z => some (Value.int z)) (show (0 : Int32) = iZ (ePz ((1 : Nat) : Int)) by decide))
    · exact (va_eqt (hs (Cond.eq (.elem (.static "TowerIntegrals" "E_POWER" "[I") (.int (2 : Int32))) (.int (0 : Int32))) (by decide +kernel))).trans (congrArg (fun z => some (Value.int z)) (show (0 : Int32) = iZ (ePz ((2 : Nat) : Int)) by decide))
    · exact (va_eqt (hs (Cond.eq (.elem (.static "TowerIntegrals" "E_POWER" "[I") (.int (3 : Int32))) (.int (0 : Int32))) (by decide +kernel))).trans (congrArg (fun z => some (Value.int z)) (show (0 : Int32) = iZ (ePz ((3 : Nat) : Int)) by decide))
    · exact (va_eqt (hs (Cond.eq (.elem (.static "TowerIntegrals" "E_POWER" "[I") (.int (4 : Int32))) (.int (-2 : Int32))) (by decide +kernel))).trans (congrArg (fun z => some (Value.int z)) (show (-2 : Int32) = iZ (ePz ((4 : Nat) : Int)) by decide))
    · exact (va_eqt (hs (Cond.eq (.elem (.static "TowerIntegrals" "E_POWER" "[I") (.int (5 : Int32))) (.int (-1 : Int32))) (by decide +kernel))).trans (congrArg (fun z => some (Value.int z)) (show (-1 : Int32) = iZ (ePz ((5 : Nat) : Int)) by decide))
    · exact (va_eqt (hs (Cond.eq (.elem (.static "TowerIntegrals" "E_POWER" "[I") (.int (6 : Int32))) (.int (1 : Int32))) (by decide +kernel))).trans (congrArg (fun z => some (Value.int z)) (show (1 : Int32) = iZ (ePz ((6 : Nat) : Int)) by decide))
    · exact (va_eqt (hs (Cond.eq (.elem (.static "TowerIntegrals" "E_POWER" "[I") (.int (7 : Int32))) (.int (2 : Int32))) (by decide +kernel))).trans (congrArg (fun z => some (Value.int z)) (show (2 : Int32) = iZ (ePz ((7 : Nat) : Int)) by decide))
  obtain ⟨t, h1, h2⟩ := va_Tof (tm := (.static "TowerIntegrals" "E_POWER" "[I")) (ty := .int) (N := 8) (f := eP) (A := A) (by decide) (hs (Cond.arrayOf (.static "TowerIntegrals" "E_POWER" "[I") .int) (by decide +kernel)) (va_eqt (hs (Cond.eq (.length (.static "TowerIntegrals" "E_POWER" "[I")) (.int (8 : Int32))) (by decide +kernel))) hel hA
  exact ⟨t, va_Zof (hts _ (List.mem_append_right _ tq_243)) (hts _ (List.mem_filter.mp tb_1).1) h1 hA, h2⟩
theorem st_L {args : Array Value} {s : State} {A : Nat → Prop} (hgv : (Jvm.Cond.and given_1 narrow_1).before args s = true) (hts : ∀ w ∈ lw_tbl, w.before args s = true) (hA : ∀ a : Nat, a < s.heap.size → ¬ A a) : ∃ t : Nat, va_Z RX0 "L_POWER" "[I" (.ref t) A s s.heap ∧ va_T .int t 8 lP A s s.heap := by
  have hs := flat_of_before _ hgv
  have hel : ∀ j : Nat, j < 8 → (Term.elem (.static "TowerIntegrals" "L_POWER" "[I") (.int (Int32.ofNat j))).eval args s none [] s = some (lP j) := by
    intro j hj
    rcases (show j = 0 ∨ j = 1 ∨ j = 2 ∨ j = 3 ∨ j = 4 ∨ j = 5 ∨ j = 6 ∨ j = 7 by omega) with rfl | rfl | rfl | rfl | rfl | rfl | rfl | rfl
    · exact (va_eqt (hs (Cond.eq (.elem (.static "TowerIntegrals" "L_POWER" "[I") (.int (0 : Int32))) (.int (0 : Int32))) (by decide +kernel))).trans (congrArg (fun z => some (Value.int z)) (show (0 : Int32) = iZ (lPz ((0 : Nat) : Int)) by decide))
    · exact (va_eqt (hs (Cond.eq (.elem (.static "TowerIntegrals" "L_POWER" "[I") (.int (1 : Int32))) (.int (1 : Int32))) (by decide +kernel))).trans (congrArg (fun z => some (Value.int z)) (show (1 : Int32) = iZ (lPz ((1 : Nat) : Int)) by decide))
    · exact (va_eqt (hs (Cond.eq (.elem (.static "TowerIntegrals" "L_POWER" "[I") (.int (2 : Int32))) (.int (2 : Int32))) (by decide +kernel))).trans (congrArg (fun z => some (Value.int z)) (show (2 : Int32) = iZ (lPz ((2 : Nat) : Int)) by decide))
    · exact (va_eqt (hs (Cond.eq (.elem (.static "TowerIntegrals" "L_POWER" "[I") (.int (3 : Int32))) (.int (3 : Int32))) (by decide +kernel))).trans (congrArg (fun z => some (Value.int z)) (show (3 : Int32) = iZ (lPz ((3 : Nat) : Int)) by decide))
    · exact (va_eqt (hs (Cond.eq (.elem (.static "TowerIntegrals" "L_POWER" "[I") (.int (4 : Int32))) (.int (0 : Int32))) (by decide +kernel))).trans (congrArg (fun z => some (Value.int z)) (show (0 : Int32) = iZ (lPz ((4 : Nat) : Int)) by decide))
    · exact (va_eqt (hs (Cond.eq (.elem (.static "TowerIntegrals" "L_POWER" "[I") (.int (5 : Int32))) (.int (0 : Int32))) (by decide +kernel))).trans (congrArg (fun z => some (Value.int z)) (show (0 : Int32) = iZ (lPz ((5 : Nat) : Int)) by decide))
    · exact (va_eqt (hs (Cond.eq (.elem (.static "TowerIntegrals" "L_POWER" "[I") (.int (6 : Int32))) (.int (0 : Int32))) (by decide +kernel))).trans (congrArg (fun z => some (Value.int z)) (show (0 : Int32) = iZ (lPz ((6 : Nat) : Int)) by decide))
    · exact (va_eqt (hs (Cond.eq (.elem (.static "TowerIntegrals" "L_POWER" "[I") (.int (7 : Int32))) (.int (0 : Int32))) (by decide +kernel))).trans (congrArg (fun z => some (Value.int z)) (show (0 : Int32) = iZ (lPz ((7 : Nat) : Int)) by decide))
  obtain ⟨t, h1, h2⟩ := va_Tof (tm := (.static "TowerIntegrals" "L_POWER" "[I")) (ty := .int) (N := 8) (f := lP) (A := A) (by decide) (hs (Cond.arrayOf (.static "TowerIntegrals" "L_POWER" "[I") .int) (by decide +kernel)) (va_eqt (hs (Cond.eq (.length (.static "TowerIntegrals" "L_POWER" "[I")) (.int (8 : Int32))) (by decide +kernel))) hel hA
  exact ⟨t, va_Zof (hts _ (List.mem_append_right _ tq_248)) (hts _ (List.mem_filter.mp tb_1).1) h1 hA, h2⟩
theorem st_str {args : Array Value} {s : State} {n : Nat} {tx : String} (h1 : (Cond.stringRef RX0 n tx).before args s = true) (h2 : (Cond.exactly (.string "TowerIntegrals" n) "java/lang/String").before args s = true) : ∃ sa : Nat, vk_R RX0 n tx sa s := by
  obtain ⟨a, -, -, -, ha, -⟩ := Cond.exactly_spec h2
  exact ⟨a, vk_R.of h1 ha⟩
theorem st_tX {args : Array Value} {s : State} {A : Nat → Prop} (hgv : (Jvm.Cond.and given_1 narrow_1).before args s = true) (hts : ∀ w ∈ lw_tbl, w.before args s = true) (hA : ∀ a : Nat, a < s.heap.size → ¬ A a) : tX A s s.heap := by
  have hs := flat_of_before _ hgv
  refine ⟨⟨vx_Zqof (hts _ (List.mem_append_right _ tq_75)) (hts _ (List.mem_filter.mp tb_3).1) (hs _ (by decide +kernel)) hA, vx_Zqof (hts _ (List.mem_append_right _ tq_77)) (hts _ (List.mem_filter.mp tb_3).1) (hs _ (by decide +kernel)) hA⟩, ⟨xcS.of (hts _ (List.mem_append_right _ tq_50)), xcS.of (hts _ (List.mem_append_right _ tq_129)), xcS.of (hts _ (List.mem_append_right _ tq_179))⟩, ⟨va_Nw.of rfl (hts _ (List.mem_append_right _ tq_52)), va_Nw.of rfl (hts _ (List.mem_append_right _ tq_54)), va_Nw.of rfl (hts _ (List.mem_append_right _ tq_56))⟩, ?_⟩
  intro q hq
  simp only [txS, List.mem_cons, List.not_mem_nil, or_false] at hq
  rcases hq with rfl | rfl | rfl | rfl | rfl | rfl | rfl | rfl
  · exact st_str (hts _ (List.mem_append_right _ tq_89)) (hs _ (by decide +kernel))
  · exact st_str (hts _ (List.mem_append_right _ tq_122)) (hs _ (by decide +kernel))
  · exact st_str (hts _ (List.mem_append_right _ tq_136)) (hs _ (by decide +kernel))
  · exact st_str (hts _ (List.mem_append_right _ tq_186)) (hs _ (by decide +kernel))
  · exact st_str (hts _ (List.mem_append_right _ tq_223)) (hs _ (by decide +kernel))
  · exact st_str (hts _ (List.mem_append_right _ tq_270)) (hs _ (by decide +kernel))
  · exact st_str (hts _ (List.mem_append_right _ tq_290)) (hs _ (by decide +kernel))
  · exact st_str (hts _ (List.mem_append_right _ tq_326)) (hs _ (by decide +kernel))
theorem st_nC {args : Array Value} {s : State} (hgv : (Jvm.Cond.and given_1 narrow_1).before args s = true) : nC s := by
  have hs := flat_of_before _ hgv
  exact ⟨va_Nc.of (hs (Cond.not (.castable "java/lang/IllegalStateException" "java/lang/IllegalArgumentException")) (by decide +kernel)), va_Nc.of (hs (Cond.not (.castable "java/lang/IllegalStateException" "java/lang/IndexOutOfBoundsException")) (by decide +kernel)), va_Nc.of (hs (Cond.not (.castable "java/lang/IllegalArgumentException" "java/lang/IndexOutOfBoundsException")) (by decide +kernel))⟩
theorem mX_at {mo : Nat} {na : Nat → Nat} {cI cJ : ClassId} {c k : Int} {V : Nat → Nat → Int} {i : Nat} (h : i < 6) : ∃ e : va_E, (mX mo na cI cJ c k V)[i + 1]? = some (na i, e) := by
  rcases (show i = 0 ∨ i = 1 ∨ i = 2 ∨ i = 3 ∨ i = 4 ∨ i = 5 by omega) with rfl | rfl | rfl | rfl | rfl | rfl <;> exact ⟨_, rfl⟩
theorem D_dM {A : Nat → Prop} {mo : Nat} {na : Nat → Nat} {cI cJ : ClassId} {c k : Int} {V : Nat → Nat → Int} (hD : va_D A (mX mo na cI cJ c k V)) : dM mo na ∧ hM mo na A := by
  refine ⟨⟨fun i hi e => ?_, fun i j hi hj e => ?_⟩, hD.2 0 _ rfl, fun i hi => ?_⟩
  · obtain ⟨x, hx⟩ := mX_at (mo := mo) (na := na) (cI := cI) (cJ := cJ) (c := c) (k := k) (V := V) hi
    have := hD.1 0 (i + 1) _ _ rfl hx e
    omega
  · obtain ⟨x, hx⟩ := mX_at (mo := mo) (na := na) (cI := cI) (cJ := cJ) (c := c) (k := k) (V := V) hi
    obtain ⟨y, hy⟩ := mX_at (mo := mo) (na := na) (cI := cI) (cJ := cJ) (c := c) (k := k) (V := V) hj
    have := hD.1 (i + 1) (j + 1) _ _ hx hy e
    omega
  · obtain ⟨x, hx⟩ := mX_at (mo := mo) (na := na) (cI := cI) (cJ := cJ) (c := c) (k := k) (V := V) hi
    exact hD.2 (i + 1) _ hx
/-- the class's cells, the reference's, out, all apart -/
theorem D_all {A : Nat → Prop} {o q1 q2 : Nat} {cI cJ : ClassId} {F G : Nat → Int} {k : Int} {bo : Nat} {w : Nat → Int} {mo : Nat} {na : Nat → Nat} {c0 k0 : Int} {V : Nat → Nat → Int} (hD : va_D A ((wX o q1 q2 cI F G k ++ mX mo na cI cJ c0 k0 V) ++ [oX bo cJ w])) : (A o ∧ A q1 ∧ A q2 ∧ A bo) ∧ hM mo na A ∧ dL o q1 q2 bo ∧ dM mo na ∧ xA o q1 q2 bo mo na := by
  have hm := D_dM (hD.sub (ws' := mX mo na cI cJ c0 k0 V) [3, 4, 5, 6, 7, 8, 9] (by decide) rfl)
  have ne : ∀ {i j : Nat} {p q : Nat × va_E}, ((wX o q1 q2 cI F G k ++ mX mo na cI cJ c0 k0 V) ++ [oX bo cJ w])[i]? = some p → ((wX o q1 q2 cI F G k ++ mX mo na cI cJ c0 k0 V) ++ [oX bo cJ w])[j]? = some q → i ≠ j → p.1 ≠ q.1 := fun h1 h2 h3 e => h3 (hD.1 _ _ _ _ h1 h2 e)
  refine ⟨⟨hD.2 0 _ rfl, hD.2 1 _ rfl, hD.2 2 _ rfl, hD.2 10 _ rfl⟩, hm.2, ⟨⟨ne (i := 0) (j := 1) rfl rfl (by decide), ne (i := 0) (j := 2) rfl rfl (by decide), ne (i := 1) (j := 2) rfl rfl (by decide)⟩, ne (i := 0) (j := 10) rfl rfl (by decide), ne (i := 1) (j := 10) rfl rfl (by decide), ne (i := 2) (j := 10) rfl rfl (by decide)⟩, hm.1, ⟨⟨ne (i := 3) (j := 0) rfl rfl (by decide), ne (i := 3) (j := 1) rfl rfl (by decide), ne (i := 3) (j := 2) rfl rfl (by decide), ne (i := 3) (j := 10) rfl rfl (by decide)⟩, fun i hi => ?_⟩⟩
  rcases (show i = 0 ∨ i = 1 ∨ i = 2 ∨ i = 3 ∨ i = 4 ∨ i = 5 by omega) with rfl | rfl | rfl | rfl | rfl | rfl
  · exact ⟨ne (i := 4) (j := 0) rfl rfl (by decide), ne (i := 4) (j := 1) rfl rfl (by decide), ne (i := 4) (j := 2) rfl rfl (by decide), ne (i := 4) (j := 10) rfl rfl (by decide)⟩
  · exact ⟨ne (i := 5) (j := 0) rfl rfl (by decide), ne (i := 5) (j := 1) rfl rfl (by decide), ne (i := 5) (j := 2) rfl rfl (by decide), ne (i := 5) (j := 10) rfl rfl (by decide)⟩
  · exact ⟨ne (i := 6) (j := 0) rfl rfl (by decide), ne (i := 6) (j := 1) rfl rfl (by decide), ne (i := 6) (j := 2) rfl rfl (by decide), ne (i := 6) (j := 10) rfl rfl (by decide)⟩
  · exact ⟨ne (i := 7) (j := 0) rfl rfl (by decide), ne (i := 7) (j := 1) rfl rfl (by decide), ne (i := 7) (j := 2) rfl rfl (by decide), ne (i := 7) (j := 10) rfl rfl (by decide)⟩
  · exact ⟨ne (i := 8) (j := 0) rfl rfl (by decide), ne (i := 8) (j := 1) rfl rfl (by decide), ne (i := 8) (j := 2) rfl rfl (by decide), ne (i := 8) (j := 10) rfl rfl (by decide)⟩
  · exact ⟨ne (i := 9) (j := 0) rfl rfl (by decide), ne (i := 9) (j := 1) rfl rfl (by decide), ne (i := 9) (j := 2) rfl rfl (by decide), ne (i := 9) (j := 10) rfl rfl (by decide)⟩
set_option maxHeartbeats 4000000 in
set_option maxRecDepth 100000 in
theorem lw_loop (l : Launch) (hl0 : l.stackTraces = false) {p : Program} {e : Env} {s : State} {m : MethodId} {below : List Frame} {meth : Method} {c : Code} {b L : Nat} {xs : Nat → Int32} {A : Nat → Prop} {D : va_G} {o q1 q2 : Nat} {cI cJ : ClassId} {tE tL bo mo : Nat} {na : Nat → Nat} (E9 : lawE p s m c b L xs A D o q1 q2 cI cJ tE tL bo mo na) (hr : meth.sig.returnType = ret) (hlk : meth.locks = false) (hAs : ∀ q, A q → s.heap.size ≤ q) :
    ∀ (n : Nat) (V : Nat → Nat → Int) (G : Nat → Int) (k c0 : Int) (w : Nat → Int) (i : Int) (H : Heap) (locs : List Loc) (cells slots : Nat) (ls : Array Slot), 0 ≤ k ∧ k ≤ 60 → (∀ j, 0 ≤ V 0 j ∧ V 0 j < 32003) → (∀ j, 0 ≤ G j ∧ G j < 32003) → va_P D vwCl (lX o q1 q2 cI cJ (V 0) G k bo w) H → va_P D vwCl (mX mo na cI cJ c0 k V) H → va_S A s.heap H locs → 0 ≤ i ∧ i ≤ L ∧ (L : Int) < i + 8 * n + 8 → cells + n ≤ 1043 ∧ slots + 6 * n ≤ 17677 → lv_has ls 7 [(0, .ref b), (1, .ref o), (2, .ref mo), (3, .ref bo), (4, .int (iZ i))] →
      W p l e room_1 s m #[Value.ref b] below meth c H locs cells slots (lw_Z below #[Value.ref b] s) (F0 m 23 ls []) := by
  intro n
  induction n with
  | zero =>
    intro V G k c0 w i H locs cells slots ls hk hN hG hP hMo hS hi hcs hl
    obtain ⟨S, hX, hbl, hbA, hAn, hK, hs, ht, hnc, hA, hMA, hdl, hdm, hcr, hL⟩ := id E9
    obtain ⟨hx, hb, hml, hown, hT⟩ := id S
    refine lv_iload hx hb dL_law_23 (lv_at hl 4 rfl) ?_
    refine lv_aload_n hx hb dL_law_25 rfl (lv_at hl 0 rfl) ?_
    refine va_slen hx hb hX hbl hbA hS dL_law_26 ?_
    refine zi_as (a := (L : Int)) (iZ_nI L) ?_
    refine zi_bi hx hb 8 dL_law_27 (by decide) ?_
    refine zi_sub hx hb dL_law_29 ?_
    refine zi_cgt (tgt := 1150) hx hb dL_law_30 (by decide) (by omega) (by omega) (fun hc30 => ?_) (fun hc30 => ?_)
    · refine zi_const hx hb 1 dL_law_1150 ?_
      refine va_forget (fun q hq => hAs _ (hS.2.2 q hq)) ?_
      refine W.widen (k := 1043) (n := 17677) (by omega) (by omega) ?_
      rw [show iZ 1 = 1 by decide]
      exact lw_ret hx hb hr hlk dL_law_1151
    · exfalso
      omega
  | succ n ih =>
    intro V G k c0 w i H locs cells slots ls hk hN hG hP hMo hS hi hcs hl
    obtain ⟨S, hX, hbl, hbA, hAn, hK, hs, ht, hnc, hA, hMA, hdl, hdm, hcr, hL⟩ := id E9
    obtain ⟨hx, hb, hml, hown, hT⟩ := id S
    refine lv_iload hx hb dL_law_23 (lv_at hl 4 rfl) ?_
    refine lv_aload_n hx hb dL_law_25 rfl (lv_at hl 0 rfl) ?_
    refine va_slen hx hb hX hbl hbA hS dL_law_26 ?_
    refine zi_as (a := (L : Int)) (iZ_nI L) ?_
    refine zi_bi hx hb 8 dL_law_27 (by decide) ?_
    refine zi_sub hx hb dL_law_29 ?_
    refine zi_cgt (tgt := 1150) hx hb dL_law_30 (by decide) (by omega) (by omega) (fun hc30 => ?_) (fun hc30 => ?_)
    · refine zi_const hx hb 1 dL_law_1150 ?_
      refine va_forget (fun q hq => hAs _ (hS.2.2 q hq)) ?_
      refine W.widen (k := 1043) (n := 17677) (by omega) (by omega) ?_
      rw [show iZ 1 = 1 by decide]
      exact lw_ret hx hb hr hlk dL_law_1151
    · refine lv_aload_n hx hb dL_law_33 rfl (lv_at hl 0 rfl) ?_
      refine lv_iload hx hb dL_law_34 (lv_at hl 4 rfl) ?_
      refine lw_ld (a := xZ xs i) hx hb hX hbl hbA hS (by omega) rfl dL_law_36 ?_
      refine zi_bi hx hb 15 dL_law_37 (by decide) ?_
      refine zi_and hx hb dL_law_39 ?_
      refine zi_top (fun z ez => ?_)
      have rz := anI_rng (xZ xs i) 15
      rw [← ez] at rz
      clear ez
      have kk := fun (V : Nat → Nat → Int) (G : Nat → Int) (k c0 : Int) (w : Nat → Int) (H : Heap) (locs : List Loc) (ls : Array Slot) a1 a2 a3 a4 a5 a6 a7 => ih V G k c0 w (i + 8) H locs (cells + 1) (slots + 6) ls a1 a2 a3 a4 a5 a6 (by omega) (by omega) a7
      rcases (show z = 0 ∨ z = 1 ∨ z = 2 ∨ z = 3 ∨ z = 4 ∨ z = 5 ∨ z = 6 ∨ z = 7 ∨ z = 8 ∨ z = 9 ∨ z = 10 ∨ z = 11 ∨ z = 12 ∨ (z < 0 ∨ 12 < z) by omega) with rfl | rfl | rfl | rfl | rfl | rfl | rfl | rfl | rfl | rfl | rfl | rfl | rfl | hz
      · refine lv_tableIn (off := 68) (tgt := 108) hx hb dL_law_40 (by decide) (by decide) (by decide) (by decide) ?_
        exact lc_term l hl0 E9 V G k c0 w i hk hN hG hP hMo hS (by omega) (by omega) hl kk
      · refine lv_tableIn (off := 180) (tgt := 220) hx hb dL_law_40 (by decide) (by decide) (by decide) (by decide) ?_
        exact lc_add l hl0 E9 V G k c0 w i hk hN hG hP hMo hS (by omega) (by omega) hl kk
      · refine lv_tableIn (off := 248) (tgt := 288) hx hb dL_law_40 (by decide) (by decide) (by decide) (by decide) ?_
        exact lc_less l hl0 E9 V G k c0 w i hk hN hG hP hMo hS (by omega) (by omega) hl kk
      · refine lv_tableIn (off := 360) (tgt := 400) hx hb dL_law_40 (by decide) (by decide) (by decide) (by decide) ?_
        exact lc_times l hl0 E9 V G k c0 w i hk hN hG hP hMo hS (by omega) (by omega) hl kk
      · refine lv_tableIn (off := 428) (tgt := 468) hx hb dL_law_40 (by decide) (by decide) (by decide) (by decide) ?_
        exact lc_derive l hl0 E9 V G k c0 w i hk hN hG hP hMo hS (by omega) (by omega) hl kk
      · refine lv_tableIn (off := 484) (tgt := 524) hx hb dL_law_40 (by decide) (by decide) (by decide) (by decide) ?_
        exact lc_integrate l hl0 E9 V G k c0 w i hk hN hG hP hMo hS (by omega) (by omega) hl kk
      · refine lv_tableIn (off := 540) (tgt := 580) hx hb dL_law_40 (by decide) (by decide) (by decide) (by decide) ?_
        exact lc_rest l hl0 E9 V G k c0 w i hk hN hG hP hMo hS (by omega) (by omega) hl kk
      · refine lv_tableIn (off := 608) (tgt := 648) hx hb dL_law_40 (by decide) (by decide) (by decide) (by decide) ?_
        exact lc_at l hl0 E9 V G k c0 w i hk hN hG hP hMo hS (by omega) (by omega) hl kk
      · refine lv_tableIn (off := 688) (tgt := 728) hx hb dL_law_40 (by decide) (by decide) (by decide) (by decide) ?_
        exact lc_terms l hl0 E9 V G k c0 w i hk hN hG hP hMo hS (by omega) (by omega) hl kk
      · refine lv_tableIn (off := 756) (tgt := 796) hx hb dL_law_40 (by decide) (by decide) (by decide) (by decide) ?_
        exact lc_degree l hl0 E9 V G k c0 w i hk hN hG hP hMo hS (by omega) (by omega) hl kk
      · refine lv_tableIn (off := 824) (tgt := 864) hx hb dL_law_40 (by decide) (by decide) (by decide) (by decide) ?_
        exact lc_value l hl0 E9 V G k c0 w i hk hN hG hP hMo hS (by omega) (by omega) hl kk
      · refine lv_tableIn (off := 1016) (tgt := 1056) hx hb dL_law_40 (by decide) (by decide) (by decide) (by decide) ?_
        exact lc_same l hl0 E9 V G k c0 w i hk hN hG hP hMo hS (by omega) (by omega) hl kk
      · refine lv_tableIn (off := 1091) (tgt := 1131) hx hb dL_law_40 (by decide) (by decide) (by decide) (by decide) ?_
        exact lc_count l hl0 E9 V G k c0 w i hk hN hG hP hMo hS (by omega) (by omega) hl kk
      · refine lv_tableOut (tgt := 1144) hx hb dL_law_40 (by rw [iZ_int rz]; omega) (by decide) ?_
        exact lc_none l hl0 E9 V G k c0 w i hk hN hG hP hMo hS (by omega) (by omega) hl kk
