/-! ===== the law's own rows ===== -/
def xZ (xs : Nat → Int32) (z : Int) : Int := (xs z.toNat).toInt
theorem xZ_rng (xs : Nat → Int32) (z : Int) : -2147483648 ≤ xZ xs z ∧ xZ xs z ≤ 2147483647 := iZ_rng _
def shZ (a : Int) : Int := (lZ a <<< ((iZ 32).toInt64 &&& 63)).toInt
def anZ (a b : Int) : Int := (lZ a &&& lZ b).toInt
def orZ (a b : Int) : Int := (lZ a ||| lZ b).toInt
theorem orZ_rng (a b : Int) : -9223372036854775808 ≤ orZ a b ∧ orZ a b ≤ 9223372036854775807 := lZ_rng _
def anI (a b : Int) : Int := (iZ a &&& iZ b).toInt
theorem anI_rng (a b : Int) : -2147483648 ≤ anI a b ∧ anI a b ≤ 2147483647 := iZ_rng _
section ZL
variable {p : Program} {l : Launch} {e : Env} {R : Room} {s : State} {m : MethodId} {args : Array Value} {below : List Frame} {meth : Method} {c : Code} {H : Heap} {locs : List Loc} {cells slots : Nat} {Q : State → Prop}
variable {cc : ByteArray} {pc : Nat} {ls : Array Slot} {rest : List Value} {a b : Int}
theorem zl_shl (hx : p.tables.exec = Jvm.exec) (hb : c.code = cc) (hdg : decode cc pc = .ok (.lshl, 1)) (k : W p l e R s m args below meth c H locs cells slots Q (F0 m (pc + 1) ls (.long (lZ (shZ a)) :: rest))) : W p l e R s m args below meth c H locs cells slots Q (F0 m pc ls (.int (iZ 32) :: .long (lZ a) :: rest)) := lv_lshl hx hb hdg (lZ_of _) k
theorem zl_and (hx : p.tables.exec = Jvm.exec) (hb : c.code = cc) (hdg : decode cc pc = .ok (.land, 1)) (k : W p l e R s m args below meth c H locs cells slots Q (F0 m (pc + 1) ls (.long (lZ (anZ a b)) :: rest))) : W p l e R s m args below meth c H locs cells slots Q (F0 m pc ls (.long (lZ b) :: .long (lZ a) :: rest)) := lv_land hx hb hdg (zl_as (lZ_of _) k)
theorem zl_or (hx : p.tables.exec = Jvm.exec) (hb : c.code = cc) (hdg : decode cc pc = .ok (.lor, 1)) (k : W p l e R s m args below meth c H locs cells slots Q (F0 m (pc + 1) ls (.long (lZ (orZ a b)) :: rest))) : W p l e R s m args below meth c H locs cells slots Q (F0 m pc ls (.long (lZ b) :: .long (lZ a) :: rest)) := lv_lor hx hb hdg (zl_as (lZ_of _) k)
theorem zi_and (hx : p.tables.exec = Jvm.exec) (hb : c.code = cc) (hdg : decode cc pc = .ok (.iand, 1)) (k : W p l e R s m args below meth c H locs cells slots Q (F0 m (pc + 1) ls (.int (iZ (anI a b)) :: rest))) : W p l e R s m args below meth c H locs cells slots Q (F0 m pc ls (.int (iZ b) :: .int (iZ a) :: rest)) := lv_iand hx hb hdg (zi_as (iZ_of _) k)
end ZL
/-- the class's cells, out and the reference's are apart -/
def xA (o q1 q2 bo mo : Nat) (na : Nat → Nat) : Prop := (mo ≠ o ∧ mo ≠ q1 ∧ mo ≠ q2 ∧ mo ≠ bo) ∧ ∀ i, i < 6 → na i ≠ o ∧ na i ≠ q1 ∧ na i ≠ q2 ∧ na i ≠ bo
section KP
variable {D : va_G} {o q1 q2 : Nat} {cI cJ : ClassId} {F F2 G : Nat → Int} {k : Int} {bo : Nat} {w : Nat → Int} {mo : Nat} {na : Nat → Nat} {c0 k0 : Int} {V : Nat → Nat → Int} {H H1 : Heap}
theorem lX_ad {i : Nat} {q : Nat × va_E} (h : (lX o q1 q2 cI cJ F G k bo w)[i]? = some q) : q.1 = o ∨ q.1 = q1 ∨ q.1 = q2 ∨ q.1 = bo := by
  match i, h with
  | 0, h => cases h; exact Or.inl rfl
  | 1, h => cases h; exact Or.inr (Or.inl rfl)
  | 2, h => cases h; exact Or.inr (Or.inr (Or.inl rfl))
  | 3, h => cases h; exact Or.inr (Or.inr (Or.inr rfl))
  | i + 4, h => simp at h
theorem mX_kept (hP : va_P D vwCl (mX mo na cI cJ c0 k0 V) H) (hkp : ∀ q : Nat, q < H.size → ¬ aL o q1 q2 bo H.size q → H1[q]? = H[q]?) (hx : xA o q1 q2 bo mo na) : va_P D vwCl (mX mo na cI cJ c0 k0 V) H1 := by
  refine hP.kept (fun i q hq => ?_)
  have hlt := (hP i q hq).lt
  refine hkp _ hlt (fun h => ?_)
  rcases mX_ad hq with ⟨-, h2⟩ | ⟨j, h1, -, h2⟩
  · obtain ⟨a1, a2, a3, a4⟩ := hx.1
    rw [h2] at h hlt
    rcases h with (h | h | h | h) | h
    · exact a1 h
    · exact a2 h
    · exact a3 h
    · exact a4 h
    · exact Nat.not_le.mpr hlt h
  · obtain ⟨a1, a2, a3, a4⟩ := hx.2 j h1
    rw [h2] at h hlt
    rcases h with (h | h | h | h) | h
    · exact a1 h
    · exact a2 h
    · exact a3 h
    · exact a4 h
    · exact Nat.not_le.mpr hlt h
theorem lX_kept (hP : va_P D vwCl (lX o q1 q2 cI cJ F G k bo w) H) (hkp : ∀ q : Nat, q < H.size → ¬ aM mo na H.size q → H1[q]? = H[q]?) (hx : xA o q1 q2 bo mo na) : va_P D vwCl (lX o q1 q2 cI cJ F G k bo w) H1 := by
  refine hP.kept (fun i q hq => ?_)
  have hlt := (hP i q hq).lt
  refine hkp _ hlt (fun h => ?_)
  obtain ⟨a1, a2, a3, a4⟩ := hx.1
  rcases lX_ad hq with h2 | h2 | h2 | h2 <;> rw [h2] at h hlt <;> rcases h with (h | ⟨j, h, h9⟩) | h
  · exact a1 h.symm
  · exact (hx.2 j h).1 h9.symm
  · exact Nat.not_le.mpr hlt h
  · exact a2 h.symm
  · exact (hx.2 j h).2.1 h9.symm
  · exact Nat.not_le.mpr hlt h
  · exact a3 h.symm
  · exact (hx.2 j h).2.2.1 h9.symm
  · exact Nat.not_le.mpr hlt h
  · exact a4 h.symm
  · exact (hx.2 j h).2.2.2 h9.symm
  · exact Nat.not_le.mpr hlt h
theorem lX_F (hP : va_P D vwCl (lX o q1 q2 cI cJ F G k bo w) H) (hF : F = F2) : va_P D vwCl (lX o q1 q2 cI cJ F2 G k bo w) H := hF ▸ hP
end KP
theorem row_eq {V0 Z0 g : Nat → Int} {k : Int} (hk : 0 ≤ k) (h1 : ∀ j : Nat, j < 72 → Z0 ((k * 72).toNat + j) = g j) (h2 : ∀ j : Nat, (j : Int) < k * 72 ∨ k * 72 + 72 ≤ (j : Int) → Z0 j = V0 j) : fiZ V0 (k * 72).toNat 72 g = Z0 := by
  funext j
  unfold fiZ
  by_cases h : (k * 72).toNat ≤ j ∧ j < (k * 72).toNat + 72
  · rw [if_pos h, ← h1 _ (by omega)]
    exact congrArg Z0 (by omega)
  · rw [if_neg h]
    exact (h2 j (by omega)).symm
theorem tgZ_rng (c n v : Int) (j : Nat) : 0 ≤ tgZ c n v j ∧ tgZ c n v j < 32003 := by
  unfold tgZ
  split <;> omega
theorem igZ_rng (F : Nat → Int) (f c n : Int) : 0 ≤ igZ F f c n ∧ igZ F f c n < 32003 := by
  unfold igZ
  split
  · omega
  · split
    · exact exZ_rng _ _ _ _
    · split
      · split
        · omega
        · exact dvZ_rng _ _
      · exact lgZ_rng _ _ _ _
theorem em_rng (z : Int) : 0 ≤ z % 32003 ∧ z % 32003 < 32003 := by omega
/-- what holds all through the law's loop -/
def lawE (p : Program) (s : State) (m : MethodId) (c : Code) (b L : Nat) (xs : Nat → Int32) (A : Nat → Prop) (D : va_G) (o q1 q2 : Nat) (cI cJ : ClassId) (tE tL bo mo : Nat) (na : Nat → Nat) : Prop :=
  CallFix p m c cL_law 7 s #[Value.ref b] TB RL ∧ va_X b L xs s s.heap ∧ b < s.heap.size ∧ ¬ A b ∧ (∀ q, s.heap.size ≤ q → A q) ∧ va_K D vwCl (mT cI cJ) s ∧ sX tE tL A s s.heap ∧ tX A s s.heap ∧ nC s ∧ (A o ∧ A q1 ∧ A q2 ∧ A bo) ∧ hM mo na A ∧ dL o q1 q2 bo ∧ dM mo na ∧ xA o q1 q2 bo mo na ∧ L ≤ 4096
section LD
variable {p : Program} {l : Launch} {e : Env} {R : Room} {s : State} {m : MethodId} {args : Array Value} {below : List Frame} {meth : Method} {c : Code} {H : Heap} {locs : List Loc} {cells slots : Nat} {Q : State → Prop}
variable {cc : ByteArray} {pc : Nat} {ls : Array Slot} {rest : List Value} {A : Nat → Prop} {H0 : Heap} {D : va_G} {o q1 q2 : Nat} {cI cJ : ClassId} {F G : Nat → Int} {k : Int} {bo : Nat} {w : Nat → Int}
/-- an int of the script -/
theorem lw_ld (hx : p.tables.exec = Jvm.exec) (hb : c.code = cc) {b L : Nat} {xs : Nat → Int32} (hX : va_X b L xs s H0) (hbl : b < H0.size) (hbA : ¬ A b) (hS : va_S A H0 H locs) {z a : Int} (hz : 0 ≤ z ∧ z < L ∧ L ≤ 4096) (ha : a = xZ xs z) (hdg : decode cc pc = .ok (.iaload, 1))
    (kk : W p l e R s m args below meth c H locs cells slots Q (F0 m (pc + 1) ls (.int (iZ a) :: rest))) : W p l e R s m args below meth c H locs cells slots Q (F0 m pc ls (.int (iZ z) :: .ref b :: rest)) :=
  va_sld hx hb hX hbl hbA hS (iZ_in hz.1 hz.2.1 (by omega)) hdg (zi_as (by rw [iZ_cl hz.1 (by omega), ha]; exact iZ_of _) kk)
/-- out[0] -/
theorem lw_ot (hx : p.tables.exec = Jvm.exec) (hb : c.code = cc) (hK : va_K D vwCl (mT cI cJ) s) (hP : va_P D vwCl (lX o q1 q2 cI cJ F G k bo w) H) {a : Int} (ha : w 0 = a) (hdg : decode cc pc = .ok (.laload, 1))
    (kk : W p l e R s m args below meth c H locs cells slots Q (F0 m (pc + 1) ls (.long (lZ a) :: rest))) : W p l e R s m args below meth c H locs cells slots Q (F0 m pc ls (.int (iZ 0) :: .ref bo :: rest)) :=
  va_lald hx hb hK hP 3 1 rfl rfl (iZ_in (by omega) (by omega) (by omega)) hdg (zl_as (by rw [iZ_cl (by omega) (by omega)]; exact congrArg lZ ha) kk)
end LD
