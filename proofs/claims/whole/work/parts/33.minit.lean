set_option maxHeartbeats 4000000 in
set_option maxRecDepth 100000 in
theorem c_X1_init (l : Launch) (D : va_G) (mo : Nat) (sz : Nat) : Met l yX1_init (.code yX1_init cX1_init 1 none :: TB) ({ frames := 1, cells := 6, slots := 4850, locals := 12 }) (va_Pc [.ref mo] (fun U => U.heap.size = sz ∧ va_P D vwCl [(mo, .inr (1, [.int 0, .int 0, .null, .null, .null, .null, .null, .null]))] U.heap ∧ va_K D vwCl [] U ∧ va_D (fun _ => True) [(mo, .inr (1, [.int 0, .int 0, .null, .null, .null, .null, .null, .null]))])) (va_Qv (fun _ : (Nat → Nat) × ClassId × ClassId => True) (fun u t => va_P D vwCl (mX mo u.1 u.2.1 u.2.2 0 0 (fun _ _ => 0)) t.heap ∧ va_K D vwCl (mT u.2.1 u.2.2) t ∧ va_D (va_A [(mo, .inr (1, [.int 0, .int 0, .null, .null, .null, .null, .null, .null]))] sz) (mX mo u.1 u.2.1 u.2.2 0 0 (fun _ _ => 0))) (va_A [(mo, .inr (1, [.int 0, .int 0, .null, .null, .null, .null, .null, .null]))] sz)) 6 4850 (va_A [(mo, .inr (1, [.int 0, .int 0, .null, .null, .null, .null, .null, .null]))] sz) := by
  refine Met.ofW (cc := cX1_init) (maxL := 1) (ret := none) (by decide) rfl ?_
  intro p e s m args below meth c s₁ B hml hv
  obtain ⟨rfl, hsz, hP, hK, hD0⟩ := hv
  have hx := B.exec
  have hb := B.bytes
  have hr := B.returns
  have hts := atoms_spec (ws := .code yX1_init cX1_init 1 none :: TB) B.pre
  have hT : ∀ w ∈ TB, w.before #[Value.ref mo] s = true := fun w hw => hts w (List.mem_cons_of_mem _ hw)
  have hown : s.vm.findClass RX1 = some m.cls := findClass_of_methodNamed B.named
  have hlk := B.notSynchronized
  have hin : meth.name = "<init>" := (name_of_methodNamed B.named B.method).1
  subst hsz
  have hD := hD0.self (sz := s.heap.size)
  generalize hAe : va_A [(mo, .inr (1, [.int 0, .int 0, .null, .null, .null, .null, .null, .null]))] s.heap.size = A at hD ⊢
  have hA : ∀ q : Nat, s.heap.size ≤ q → A q := fun q h => by rw [← hAe]; exact Or.inr h
  have hS : va_S A s.heap s.heap [] := va_S.rf
  have hl := lv_entry ([.ref mo]) (n := 1) (Nat.le_of_ble_eq_true rfl)
  rw [lg_entry_eq]
  generalize (lg_sl ([.ref mo]) ++ List.replicate (1 - (lg_sl ([.ref mo])).length) Slot.unset).toArray = ls at hl ⊢
  have hl : lv_has ls 1 [(0, .ref mo)] := hl
  refine lv_aload_n hx hb dX1_init_0 rfl (lv_at hl 0 rfl) ?_
  refine W.objInit hx hb hown (hT _ tb_401) (hT _ tb_16) (hT _ tb_17) rfl (by rw [hml]; exact hl.1) rfl dX1_init_1 (Nat.le_of_ble_eq_true rfl) (Nat.le_of_ble_eq_true rfl) ?_
  refine W.eq (g2 := F0 m 4 ls []) rfl ?_
  refine lv_aload_n hx hb dX1_init_4 rfl (lv_at hl 0 rfl) ?_
  refine zi_si hx hb 4320 dX1_init_5 (by decide) ?_
  refine va_newa (atype := .int) (ty := .int) (N' := 4320) (a0 := (4320, .inl (fun _ => iZ 0))) hx hb (hT _ tb_28) rfl hK hP hD hS hA (fun _ => rfl) (by decide) (by decide) (by decide) (by decide) (by decide) dX1_init_8 (fun n0 C0 H hK hP hD hS => ?_)
  refine va_putF (D := D) (ci := 1) (v := .ref n0) (ty := .array .int) (C := RX1) (T := TX1) (N := 8) hx hb hT inX1 tyX1 tyX1_ok nmX1 hown hK hP hD hS 0 rfl rfl 2 (by decide) (hT _ tb_404) (fun _ h9 => h9) rfl hin rfl (by decide +kernel) rfl rfl (Nat.le_of_ble_eq_true rfl) dX1_init_10 (fun H locs hP hD hS => ?_)
  have hP : va_P D vwCl [(mo, .inr (1, [.int 0, .int 0, .ref n0, .null, .null, .null, .null, .null])), (n0, .inl (C0, 4320, .inl (fun _ => iZ 0)))] H := hP
  have hD : va_D A [(mo, .inr (1, [.int 0, .int 0, .ref n0, .null, .null, .null, .null, .null])), (n0, .inl (C0, 4320, .inl (fun _ => iZ 0)))] := hD
  refine lv_aload_n hx hb dX1_init_13 rfl (lv_at hl 0 rfl) ?_
  refine zi_bi hx hb 72 dX1_init_14 (by decide) ?_
  refine va_newa (atype := .long) (ty := .long) (N' := 72) (a0 := (72, .inr (.inl (fun _ => lZ 0)))) hx hb (hT _ tb_427) rfl hK hP hD hS hA (fun _ => rfl) (by decide) (by decide) (by decide) (by decide) (by decide) dX1_init_16 (fun n1 C1 H hK hP hD hS => ?_)
  refine va_putF (D := D) (ci := 1) (v := .ref n1) (ty := .array .long) (C := RX1) (T := TX1) (N := 8) hx hb hT inX1 tyX1 tyX1_ok nmX1 hown hK hP hD hS 0 rfl rfl 3 (by decide) (hT _ tb_405) (fun _ h9 => h9) rfl hin rfl (by decide +kernel) rfl rfl (Nat.le_of_ble_eq_true rfl) dX1_init_18 (fun H locs hP hD hS => ?_)
  have hP : va_P D vwCl [(mo, .inr (1, [.int 0, .int 0, .ref n0, .ref n1, .null, .null, .null, .null])), (n0, .inl (C0, 4320, .inl (fun _ => iZ 0))), (n1, .inl (C1, 72, .inr (.inl (fun _ => lZ 0))))] H := hP
  have hD : va_D A [(mo, .inr (1, [.int 0, .int 0, .ref n0, .ref n1, .null, .null, .null, .null])), (n0, .inl (C0, 4320, .inl (fun _ => iZ 0))), (n1, .inl (C1, 72, .inr (.inl (fun _ => lZ 0))))] := hD
  refine lv_aload_n hx hb dX1_init_21 rfl (lv_at hl 0 rfl) ?_
  refine zi_bi hx hb 72 dX1_init_22 (by decide) ?_
  refine va_newa (atype := .long) (ty := .long) (N' := 72) (a0 := (72, .inr (.inl (fun _ => lZ 0)))) hx hb (hT _ tb_427) rfl hK hP hD hS hA (fun _ => rfl) (by decide) (by decide) (by decide) (by decide) (by decide) dX1_init_24 (fun n2 C2 H hK hP hD hS => ?_)
  refine va_putF (D := D) (ci := 1) (v := .ref n2) (ty := .array .long) (C := RX1) (T := TX1) (N := 8) hx hb hT inX1 tyX1 tyX1_ok nmX1 hown hK hP hD hS 0 rfl rfl 4 (by decide) (hT _ tb_406) (fun _ h9 => h9) rfl hin rfl (by decide +kernel) rfl rfl (Nat.le_of_ble_eq_true rfl) dX1_init_26 (fun H locs hP hD hS => ?_)
  have hP : va_P D vwCl [(mo, .inr (1, [.int 0, .int 0, .ref n0, .ref n1, .ref n2, .null, .null, .null])), (n0, .inl (C0, 4320, .inl (fun _ => iZ 0))), (n1, .inl (C1, 72, .inr (.inl (fun _ => lZ 0)))), (n2, .inl (C2, 72, .inr (.inl (fun _ => lZ 0))))] H := hP
  have hD : va_D A [(mo, .inr (1, [.int 0, .int 0, .ref n0, .ref n1, .ref n2, .null, .null, .null])), (n0, .inl (C0, 4320, .inl (fun _ => iZ 0))), (n1, .inl (C1, 72, .inr (.inl (fun _ => lZ 0)))), (n2, .inl (C2, 72, .inr (.inl (fun _ => lZ 0))))] := hD
  refine lv_aload_n hx hb dX1_init_29 rfl (lv_at hl 0 rfl) ?_
  refine zi_bi hx hb 72 dX1_init_30 (by decide) ?_
  refine va_newa (atype := .long) (ty := .long) (N' := 72) (a0 := (72, .inr (.inl (fun _ => lZ 0)))) hx hb (hT _ tb_427) rfl hK hP hD hS hA (fun _ => rfl) (by decide) (by decide) (by decide) (by decide) (by decide) dX1_init_32 (fun n3 C3 H hK hP hD hS => ?_)
  refine va_putF (D := D) (ci := 1) (v := .ref n3) (ty := .array .long) (C := RX1) (T := TX1) (N := 8) hx hb hT inX1 tyX1 tyX1_ok nmX1 hown hK hP hD hS 0 rfl rfl 5 (by decide) (hT _ tb_407) (fun _ h9 => h9) rfl hin rfl (by decide +kernel) rfl rfl (Nat.le_of_ble_eq_true rfl) dX1_init_34 (fun H locs hP hD hS => ?_)
  have hP : va_P D vwCl [(mo, .inr (1, [.int 0, .int 0, .ref n0, .ref n1, .ref n2, .ref n3, .null, .null])), (n0, .inl (C0, 4320, .inl (fun _ => iZ 0))), (n1, .inl (C1, 72, .inr (.inl (fun _ => lZ 0)))), (n2, .inl (C2, 72, .inr (.inl (fun _ => lZ 0)))), (n3, .inl (C3, 72, .inr (.inl (fun _ => lZ 0))))] H := hP
  have hD : va_D A [(mo, .inr (1, [.int 0, .int 0, .ref n0, .ref n1, .ref n2, .ref n3, .null, .null])), (n0, .inl (C0, 4320, .inl (fun _ => iZ 0))), (n1, .inl (C1, 72, .inr (.inl (fun _ => lZ 0)))), (n2, .inl (C2, 72, .inr (.inl (fun _ => lZ 0)))), (n3, .inl (C3, 72, .inr (.inl (fun _ => lZ 0))))] := hD
  refine lv_aload_n hx hb dX1_init_37 rfl (lv_at hl 0 rfl) ?_
  refine zi_si hx hb 304 dX1_init_38 (by decide) ?_
  refine va_newa (atype := .long) (ty := .long) (N' := 304) (a0 := (304, .inr (.inl (fun _ => lZ 0)))) hx hb (hT _ tb_427) rfl hK hP hD hS hA (fun _ => rfl) (by decide) (by decide) (by decide) (by decide) (by decide) dX1_init_41 (fun n4 C4 H hK hP hD hS => ?_)
  refine va_putF (D := D) (ci := 1) (v := .ref n4) (ty := .array .long) (C := RX1) (T := TX1) (N := 8) hx hb hT inX1 tyX1 tyX1_ok nmX1 hown hK hP hD hS 0 rfl rfl 6 (by decide) (hT _ tb_408) (fun _ h9 => h9) rfl hin rfl (by decide +kernel) rfl rfl (Nat.le_of_ble_eq_true rfl) dX1_init_43 (fun H locs hP hD hS => ?_)
  have hP : va_P D vwCl [(mo, .inr (1, [.int 0, .int 0, .ref n0, .ref n1, .ref n2, .ref n3, .ref n4, .null])), (n0, .inl (C0, 4320, .inl (fun _ => iZ 0))), (n1, .inl (C1, 72, .inr (.inl (fun _ => lZ 0)))), (n2, .inl (C2, 72, .inr (.inl (fun _ => lZ 0)))), (n3, .inl (C3, 72, .inr (.inl (fun _ => lZ 0)))), (n4, .inl (C4, 304, .inr (.inl (fun _ => lZ 0))))] H := hP
  have hD : va_D A [(mo, .inr (1, [.int 0, .int 0, .ref n0, .ref n1, .ref n2, .ref n3, .ref n4, .null])), (n0, .inl (C0, 4320, .inl (fun _ => iZ 0))), (n1, .inl (C1, 72, .inr (.inl (fun _ => lZ 0)))), (n2, .inl (C2, 72, .inr (.inl (fun _ => lZ 0)))), (n3, .inl (C3, 72, .inr (.inl (fun _ => lZ 0)))), (n4, .inl (C4, 304, .inr (.inl (fun _ => lZ 0))))] := hD
  refine lv_aload_n hx hb dX1_init_46 rfl (lv_at hl 0 rfl) ?_
  refine zi_bi hx hb 10 dX1_init_47 (by decide) ?_
  refine va_newa (atype := .long) (ty := .long) (N' := 10) (a0 := (10, .inr (.inl (fun _ => lZ 0)))) hx hb (hT _ tb_427) rfl hK hP hD hS hA (fun _ => rfl) (by decide) (by decide) (by decide) (by decide) (by decide) dX1_init_49 (fun n5 C5 H hK hP hD hS => ?_)
  refine va_putF (D := D) (ci := 1) (v := .ref n5) (ty := .array .long) (C := RX1) (T := TX1) (N := 8) hx hb hT inX1 tyX1 tyX1_ok nmX1 hown hK hP hD hS 0 rfl rfl 7 (by decide) (hT _ tb_409) (fun _ h9 => h9) rfl hin rfl (by decide +kernel) rfl rfl (Nat.le_of_ble_eq_true rfl) dX1_init_51 (fun H locs hP hD hS => ?_)
  have hP : va_P D vwCl [(mo, .inr (1, [.int 0, .int 0, .ref n0, .ref n1, .ref n2, .ref n3, .ref n4, .ref n5])), (n0, .inl (C0, 4320, .inl (fun _ => iZ 0))), (n1, .inl (C1, 72, .inr (.inl (fun _ => lZ 0)))), (n2, .inl (C2, 72, .inr (.inl (fun _ => lZ 0)))), (n3, .inl (C3, 72, .inr (.inl (fun _ => lZ 0)))), (n4, .inl (C4, 304, .inr (.inl (fun _ => lZ 0)))), (n5, .inl (C5, 10, .inr (.inl (fun _ => lZ 0))))] H := hP
  have hD : va_D A [(mo, .inr (1, [.int 0, .int 0, .ref n0, .ref n1, .ref n2, .ref n3, .ref n4, .ref n5])), (n0, .inl (C0, 4320, .inl (fun _ => iZ 0))), (n1, .inl (C1, 72, .inr (.inl (fun _ => lZ 0)))), (n2, .inl (C2, 72, .inr (.inl (fun _ => lZ 0)))), (n3, .inl (C3, 72, .inr (.inl (fun _ => lZ 0)))), (n4, .inl (C4, 304, .inr (.inl (fun _ => lZ 0)))), (n5, .inl (C5, 10, .inr (.inl (fun _ => lZ 0))))] := hD
  have hc2 : C1 = C2 := by
    have h1 : s.vm.findClass ("[" ++ FieldType.long.toString) = some C1 := (hK.2 1 _ rfl).2
    have h2 : s.vm.findClass ("[" ++ FieldType.long.toString) = some C2 := (hK.2 2 _ rfl).2
    exact Option.some.inj (h1.symm.trans h2)
  have hc3 : C1 = C3 := by
    have h1 : s.vm.findClass ("[" ++ FieldType.long.toString) = some C1 := (hK.2 1 _ rfl).2
    have h2 : s.vm.findClass ("[" ++ FieldType.long.toString) = some C3 := (hK.2 3 _ rfl).2
    exact Option.some.inj (h1.symm.trans h2)
  have hc4 : C1 = C4 := by
    have h1 : s.vm.findClass ("[" ++ FieldType.long.toString) = some C1 := (hK.2 1 _ rfl).2
    have h2 : s.vm.findClass ("[" ++ FieldType.long.toString) = some C4 := (hK.2 4 _ rfl).2
    exact Option.some.inj (h1.symm.trans h2)
  have hc5 : C1 = C5 := by
    have h1 : s.vm.findClass ("[" ++ FieldType.long.toString) = some C1 := (hK.2 1 _ rfl).2
    have h2 : s.vm.findClass ("[" ++ FieldType.long.toString) = some C5 := (hK.2 5 _ rfl).2
    exact Option.some.inj (h1.symm.trans h2)
  subst hc2
  subst hc3
  subst hc4
  subst hc5
  obtain ⟨na, ha⟩ : ∃ na : Nat → Nat, na 0 = n0 ∧ na 1 = n1 ∧ na 2 = n2 ∧ na 3 = n3 ∧ na 4 = n4 ∧ na 5 = n5 := ⟨fun i => if i = 0 then n0 else if i = 1 then n1 else if i = 2 then n2 else if i = 3 then n3 else if i = 4 then n4 else n5, rfl, rfl, rfl, rfl, rfl, rfl⟩
  obtain ⟨rfl, rfl, rfl, rfl, rfl, rfl⟩ := ha
  have hP : va_P D vwCl (mX mo na C0 C1 0 0 (fun _ _ => 0)) H := hP
  have hD : va_D A (mX mo na C0 C1 0 0 (fun _ _ => 0)) := hD
  have hK9 := hK.sub (tys' := mT C0 C1) [0, 1] rfl
  refine W.widen (k := 6) (n := 4850) (by decide) (by decide) ?_
  exact W.vret hx hb hr (fun t ht hW => ⟨⟨(na, C0, C1), rfl, trivial, by rw [ht]; exact hP, va_K.moved hW.alike hK9, hD⟩, hS.F ht⟩) hS.2.2 dX1_init_54 hlk
