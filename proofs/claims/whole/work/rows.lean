section
-- ===== PART A: goes FIRST, ahead of the names: the tables' words, and 'selects' of the private methods out of them =====
/-- a private method of a class that the tables say can be made, by its rows of tables_1 -/
def lw_okq (q : MethodName × Nat) : Prop := (q.1.cls ≠ "java/lang/invoke/MethodHandle" ∧ q.1.cls ≠ "java/lang/invoke/VarHandle") ∧ Cond.instantiable q.1.cls q.2 ∈ tables_1 ∧ Cond.privateMethod q.1 ∈ tables_1 ∧ Cond.instanceMethod q.1 ∈ tables_1
theorem lw_p0 : lw_okq (⟨"java/lang/Throwable", "fillInStackTrace", "(I)Ljava/lang/Throwable;"⟩, 6) := ⟨⟨by decide +kernel, by decide +kernel⟩, List.mem_of_getElem? (i := 87) (by decide +kernel), List.mem_of_getElem? (i := 85) (by decide +kernel), List.mem_of_getElem? (i := 86) (by decide +kernel)⟩
theorem lw_p1 : lw_okq (⟨"TowerIntegrals", "needRoom", "()V"⟩, 3) := ⟨⟨by decide +kernel, by decide +kernel⟩, List.mem_of_getElem? (i := 11) (by decide +kernel), List.mem_of_getElem? (i := 124) (by decide +kernel), List.mem_of_getElem? (i := 125) (by decide +kernel)⟩
theorem lw_p2 : lw_okq (⟨"TowerIntegrals", "clearDraft", "()V"⟩, 3) := ⟨⟨by decide +kernel, by decide +kernel⟩, List.mem_of_getElem? (i := 11) (by decide +kernel), List.mem_of_getElem? (i := 144) (by decide +kernel), List.mem_of_getElem? (i := 145) (by decide +kernel)⟩
theorem lw_p3 : lw_okq (⟨"TowerIntegrals", "setDraft", "(III)V"⟩, 3) := ⟨⟨by decide +kernel, by decide +kernel⟩, List.mem_of_getElem? (i := 11) (by decide +kernel), List.mem_of_getElem? (i := 148) (by decide +kernel), List.mem_of_getElem? (i := 149) (by decide +kernel)⟩
theorem lw_p4 : lw_okq (⟨"TowerIntegrals", "keepDraft", "()I"⟩, 3) := ⟨⟨by decide +kernel, by decide +kernel⟩, List.mem_of_getElem? (i := 11) (by decide +kernel), List.mem_of_getElem? (i := 159) (by decide +kernel), List.mem_of_getElem? (i := 160) (by decide +kernel)⟩
theorem lw_p5 : lw_okq (⟨"TowerIntegrals", "needElement", "(I)V"⟩, 3) := ⟨⟨by decide +kernel, by decide +kernel⟩, List.mem_of_getElem? (i := 11) (by decide +kernel), List.mem_of_getElem? (i := 171) (by decide +kernel), List.mem_of_getElem? (i := 172) (by decide +kernel)⟩
theorem lw_p6 : lw_okq (⟨"TowerIntegrals", "draftSum", "(III)V"⟩, 3) := ⟨⟨by decide +kernel, by decide +kernel⟩, List.mem_of_getElem? (i := 11) (by decide +kernel), List.mem_of_getElem? (i := 191) (by decide +kernel), List.mem_of_getElem? (i := 192) (by decide +kernel)⟩
theorem lw_p7 : lw_okq (⟨"TowerIntegrals", "number", "(III)I"⟩, 3) := ⟨⟨by decide +kernel, by decide +kernel⟩, List.mem_of_getElem? (i := 11) (by decide +kernel), List.mem_of_getElem? (i := 195) (by decide +kernel), List.mem_of_getElem? (i := 196) (by decide +kernel)⟩
theorem lw_p8 : lw_okq (⟨"TowerIntegrals", "logMeetsExponential", "(II)Z"⟩, 3) := ⟨⟨by decide +kernel, by decide +kernel⟩, List.mem_of_getElem? (i := 11) (by decide +kernel), List.mem_of_getElem? (i := 213) (by decide +kernel), List.mem_of_getElem? (i := 214) (by decide +kernel)⟩
theorem lw_p9 : lw_okq (⟨"TowerIntegrals", "countTerms", "(III)I"⟩, 3) := ⟨⟨by decide +kernel, by decide +kernel⟩, List.mem_of_getElem? (i := 11) (by decide +kernel), List.mem_of_getElem? (i := 217) (by decide +kernel), List.mem_of_getElem? (i := 218) (by decide +kernel)⟩
theorem lw_p10 : lw_okq (⟨"TowerIntegrals", "sumUpProduct", "(II)V"⟩, 3) := ⟨⟨by decide +kernel, by decide +kernel⟩, List.mem_of_getElem? (i := 11) (by decide +kernel), List.mem_of_getElem? (i := 222) (by decide +kernel), List.mem_of_getElem? (i := 223) (by decide +kernel)⟩
theorem lw_p11 : lw_okq (⟨"TowerIntegrals", "clearWide", "()V"⟩, 3) := ⟨⟨by decide +kernel, by decide +kernel⟩, List.mem_of_getElem? (i := 11) (by decide +kernel), List.mem_of_getElem? (i := 226) (by decide +kernel), List.mem_of_getElem? (i := 227) (by decide +kernel)⟩
theorem lw_p12 : lw_okq (⟨"TowerIntegrals", "addMultiple", "(IIII)V"⟩, 3) := ⟨⟨by decide +kernel, by decide +kernel⟩, List.mem_of_getElem? (i := 11) (by decide +kernel), List.mem_of_getElem? (i := 230) (by decide +kernel), List.mem_of_getElem? (i := 231) (by decide +kernel)⟩
theorem lw_p13 : lw_okq (⟨"TowerIntegrals", "addWide", "(IIJ)V"⟩, 3) := ⟨⟨by decide +kernel, by decide +kernel⟩, List.mem_of_getElem? (i := 11) (by decide +kernel), List.mem_of_getElem? (i := 241) (by decide +kernel), List.mem_of_getElem? (i := 242) (by decide +kernel)⟩
theorem lw_p14 : lw_okq (⟨"TowerIntegrals", "productIsTooFar", "()Z"⟩, 3) := ⟨⟨by decide +kernel, by decide +kernel⟩, List.mem_of_getElem? (i := 11) (by decide +kernel), List.mem_of_getElem? (i := 251) (by decide +kernel), List.mem_of_getElem? (i := 252) (by decide +kernel)⟩
theorem lw_p15 : lw_okq (⟨"TowerIntegrals", "wideNumber", "(II)I"⟩, 3) := ⟨⟨by decide +kernel, by decide +kernel⟩, List.mem_of_getElem? (i := 11) (by decide +kernel), List.mem_of_getElem? (i := 258) (by decide +kernel), List.mem_of_getElem? (i := 259) (by decide +kernel)⟩
def lw_privs_1 : List (MethodName × Nat) := [(⟨"java/lang/Throwable", "fillInStackTrace", "(I)Ljava/lang/Throwable;"⟩, 6), (⟨"TowerIntegrals", "needRoom", "()V"⟩, 3), (⟨"TowerIntegrals", "clearDraft", "()V"⟩, 3), (⟨"TowerIntegrals", "setDraft", "(III)V"⟩, 3), (⟨"TowerIntegrals", "keepDraft", "()I"⟩, 3), (⟨"TowerIntegrals", "needElement", "(I)V"⟩, 3), (⟨"TowerIntegrals", "draftSum", "(III)V"⟩, 3), (⟨"TowerIntegrals", "number", "(III)I"⟩, 3), (⟨"TowerIntegrals", "logMeetsExponential", "(II)Z"⟩, 3), (⟨"TowerIntegrals", "countTerms", "(III)I"⟩, 3), (⟨"TowerIntegrals", "sumUpProduct", "(II)V"⟩, 3), (⟨"TowerIntegrals", "clearWide", "()V"⟩, 3), (⟨"TowerIntegrals", "addMultiple", "(IIII)V"⟩, 3), (⟨"TowerIntegrals", "addWide", "(IIJ)V"⟩, 3), (⟨"TowerIntegrals", "productIsTooFar", "()Z"⟩, 3), (⟨"TowerIntegrals", "wideNumber", "(II)I"⟩, 3)]
theorem lw_r1 : ∀ q ∈ lw_privs_1, lw_okq q := List.forall_mem_cons.mpr ⟨lw_p0, List.forall_mem_cons.mpr ⟨lw_p1, List.forall_mem_cons.mpr ⟨lw_p2, List.forall_mem_cons.mpr ⟨lw_p3, List.forall_mem_cons.mpr ⟨lw_p4, List.forall_mem_cons.mpr ⟨lw_p5, List.forall_mem_cons.mpr ⟨lw_p6, List.forall_mem_cons.mpr ⟨lw_p7, List.forall_mem_cons.mpr ⟨lw_p8, List.forall_mem_cons.mpr ⟨lw_p9, List.forall_mem_cons.mpr ⟨lw_p10, List.forall_mem_cons.mpr ⟨lw_p11, List.forall_mem_cons.mpr ⟨lw_p12, List.forall_mem_cons.mpr ⟨lw_p13, List.forall_mem_cons.mpr ⟨lw_p14, List.forall_mem_cons.mpr ⟨lw_p15, fun _ h => absurd h List.not_mem_nil⟩⟩⟩⟩⟩⟩⟩⟩⟩⟩⟩⟩⟩⟩⟩⟩
theorem lw_p16 : lw_okq (⟨"TowerIntegrals", "draftProduct", "()V"⟩, 3) := ⟨⟨by decide +kernel, by decide +kernel⟩, List.mem_of_getElem? (i := 11) (by decide +kernel), List.mem_of_getElem? (i := 263) (by decide +kernel), List.mem_of_getElem? (i := 264) (by decide +kernel)⟩
theorem lw_p17 : lw_okq (⟨"TowerIntegrals", "slopeIsTooFar", "(I)Z"⟩, 3) := ⟨⟨by decide +kernel, by decide +kernel⟩, List.mem_of_getElem? (i := 11) (by decide +kernel), List.mem_of_getElem? (i := 274) (by decide +kernel), List.mem_of_getElem? (i := 275) (by decide +kernel)⟩
theorem lw_p18 : lw_okq (⟨"TowerIntegrals", "slopeNumber", "(III)I"⟩, 3) := ⟨⟨by decide +kernel, by decide +kernel⟩, List.mem_of_getElem? (i := 11) (by decide +kernel), List.mem_of_getElem? (i := 278) (by decide +kernel), List.mem_of_getElem? (i := 279) (by decide +kernel)⟩
theorem lw_p19 : lw_okq (⟨"TowerIntegrals", "draftSlope", "(I)V"⟩, 3) := ⟨⟨by decide +kernel, by decide +kernel⟩, List.mem_of_getElem? (i := 11) (by decide +kernel), List.mem_of_getElem? (i := 283) (by decide +kernel), List.mem_of_getElem? (i := 284) (by decide +kernel)⟩
theorem lw_p20 : lw_okq (⟨"TowerIntegrals", "hasRest", "(I)Z"⟩, 3) := ⟨⟨by decide +kernel, by decide +kernel⟩, List.mem_of_getElem? (i := 11) (by decide +kernel), List.mem_of_getElem? (i := 294) (by decide +kernel), List.mem_of_getElem? (i := 295) (by decide +kernel)⟩
theorem lw_p21 : lw_okq (⟨"TowerIntegrals", "restOf", "(II)I"⟩, 3) := ⟨⟨by decide +kernel, by decide +kernel⟩, List.mem_of_getElem? (i := 11) (by decide +kernel), List.mem_of_getElem? (i := 298) (by decide +kernel), List.mem_of_getElem? (i := 299) (by decide +kernel)⟩
theorem lw_p22 : lw_okq (⟨"TowerIntegrals", "integralIsTooFar", "(I)Z"⟩, 3) := ⟨⟨by decide +kernel, by decide +kernel⟩, List.mem_of_getElem? (i := 11) (by decide +kernel), List.mem_of_getElem? (i := 314) (by decide +kernel), List.mem_of_getElem? (i := 315) (by decide +kernel)⟩
theorem lw_p23 : lw_okq (⟨"TowerIntegrals", "draftLogIntegral", "(I)V"⟩, 3) := ⟨⟨by decide +kernel, by decide +kernel⟩, List.mem_of_getElem? (i := 11) (by decide +kernel), List.mem_of_getElem? (i := 319) (by decide +kernel), List.mem_of_getElem? (i := 320) (by decide +kernel)⟩
theorem lw_p24 : lw_okq (⟨"TowerIntegrals", "draftConstantPowerIntegral", "(I)V"⟩, 3) := ⟨⟨by decide +kernel, by decide +kernel⟩, List.mem_of_getElem? (i := 11) (by decide +kernel), List.mem_of_getElem? (i := 323) (by decide +kernel), List.mem_of_getElem? (i := 324) (by decide +kernel)⟩
theorem lw_p25 : lw_okq (⟨"TowerIntegrals", "draftExponentialIntegral", "(I)V"⟩, 3) := ⟨⟨by decide +kernel, by decide +kernel⟩, List.mem_of_getElem? (i := 11) (by decide +kernel), List.mem_of_getElem? (i := 327) (by decide +kernel), List.mem_of_getElem? (i := 328) (by decide +kernel)⟩
theorem lw_p26 : lw_okq (⟨"TowerIntegrals", "dividesByX", "(I)Z"⟩, 3) := ⟨⟨by decide +kernel, by decide +kernel⟩, List.mem_of_getElem? (i := 11) (by decide +kernel), List.mem_of_getElem? (i := 366) (by decide +kernel), List.mem_of_getElem? (i := 367) (by decide +kernel)⟩
theorem lw_p27 : lw_okq (⟨"TowerIntegrals", "dividesByE", "(I)Z"⟩, 3) := ⟨⟨by decide +kernel, by decide +kernel⟩, List.mem_of_getElem? (i := 11) (by decide +kernel), List.mem_of_getElem? (i := 370) (by decide +kernel), List.mem_of_getElem? (i := 371) (by decide +kernel)⟩
theorem lw_p28 : lw_okq (⟨"TowerIntegrals", "valueInX", "(IIII)I"⟩, 3) := ⟨⟨by decide +kernel, by decide +kernel⟩, List.mem_of_getElem? (i := 11) (by decide +kernel), List.mem_of_getElem? (i := 377) (by decide +kernel), List.mem_of_getElem? (i := 378) (by decide +kernel)⟩
theorem lw_p29 : lw_okq (⟨"TowerIntegralsModel", "keep", "()I"⟩, 8) := ⟨⟨by decide +kernel, by decide +kernel⟩, List.mem_of_getElem? (i := 388) (by decide +kernel), List.mem_of_getElem? (i := 441) (by decide +kernel), List.mem_of_getElem? (i := 442) (by decide +kernel)⟩
theorem lw_p30 : lw_okq (⟨"TowerIntegralsModel", "may", "(II)Z"⟩, 8) := ⟨⟨by decide +kernel, by decide +kernel⟩, List.mem_of_getElem? (i := 388) (by decide +kernel), List.mem_of_getElem? (i := 454) (by decide +kernel), List.mem_of_getElem? (i := 455) (by decide +kernel)⟩
theorem lw_p31 : lw_okq (⟨"TowerIntegralsModel", "isThere", "(I)Z"⟩, 8) := ⟨⟨by decide +kernel, by decide +kernel⟩, List.mem_of_getElem? (i := 388) (by decide +kernel), List.mem_of_getElem? (i := 458) (by decide +kernel), List.mem_of_getElem? (i := 459) (by decide +kernel)⟩
def lw_privs_2 : List (MethodName × Nat) := [(⟨"TowerIntegrals", "draftProduct", "()V"⟩, 3), (⟨"TowerIntegrals", "slopeIsTooFar", "(I)Z"⟩, 3), (⟨"TowerIntegrals", "slopeNumber", "(III)I"⟩, 3), (⟨"TowerIntegrals", "draftSlope", "(I)V"⟩, 3), (⟨"TowerIntegrals", "hasRest", "(I)Z"⟩, 3), (⟨"TowerIntegrals", "restOf", "(II)I"⟩, 3), (⟨"TowerIntegrals", "integralIsTooFar", "(I)Z"⟩, 3), (⟨"TowerIntegrals", "draftLogIntegral", "(I)V"⟩, 3), (⟨"TowerIntegrals", "draftConstantPowerIntegral", "(I)V"⟩, 3), (⟨"TowerIntegrals", "draftExponentialIntegral", "(I)V"⟩, 3), (⟨"TowerIntegrals", "dividesByX", "(I)Z"⟩, 3), (⟨"TowerIntegrals", "dividesByE", "(I)Z"⟩, 3), (⟨"TowerIntegrals", "valueInX", "(IIII)I"⟩, 3), (⟨"TowerIntegralsModel", "keep", "()I"⟩, 8), (⟨"TowerIntegralsModel", "may", "(II)Z"⟩, 8), (⟨"TowerIntegralsModel", "isThere", "(I)Z"⟩, 8)]
theorem lw_r2 : ∀ q ∈ lw_privs_2, lw_okq q := List.forall_mem_cons.mpr ⟨lw_p16, List.forall_mem_cons.mpr ⟨lw_p17, List.forall_mem_cons.mpr ⟨lw_p18, List.forall_mem_cons.mpr ⟨lw_p19, List.forall_mem_cons.mpr ⟨lw_p20, List.forall_mem_cons.mpr ⟨lw_p21, List.forall_mem_cons.mpr ⟨lw_p22, List.forall_mem_cons.mpr ⟨lw_p23, List.forall_mem_cons.mpr ⟨lw_p24, List.forall_mem_cons.mpr ⟨lw_p25, List.forall_mem_cons.mpr ⟨lw_p26, List.forall_mem_cons.mpr ⟨lw_p27, List.forall_mem_cons.mpr ⟨lw_p28, List.forall_mem_cons.mpr ⟨lw_p29, List.forall_mem_cons.mpr ⟨lw_p30, List.forall_mem_cons.mpr ⟨lw_p31, fun _ h => absurd h List.not_mem_nil⟩⟩⟩⟩⟩⟩⟩⟩⟩⟩⟩⟩⟩⟩⟩⟩
theorem lw_p32 : lw_okq (⟨"TowerIntegralsModel", "load", "([JI)V"⟩, 8) := ⟨⟨by decide +kernel, by decide +kernel⟩, List.mem_of_getElem? (i := 388) (by decide +kernel), List.mem_of_getElem? (i := 462) (by decide +kernel), List.mem_of_getElem? (i := 463) (by decide +kernel)⟩
theorem lw_p33 : lw_okq (⟨"TowerIntegralsModel", "has", "([JII)Z"⟩, 8) := ⟨⟨by decide +kernel, by decide +kernel⟩, List.mem_of_getElem? (i := 388) (by decide +kernel), List.mem_of_getElem? (i := 471) (by decide +kernel), List.mem_of_getElem? (i := 472) (by decide +kernel)⟩
theorem lw_p34 : lw_okq (⟨"TowerIntegralsModel", "raise", "(I)I"⟩, 8) := ⟨⟨by decide +kernel, by decide +kernel⟩, List.mem_of_getElem? (i := 388) (by decide +kernel), List.mem_of_getElem? (i := 475) (by decide +kernel), List.mem_of_getElem? (i := 476) (by decide +kernel)⟩
theorem lw_p35 : lw_okq (⟨"TowerIntegralsModel", "start", "()V"⟩, 8) := ⟨⟨by decide +kernel, by decide +kernel⟩, List.mem_of_getElem? (i := 388) (by decide +kernel), List.mem_of_getElem? (i := 479) (by decide +kernel), List.mem_of_getElem? (i := 480) (by decide +kernel)⟩
theorem lw_p36 : lw_okq (⟨"TowerIntegralsModel", "narrow", "()I"⟩, 8) := ⟨⟨by decide +kernel, by decide +kernel⟩, List.mem_of_getElem? (i := 388) (by decide +kernel), List.mem_of_getElem? (i := 486) (by decide +kernel), List.mem_of_getElem? (i := 487) (by decide +kernel)⟩
theorem lw_p37 : lw_okq (⟨"TowerIntegralsModel", "restOf", "(I)J"⟩, 8) := ⟨⟨by decide +kernel, by decide +kernel⟩, List.mem_of_getElem? (i := 388) (by decide +kernel), List.mem_of_getElem? (i := 501) (by decide +kernel), List.mem_of_getElem? (i := 502) (by decide +kernel)⟩
def lw_privs_3 : List (MethodName × Nat) := [(⟨"TowerIntegralsModel", "load", "([JI)V"⟩, 8), (⟨"TowerIntegralsModel", "has", "([JII)Z"⟩, 8), (⟨"TowerIntegralsModel", "raise", "(I)I"⟩, 8), (⟨"TowerIntegralsModel", "start", "()V"⟩, 8), (⟨"TowerIntegralsModel", "narrow", "()I"⟩, 8), (⟨"TowerIntegralsModel", "restOf", "(I)J"⟩, 8)]
theorem lw_r3 : ∀ q ∈ lw_privs_3, lw_okq q := List.forall_mem_cons.mpr ⟨lw_p32, List.forall_mem_cons.mpr ⟨lw_p33, List.forall_mem_cons.mpr ⟨lw_p34, List.forall_mem_cons.mpr ⟨lw_p35, List.forall_mem_cons.mpr ⟨lw_p36, List.forall_mem_cons.mpr ⟨lw_p37, fun _ h => absurd h List.not_mem_nil⟩⟩⟩⟩⟩⟩
def lw_privs : List (MethodName × Nat) := lw_privs_1 ++ (lw_privs_2 ++ (lw_privs_3))
def lw_tbl : List Cond := k2_sels lw_privs ++ tables_1
theorem lw_privs_ok : ∀ q ∈ lw_privs, lw_okq q := by
  show ∀ q ∈ lw_privs_1 ++ (lw_privs_2 ++ (lw_privs_3)), lw_okq q
  exact List.forall_mem_append.mpr ⟨lw_r1, List.forall_mem_append.mpr ⟨lw_r2, lw_r3⟩⟩
end
section
/-! ===== BEGIN words of one list among another's, by their places ===== -/
theorem goodIn_r {big : List Cond} (ws : List Cond) (ps : List Nat) (hp : ws = ps.filterMap (fun i => big[i]?)) (h : ws.all goodWord = true) : GoodIn big ws := by
  intro w hw
  have h1 := List.all_eq_true.mp h w hw
  rw [hp] at hw
  obtain ⟨i, -, hi⟩ := List.mem_filterMap.mp hw
  have hm : w ∈ big := by first | exact List.mem_of_getElem? hi | exact List.getElem?_mem hi
  exact ⟨hm, good_of_word h1⟩
theorem goodIn_app {big a b : List Cond} (ha : GoodIn big a) (hb : GoodIn big b) : GoodIn big (a ++ b) := fun w h => (List.mem_append.mp h).elim (ha w) (hb w)
theorem goodIn_ca {big a b : List Cond} {c : Cond} (ha : GoodIn big (c :: a)) (hb : GoodIn big b) : GoodIn big (c :: (a ++ b)) := fun w h => (List.mem_cons.mp h).elim (fun e => ha w (List.mem_cons.mpr (Or.inl e))) (fun h => (List.mem_append.mp h).elim (fun h => ha w (List.mem_cons.mpr (Or.inr h))) (hb w))
theorem goodIn_sub {big ws : List Cond} (hm : ∀ w ∈ ws, w ∈ big) (h : ws.all goodWord = true) : GoodIn big ws := fun w hw => ⟨hm w hw, good_of_word (List.all_eq_true.mp h w hw)⟩
/-! ===== END ===== -/

/-! ===== BEGIN exceptions that leave a method, and their catching by the caller (launches without stack traces) ===== -/
section VXA
/-! The laws vx_back, vx_callV, vx_callS, vx_callSW, vx_throw0, vx_throwS follow proofs of the library, with one case more: JvmDerived/Free/Laws.lean (Back.of_free), Shelf42/LK1.lean (callV, callS), Shelf/KitTraced.lean (throwNew0V, throwNewS). -/
/-- where a method has thrown q: the class by its name, the cell, what was written, the world -/
def vx_T (XC : String → State → State → Prop) (st : State) (q : Addr) (t : State) (mc ms : Nat) (free : Addr → Prop) : Prop :=
  ∃ (E : String) (ce : Cell) (L : List Loc), XC E st t ∧ t.heap[q]? = some ce ∧ ce.vm = .none ∧ st.vm.findClass E = some ce.cls ∧ st.WarmedH t.vm ∧ st.sameButNew ({ t with vm := st.vm } : State) L mc ms ∧ ∀ z ∈ L, free z.base
def vx_Q (Qc : Array Value → State → Outcome → State → Prop) (XC : String → State → State → Prop) (mc ms : Nat) (free : Addr → Prop) : Array Value → State → Outcome → State → Prop := fun a st o t =>
  (Qc a st o t ∧ ∃ L, FrameEnd st o t L mc ms ∧ ∀ q ∈ L, free q.base) ∨ ∃ q, o = .threw q ∧ vx_T XC st q t mc ms free
/-- a callee that returns or throws -/
def vx_Met (l : Launch) (y : MethodName) (ws : List Cond) (rm : Room) (Pc : Array Value → State → Prop) (Qc : Array Value → State → Outcome → State → Prop) (XC : String → State → State → Prop) (mc ms : Nat) (free : Addr → Prop) : Prop :=
  MetFree l y (headSpec ws rm) Pc (fun _ _ _ _ _ => True) (vx_Q Qc XC mc ms free)
def vx_Post (XC : String → State → State → Prop) (mc ms : Nat) (free : Addr → Prop) : Pt → Array Value → Addr → Pt → Prop := fun A a q B =>
  ∃ (g : JFrame) (mk : MethodId) (t : State) (L : List Loc) (E : String) (ce : Cell), B.U.heap = t.heap ∧ B.U.vm = t.vm ∧ XC E (A.U.calling g mk a) t ∧ t.heap[q]? = some ce ∧ ce.vm = .none ∧ A.U.vm.findClass E = some ce.cls ∧ B.locs = A.locs ++ L ∧ (∀ z ∈ L, free z.base) ∧ B.cells = A.cells + mc ∧ B.slots = A.slots + ms
def vx_Back (l : Launch) (R : Room) (p : Program) (e : Env) (below : List Frame) (s : State) (sargs : Array Value) (y : MethodName) (len W9 : Nat)
    (Pre : Pt → Array Value → Prop) (Post : Pt → Array Value → Option Value → Pt → Prop) (PostX : Pt → Array Value → Addr → Pt → Prop) : Prop :=
  ∀ (m : MethodId) (meth : Method) (c : Code) (A : Pt) (g : JFrame) (ig : Instr) (mk : MethodId) (a : Array Value),
    Stand p l e R s m sargs below meth c A.U A.locs A.cells A.slots → g.method = m → g.locals.size = c.maxLocals → decode c.code g.pc = .ok (ig, len) →
    2 * g.monitorRoom + (g.stack.map fun v => v.category).sum ≤ W9 → A.U.methodNamed? y = some mk → Pre A a →
    (∃ (v : Option Value) (B : Pt), Stand p l e R s m sargs below meth c B.U B.locs B.cells B.slots ∧ Post A a v B ∧
      Steps p.tables e below (doInvoke e (A.U.setTop g) [] mk a).1 (B.U.setTop { g with pc := g.pc + len, stack := v.toList ++ g.stack })) ∨
    (∃ (q : Addr) (B : Pt), Stand p l e R s m sargs below meth c B.U B.locs B.cells B.slots ∧ PostX A a q B ∧
      Steps p.tables e below (doInvoke e (A.U.setTop g) [] mk a).1 ((B.U.setTop g).pushFrame (.throwing q)))
section Payer
variable {l : Launch} {R : Room} {p : Program} {e : Env} {below : List Frame} {s : State} {sargs : Array Value} {y : MethodName} {len W9 : Nat}
theorem vx_back {ws : List Cond} {rm : Room} {Pc : Array Value → State → Prop} {Qc : Array Value → State → Outcome → State → Prop} {XC : String → State → State → Prop} {mc ms : Nat} {free : Addr → Prop} {bytes : ByteArray} {maxL : Nat} {ret : Option FieldType}
    (hM : vx_Met l y ws rm Pc Qc XC mc ms free) (hblind : FrameBlind Pc) (hrc : rm.cells = mc) (hrs : rm.slots = ms)
    (hframes : rm.frames + 1 ≤ R.frames) (hlocals : W9 + (maxL + 11) + rm.locals ≤ R.locals)
    (hws : ∀ w ∈ ws, ∀ a' U, s.WarmedH U.vm → w.before a' U = true) (hcode : Cond.code y bytes maxL ret ∈ ws) (hinit : ∀ a' U, s.WarmedH U.vm → (Cond.initialized y.cls).before a' U = true) :
    vx_Back l R p e below s sargs y len W9 (PreOf R mc ms Pc) (PostOf Qc mc ms free) (vx_Post XC mc ms free) := by
  intro m meth c A g ig mk a X hg hsize hdg hW hn hp
  have h1 : (headSpec ws rm).pre.before a A.U = true := atoms_intro fun w hw => hws w hw _ _ X.warmed
  have h2 : (Cond.code y bytes maxL ret).before a A.U = true := hws _ hcode _ _ X.warmed
  have h3 : (Cond.initialized y.cls).before a A.U = true := hinit _ _ X.warmed
  have h4 : A.cells + (headSpec ws rm).room.cells ≤ R.cells := by rw [show (headSpec ws rm).room.cells = mc from hrc]; exact hp.1
  have h5 : A.slots + (headSpec ws rm).room.slots ≤ R.slots := by rw [show (headSpec ws rm).room.slots = ms from hrs]; exact hp.2.1
  have hPc : Pc a (A.U.calling g mk a) := hblind _ _ _ _ hp.2.2
  obtain ⟨U, Ls, c0, s0⟩ := A
  dsimp only [Pt.U, Pt.locs, Pt.cells, Pt.slots] at h1 h2 h3 h4 h5 X hn hPc ⊢
  obtain ⟨methY, cY, hmY, hcY, -, hlY, -, -, -, -⟩ := Cond.code_spec hn h2
  obtain ⟨kY, hkY, -⟩ := className_of_methodNamed hn
  have hinitY : kY.init = .initialized := Cond.initialized_spec (findClass_of_methodNamed hn) hkY h3
  have h : At U g.method c below := by rw [hg]; exact X.here
  have hlocals9 : W9 + (maxL + 11) + (headSpec ws rm).room.locals ≤ R.locals := hlocals
  have happ : (headSpec ws rm).appliesLoose y e.platform (U.calling g mk a) = true :=
    Spec.appliesLoose_calling (g := g) h hdg hn hkY hinitY
      (X.room_calling (g := g) (R' := (headSpec ws rm).room) hsize hmY hcY hframes (by rw [hlY]; omega) h4 h5) h1
  obtain ⟨mid, hmid⟩ := h.above
  have hfr : (U.setTop g).frames = (.java g :: mid) ++ below := by rw [State.frames_setTop' g h.top, hmid]; rfl
  obtain ⟨o, s₂, hsteps, -, hend, hq⟩ := Steps.callFree hM p X.admits X.cas X.clock (acts := []) hfr happ hPc trivial
  have hq' : vx_Q Qc XC mc ms free a (U.calling g mk a) o s₂ := hq
  rw [State.frames_setTop' g h.top] at hend
  obtain ⟨g₀, hg0⟩ := Option.isSome_iff_exists.mp h.top
  obtain ⟨r, hr⟩ := State.topJava?_eq_some.mp hg0
  have hr' : (({ U with heap := s₂.heap, slotsUsed := s₂.slotsUsed } : State).setVm s₂.vm).frames = .java g₀ :: r := hr
  rcases hq' with ⟨hqc, L, hfe, hL⟩ | ⟨q, rfl, E, ce, L, hx, hce, hcv, hcl, hW₂, hsm, hL⟩
  · obtain ⟨⟨v, rfl⟩, hW₂, e2, q2, q3, q4, q5, q6⟩ := id hfe
    have e3 : s₂ = ({ (U.calling g mk a).setFrames s₂.frames with heap := s₂.heap, slotsUsed := s₂.slotsUsed } : State).setVm s₂.vm := by
      have : s₂ = ({ s₂ with vm := (U.calling g mk a).vm } : State).setVm s₂.vm := rfl
      rw [e2] at this
      exact this
    obtain ⟨c₂, i₂, len₂, hc₂, hd₂, hf₂⟩ := hend
    have hW' : U.WarmedH s₂.vm := hW₂
    have hcc : c₂ = c := by
      have h1 : s₂.code? g.method = U.code? g.method := by
        rw [State.code?_eq, State.code?_eq, hW'.alike.method?]
      exact Option.some.inj (hc₂.symm.trans (h1.trans h.code))
    subst hcc
    have hlen : len₂ = len := by rw [hdg] at hd₂; cases hd₂; rfl
    subst hlen
    have hs₂ : s₂ = (({ U with heap := s₂.heap, slotsUsed := s₂.slotsUsed } : State).setVm s₂.vm).setTop { g with pc := g.pc + len₂, stack := v.toList ++ g.stack } := by
      refine e3.trans ?_
      rw [hf₂, State.calling_eq h.top, State.setFrames_setFrames, State.setTop_of_frames _ hr', hr]
      rfl
    have hsame : U.sameButNew ({ U with heap := s₂.heap, slotsUsed := s₂.slotsUsed } : State) L mc ms := by
      refine ⟨?_, q2, q3, q4, q5, q6⟩
      obtain ⟨t, ht, -⟩ := State.frames_cons hr
      show ({ U with heap := s₂.heap, slotsUsed := s₂.slotsUsed } : State) = { U.setFrames U.frames with heap := s₂.heap, slotsUsed := s₂.slotsUsed }
      rw [State.setFrames_self ht]
    subst hg
    refine Or.inl ⟨v, ⟨(({ U with heap := s₂.heap, slotsUsed := s₂.slotsUsed } : State).setVm s₂.vm), Ls ++ L, c0 + mc, s0 + ms⟩,
      ⟨X.admits, X.cas, X.clock, X.frames, X.room, X.hears, X.method, X.code, (X.here.setHeapUsed s₂.heap s₂.slotsUsed).setVm hW'.alike, X.tail, State.WarmedH.trans X.warmed hW', X.limits, X.bytes, X.same.trans (hsame.setVm s.vm)⟩,
      ⟨g, mk, s₂, L, rfl, rfl, hqc, rfl, hL, rfl, rfl⟩, ?_⟩
    show Steps p.tables e below _ ((({ U with heap := s₂.heap, slotsUsed := s₂.slotsUsed } : State).setVm s₂.vm).setTop { g with pc := g.pc + len₂, stack := v.toList ++ g.stack })
    rw [← hs₂]
    exact hsteps
  · obtain ⟨e2, q2, q3, q4, q5, q6⟩ := id hsm
    have e3 : s₂ = ({ (U.calling g mk a).setFrames s₂.frames with heap := s₂.heap, slotsUsed := s₂.slotsUsed } : State).setVm s₂.vm := by
      have : s₂ = ({ s₂ with vm := (U.calling g mk a).vm } : State).setVm s₂.vm := rfl
      rw [e2] at this
      exact this
    have hf₂ : s₂.frames = .throwing q :: .java g :: U.frames.tail := hend
    have hW' : U.WarmedH s₂.vm := hW₂
    have hs₂ : s₂ = ((({ U with heap := s₂.heap, slotsUsed := s₂.slotsUsed } : State).setVm s₂.vm).setTop g).pushFrame (.throwing q) := by
      refine e3.trans ?_
      rw [hf₂, State.calling_eq h.top, State.setFrames_setFrames, State.pushFrame, State.frames_setTop _ hr', State.setTop_of_frames _ hr', State.setFrames_setFrames, hr]
      rfl
    have hsame : U.sameButNew ({ U with heap := s₂.heap, slotsUsed := s₂.slotsUsed } : State) L mc ms := by
      refine ⟨?_, q2, q3, q4, q5, q6⟩
      obtain ⟨t, ht, -⟩ := State.frames_cons hr
      show ({ U with heap := s₂.heap, slotsUsed := s₂.slotsUsed } : State) = { U.setFrames U.frames with heap := s₂.heap, slotsUsed := s₂.slotsUsed }
      rw [State.setFrames_self ht]
    subst hg
    refine Or.inr ⟨q, ⟨(({ U with heap := s₂.heap, slotsUsed := s₂.slotsUsed } : State).setVm s₂.vm), Ls ++ L, c0 + mc, s0 + ms⟩,
      ⟨X.admits, X.cas, X.clock, X.frames, X.room, X.hears, X.method, X.code, (X.here.setHeapUsed s₂.heap s₂.slotsUsed).setVm hW'.alike, X.tail, State.WarmedH.trans X.warmed hW', X.limits, X.bytes, X.same.trans (hsame.setVm s.vm)⟩,
      ⟨g, mk, s₂, L, E, ce, rfl, rfl, hx, hce, hcv, hcl, rfl, hL, rfl, rfl⟩, ?_⟩
    show Steps p.tables e below _ (((({ U with heap := s₂.heap, slotsUsed := s₂.slotsUsed } : State).setVm s₂.vm).setTop g).pushFrame (.throwing q))
    rw [← hs₂]
    exact hsteps
end Payer
section Calls
variable {p : Program} {l : Launch} {e : Env} {R : Room} {s : State} {m : MethodId} {args : Array Value} {below : List Frame} {meth : Method} {c : Code} {T : State} {locs : List Loc} {cells slots : Nat}
theorem vx_callV (X : Stand p l e R s m args below meth c T locs cells slots) (hexec : p.tables.exec = Jvm.exec) {own C : String} {index : Nat} {y : MethodName} {bytes : ByteArray} {maxL : Nat} {ret : Option FieldType}
    (hown : s.vm.findClass own = some m.cls) (hlink : (Cond.methodLink own index y).before args s = true) (hinst : (Cond.instanceMethod y).before args s = true) (hsel : (Cond.selects C y y).before args s = true)
    (hcode : (Cond.code y bytes maxL ret).before args s = true) (hy : y.cls ≠ "java/lang/invoke/MethodHandle" ∧ y.cls ≠ "java/lang/invoke/VarHandle")
    {W9 : Nat} {Pre : Pt → Array Value → Prop} {Post : Pt → Array Value → Option Value → Pt → Prop} {PostX : Pt → Array Value → Addr → Pt → Prop} (hK : vx_Back l R p e below s args y 3 W9 Pre Post PostX)
    {b : Addr} {cellB : Cell} (hcell : T.heap[b]? = some cellB) (hobj : cellB.vm.isStatics = false) (hcls : s.vm.findClass C = some cellB.cls)
    {g : JFrame} (hg : g.method = m) (hsize : g.locals.size = c.maxLocals) {argsL rest : List Value} (hlen : ∀ sig, parseMethodDescriptor y.desc = some sig → argsL.length = sig.parameters.length)
    (hstack : g.stack = argsL.reverse ++ .ref b :: rest) (hW : 2 * g.monitorRoom + (rest.map fun v => v.category).sum ≤ W9) (hdg : decode c.code g.pc = .ok (.invokevirtual index, 3))
    (hpre : ∀ vm₁, s.WarmedH vm₁ → Pre ⟨T.setVm vm₁, locs, cells, slots⟩ (Value.ref b :: argsL).toArray) :
    (∃ (v : Option Value) (vm₁ : Vm) (B : Pt), s.WarmedH vm₁ ∧ Stand p l e R s m args below meth c B.U B.locs B.cells B.slots ∧ Post ⟨T.setVm vm₁, locs, cells, slots⟩ (Value.ref b :: argsL).toArray v B ∧
      ∀ target, Steps p.tables e below (B.U.setTop { g with pc := g.pc + 3, stack := v.toList ++ rest }) target → Steps p.tables e below (T.setTop g) target) ∨
    (∃ (q : Addr) (vm₁ : Vm) (B : Pt), s.WarmedH vm₁ ∧ Stand p l e R s m args below meth c B.U B.locs B.cells B.slots ∧ PostX ⟨T.setVm vm₁, locs, cells, slots⟩ (Value.ref b :: argsL).toArray q B ∧
      Steps p.tables e below (T.setTop g) ((B.U.setTop { g with stack := rest }).pushFrame (.throwing q))) := by
  obtain ⟨mk, methM, hnamed, hmethM, hstM, habM⟩ := Cond.instanceMethod_spec hinst
  obtain ⟨methM', cM, hmethM', -, -, -, -, -, -, hsigM⟩ := Cond.code_spec hnamed hcode
  cases hmethM.symm.trans hmethM'
  obtain ⟨c2, r2, m2, q1, q2, q3, q4, kP, hkP, hkPi⟩ := Cond.selects_spec hsel
  cases hcls.symm.trans q1
  cases (State.methodFound?_of_named hnamed hy).symm.trans q2
  cases hnamed.symm.trans q3
  have hselP : selectMethod e.platform s.vm cellB.cls mk = .method mk := by rw [Launch.admits_selectMethod X.admits]; exact q4
  obtain ⟨vm₁, X₁, hstep₁⟩ := X.invokevirtual hexec hown hlink hnamed hmethM hstM hkP hkPi hy (a := b) (cell := cellB) hcell
    (fun z h => by rw [h] at hobj; cases hobj) hselP hmethM habM hkP hkPi (g := g) hg (argsL := argsL) (rest := rest) (hlen _ hsigM) hstack hdg
  rcases hK m meth c ⟨T.setVm vm₁, locs, cells, slots⟩ { g with stack := rest } (.invokevirtual index) mk (Value.ref b :: argsL).toArray X₁ hg hsize hdg hW (X₁.named hnamed) (hpre vm₁ X₁.warmed) with ⟨v, B, X', hpost, hsteps⟩ | ⟨q, B, X', hpost, hsteps⟩
  · exact Or.inl ⟨v, vm₁, B, X₁.warmed, X', hpost, fun target h => hstep₁ _ fun acts => by rw [doInvoke_state]; exact hsteps.trans h⟩
  · exact Or.inr ⟨q, vm₁, B, X₁.warmed, X', hpost, hstep₁ _ fun acts => by rw [doInvoke_state]; exact hsteps⟩
theorem vx_callS (X : Stand p l e R s m args below meth c T locs cells slots) (hexec : p.tables.exec = Jvm.exec) {own : String} {index : Nat} {y : MethodName} {bytes : ByteArray} {maxL : Nat} {ret : Option FieldType}
    (hown : s.vm.findClass own = some m.cls) (hlink : (Cond.methodLink own index y).before args s = true) (hstat : (Cond.static y).before args s = true) (hinit : (Cond.initialized y.cls).before args s = true)
    (hcode : (Cond.code y bytes maxL ret).before args s = true) (hy : y.cls ≠ "java/lang/invoke/MethodHandle" ∧ y.cls ≠ "java/lang/invoke/VarHandle")
    {W9 : Nat} {Pre : Pt → Array Value → Prop} {Post : Pt → Array Value → Option Value → Pt → Prop} {PostX : Pt → Array Value → Addr → Pt → Prop} (hK : vx_Back l R p e below s args y 3 W9 Pre Post PostX)
    {g : JFrame} (hg : g.method = m) (hsize : g.locals.size = c.maxLocals) {argsL rest : List Value} (hlen : ∀ sig, parseMethodDescriptor y.desc = some sig → argsL.length = sig.parameters.length)
    (hstack : g.stack = argsL.reverse ++ rest) (hW : 2 * g.monitorRoom + (rest.map fun v => v.category).sum ≤ W9) (hdg : decode c.code g.pc = .ok (.invokestatic index, 3))
    (hpre : ∀ vm₁, s.WarmedH vm₁ → Pre ⟨T.setVm vm₁, locs, cells, slots⟩ argsL.toArray) :
    (∃ (v : Option Value) (vm₁ : Vm) (B : Pt), s.WarmedH vm₁ ∧ Stand p l e R s m args below meth c B.U B.locs B.cells B.slots ∧ Post ⟨T.setVm vm₁, locs, cells, slots⟩ argsL.toArray v B ∧
      ∀ target, Steps p.tables e below (B.U.setTop { g with pc := g.pc + 3, stack := v.toList ++ rest }) target → Steps p.tables e below (T.setTop g) target) ∨
    (∃ (q : Addr) (vm₁ : Vm) (B : Pt), s.WarmedH vm₁ ∧ Stand p l e R s m args below meth c B.U B.locs B.cells B.slots ∧ PostX ⟨T.setVm vm₁, locs, cells, slots⟩ argsL.toArray q B ∧
      Steps p.tables e below (T.setTop g) ((B.U.setTop { g with stack := rest }).pushFrame (.throwing q))) := by
  obtain ⟨mk, hnamed⟩ := Cond.code_named hcode
  obtain ⟨methM, cM, hmethM, -, -, -, -, -, -, hsigM⟩ := Cond.code_spec hnamed hcode
  have hstatic : methM.isStatic = true := Cond.static_spec hnamed hmethM hstat
  obtain ⟨kP, hkP, -⟩ := className_of_methodNamed hnamed
  have hinitP : kP.init = .initialized := Cond.initialized_spec (findClass_of_methodNamed hnamed) hkP hinit
  obtain ⟨vm₁, X₁, hstep₁⟩ := X.invokestatic hexec hown hlink hnamed hmethM hstatic hkP hinitP hy (g := g) hg (argsL := argsL) (rest := rest) (hlen _ hsigM) hstack hdg
  rcases hK m meth c ⟨T.setVm vm₁, locs, cells, slots⟩ { g with stack := rest } (.invokestatic index) mk argsL.toArray X₁ hg hsize hdg hW (X₁.named hnamed) (hpre vm₁ X₁.warmed) with ⟨v, B, X', hpost, hsteps⟩ | ⟨q, B, X', hpost, hsteps⟩
  · exact Or.inl ⟨v, vm₁, B, X₁.warmed, X', hpost, fun target h => hstep₁ _ fun acts => by rw [doInvoke_state]; exact hsteps.trans h⟩
  · exact Or.inr ⟨q, vm₁, B, X₁.warmed, X', hpost, hstep₁ _ fun acts => by rw [doInvoke_state]; exact hsteps⟩
end Calls
theorem vx_cls {s : State} {T : State} {vm₁ : Vm} {E : String} {k : ClassId} (hW : s.WarmedH vm₁) (h : (T.setVm vm₁).vm.findClass E = some k) : s.vm.findClass E = some k := by
  have h1 : vm₁.findClass E = some k := h
  rw [hW.alike.findClass] at h1
  exact h1
/-- the method's frame g, with q thrown over it -/
def vx_W (p : Program) (l : Launch) (e : Env) (R : Room) (s : State) (m : MethodId) (args : Array Value) (below : List Frame) (meth : Method) (c : Code) (H : Heap) (locs : List Loc) (cells slots : Nat) (Q : State → Prop) (g : JFrame) (q : Addr) : Prop :=
  ∀ T : State, T.heap = H → Stand p l e R s m args below meth c T locs cells slots → ∃ t, Steps p.tables e below ((T.setTop g).pushFrame (.throwing q)) t ∧ Q t
def vx_Run (p : Program) (l : Launch) (e : Env) (R : Room) (s : State) (m : MethodId) (args : Array Value) (below : List Frame) (meth : Method) (c : Code) (H : Heap) (locs : List Loc) (cells slots mc ms : Nat) (g : JFrame) (rest : List Value) (Qa : State → Outcome → State → Prop) (XC : String → State → State → Prop) (free : Addr → Prop) : Prop :=
  ∀ T : State, T.heap = H → Stand p l e R s m args below meth c T locs cells slots →
    (∃ (v : Option Value) (st₀ t T' : State) (L : List Loc), st₀.heap = H ∧ Stand p l e R s m args below meth c T' (locs ++ L) (cells + mc) (slots + ms) ∧ (∀ q ∈ L, free q.base) ∧ T'.heap = t.heap ∧ T'.vm = t.vm ∧ Qa st₀ (.returned v) t ∧
      Goes p e below T g T' { g with pc := g.pc + 3, stack := v.toList ++ rest }) ∨
    (∃ (q : Addr) (st₀ t T' : State) (L : List Loc) (E : String) (ce : Cell), st₀.heap = H ∧ Stand p l e R s m args below meth c T' (locs ++ L) (cells + mc) (slots + ms) ∧ (∀ z ∈ L, free z.base) ∧ T'.heap = t.heap ∧ T'.vm = t.vm ∧ XC E st₀ t ∧ t.heap[q]? = some ce ∧ ce.vm = .none ∧ s.vm.findClass E = some ce.cls ∧
      Steps p.tables e below (T.setTop g) ((T'.setTop { g with stack := rest }).pushFrame (.throwing q)))
def vx_X {S : Type} (px : S → Prop) (B : String → S → State → Prop) (A : Nat → Prop) : String → State → State → Prop := fun E st t => ∃ u : S, px u ∧ B E u t ∧ va_F A st t
section Runs
variable {p : Program} {l : Launch} {e : Env} {R : Room} {s : State} {m : MethodId} {args : Array Value} {below : List Frame} {meth : Method} {c : Code} {H : Heap} {locs : List Loc} {cells slots : Nat}
variable {y : MethodName} {bytes cc : ByteArray} {maxL nL mc ms n index : Nat} {ret : Option FieldType} {ws : List Cond} {rm : Room} {Pc : Array Value → State → Prop} {Qc : Array Value → State → Outcome → State → Prop} {XC : String → State → State → Prop} {free : Addr → Prop} {Ts : List Cond} {own C : String} {b : Addr} {As rest : List Value} {g : JFrame}
theorem vx_callBack (cb : CallB R s args own index y bytes maxL ret ws rm mc ms n) (hM : vx_Met l y ws rm Pc Qc XC mc ms free) (hbl : FrameBlind Pc) : vx_Back l R p e below s args y 3 8 (PreOf R mc ms Pc) (PostOf Qc mc ms free) (vx_Post XC mc ms free) := by
  obtain ⟨hrc, hrs, hfr, hlo, hws, hcw, -, hini, -⟩ := cb
  exact vx_back (bytes := bytes) (maxL := maxL) (ret := ret) hM hbl hrc hrs hfr hlo hws hcw (fun a' U hW => word_at hW (Or.inl (by first | rfl | simp [Cond.onTables, Cond.keeps, Cond.steady])) hini)
theorem vx_runV (S : CallFix p m c cc nL s args Ts own) (hM : vx_Met l y ws rm Pc Qc XC mc ms free) (cw : CallW R s args own C index y bytes maxL ret ws rm mc ms n) (hp : PreV s H C b Pc As)
    (hg : g.method = m) (hn : As.length = n) (hsize : g.locals.size = nL) (hstack : g.stack = As.reverse ++ .ref b :: rest) (hW : 2 * g.monitorRoom + (rest.map fun v => v.category).sum ≤ 8) (hdg : decode cc g.pc = .ok (.invokevirtual index, 3)) (hf : cells + mc ≤ R.cells ∧ slots + ms ≤ R.slots) :
    vx_Run p l e R s m args below meth c H locs cells slots mc ms g rest (Qc (Value.ref b :: As).toArray) XC free := by
  have hK : vx_Back l R p e below s args y 3 8 (PreOf R mc ms Pc) (PostOf Qc mc ms free) (vx_Post XC mc ms free) := vx_callBack cw.1 hM hp.1
  obtain ⟨⟨-, -, -, -, -, -, hcode, -, hy, hlen, hl⟩, hin, hse⟩ := cw
  obtain ⟨hx, hb, hml, ho, -⟩ := S
  obtain ⟨-, ⟨cellB, hcB, hoB, hclB⟩, hPc⟩ := hp
  intro T hT X
  rcases vx_callV X hx (C := C) (bytes := bytes) (maxL := maxL) (ret := ret) ho hl hin hse hcode hy hK (by rw [hT]; exact hcB) hoB hclB hg (hsize.trans hml.symm) (argsL := As) (rest := rest) (fun sig h => hn.trans (hlen sig h)) hstack hW (by rw [hb]; exact hdg)
    (fun vm₁ hW₁ => ⟨hf.1, hf.2, hPc (T.setVm vm₁) hT hW₁⟩) with ⟨v, vm₁, ⟨U', l2, c2, s2⟩, hW₁, X', ⟨g', mk, t, L, e1, e2, hq, h1, hL, h2, h3⟩, st⟩ | ⟨q, vm₁, ⟨U', l2, c2, s2⟩, hW₁, X', ⟨g', mk, t, L, E, ce, e1, e2, hq, hce, hcv, hcl, h1, hL, h2, h3⟩, st⟩
  · dsimp only [Pt.U, Pt.locs, Pt.cells, Pt.slots] at X' e1 e2 h1 h2 h3 st
    subst h1; subst h2; subst h3
    exact Or.inl ⟨v, (T.setVm vm₁).calling g' mk (Value.ref b :: As).toArray, t, U', L, hT, X', hL, e1, e2, hq, st⟩
  · dsimp only [Pt.U, Pt.locs, Pt.cells, Pt.slots] at X' e1 e2 h1 h2 h3 st hcl
    subst h1; subst h2; subst h3
    exact Or.inr ⟨q, (T.setVm vm₁).calling g' mk (Value.ref b :: As).toArray, t, U', L, E, ce, hT, X', hL, e1, e2, hq, hce, hcv, vx_cls hW₁ hcl, st⟩
theorem vx_runS (S : CallFix p m c cc nL s args Ts own) (hM : vx_Met l y ws rm Pc Qc XC mc ms free) (cw : CallB R s args own index y bytes maxL ret ws rm mc ms n ∧ (Cond.static y).before args s = true) (hp : PreS s H Pc As)
    (hg : g.method = m) (hn : As.length = n) (hsize : g.locals.size = nL) (hstack : g.stack = As.reverse ++ rest) (hW : 2 * g.monitorRoom + (rest.map fun v => v.category).sum ≤ 8) (hdg : decode cc g.pc = .ok (.invokestatic index, 3)) (hf : cells + mc ≤ R.cells ∧ slots + ms ≤ R.slots) :
    vx_Run p l e R s m args below meth c H locs cells slots mc ms g rest (Qc As.toArray) XC free := by
  have hK : vx_Back l R p e below s args y 3 8 (PreOf R mc ms Pc) (PostOf Qc mc ms free) (vx_Post XC mc ms free) := vx_callBack cw.1 hM hp.1
  obtain ⟨⟨-, -, -, -, -, -, hcode, hini, hy, hlen, hl⟩, hstt⟩ := cw
  obtain ⟨hx, hb, hml, ho, -⟩ := S
  intro T hT X
  rcases vx_callS X hx (bytes := bytes) (maxL := maxL) (ret := ret) ho hl hstt hini hcode hy hK hg (hsize.trans hml.symm) (argsL := As) (rest := rest) (fun sig h => hn.trans (hlen sig h)) hstack hW (by rw [hb]; exact hdg)
    (fun vm₁ hW₁ => ⟨hf.1, hf.2, hp.2 (T.setVm vm₁) hT hW₁⟩) with ⟨v, vm₁, ⟨U', l2, c2, s2⟩, hW₁, X', ⟨g', mk, t, L, e1, e2, hq, h1, hL, h2, h3⟩, st⟩ | ⟨q, vm₁, ⟨U', l2, c2, s2⟩, hW₁, X', ⟨g', mk, t, L, E, ce, e1, e2, hq, hce, hcv, hcl, h1, hL, h2, h3⟩, st⟩
  · dsimp only [Pt.U, Pt.locs, Pt.cells, Pt.slots] at X' e1 e2 h1 h2 h3 st
    subst h1; subst h2; subst h3
    exact Or.inl ⟨v, (T.setVm vm₁).calling g' mk As.toArray, t, U', L, hT, X', hL, e1, e2, hq, st⟩
  · dsimp only [Pt.U, Pt.locs, Pt.cells, Pt.slots] at X' e1 e2 h1 h2 h3 st hcl
    subst h1; subst h2; subst h3
    exact Or.inr ⟨q, (T.setVm vm₁).calling g' mk As.toArray, t, U', L, E, ce, hT, X', hL, e1, e2, hq, hce, hcv, vx_cls hW₁ hcl, st⟩
end Runs
section Rows
variable {p : Program} {l : Launch} {e : Env} {R : Room} {s : State} {m : MethodId} {args : Array Value} {below : List Frame} {meth : Method} {c : Code} {H : Heap} {locs : List Loc} {cells slots : Nat} {Q : State → Prop}
variable {mc ms : Nat} {free : Addr → Prop} {A0 A1 : Nat → Prop} {H0 : Heap} {a : Array Value} {pc : Nat} {ls : Array Slot} {st0 rest : List Value}
theorem vx_keep {st₀ t T' : State} {L : List Loc} (h0 : st₀.heap = H) (e1 : T'.heap = t.heap) (hS : va_S A0 H0 H locs) (hA : ∀ q, q < H.size → A1 q → A0 q) (hf : ∀ q, free q → A0 q) (hL : ∀ q ∈ L, free q.base) (hF : va_F A1 st₀ t) :
    H.size ≤ T'.heap.size ∧ (∀ q : Nat, q < H.size → ¬ A1 q → T'.heap[q]? = H[q]?) ∧ va_S A0 H0 T'.heap (locs ++ L) := by
  obtain ⟨hz, hk⟩ := hF
  rw [h0] at hz hk
  exact ⟨by rw [e1]; exact hz, fun q h1 h2 => by rw [e1]; exact hk q h1 h2,
    ⟨Nat.le_trans hS.1 (by rw [e1]; exact hz), fun q h1 h2 => by rw [e1, hk q (Nat.lt_of_lt_of_le h1 hS.1) (fun z => h2 (hA q (Nat.lt_of_lt_of_le h1 hS.1) z))]; exact hS.2.1 q h1 h2, fun q hq => by
      rcases List.mem_append.mp hq with h | h
      · exact hS.2.2 q h
      · exact hf _ (hL q h)⟩⟩
theorem vx_calli {S SX : Type} {post : Int32 → S → Prop} {px : SX → Prop} {B : S → State → Prop} {BX : String → SX → State → Prop} {AX : Nat → Prop} (hr : vx_Run p l e R s m args below meth c H locs cells slots mc ms (F0 m pc ls st0) rest (va_Qi post B A1 a) (vx_X px BX AX) free) (hS : va_S A0 H0 H locs) (hA : ∀ q, q < H.size → A1 q → A0 q) (hf : ∀ q, free q → A0 q) (hAX : ∀ q, q < H.size → AX q → A0 q)
    (kx : ∀ (E : String) (ce : Cell) (q9 : Addr) (u : SX) (t : State) (H1 : Heap) (locs1 : List Loc), t.heap = H1 → s.vm.Alike t.vm → px u → BX E u t → H.size ≤ H1.size → (∀ q : Nat, q < H.size → ¬ AX q → H1[q]? = H[q]?) → va_S A0 H0 H1 locs1 → H1[q9]? = some ce → ce.vm = .none → s.vm.findClass E = some ce.cls → vx_W p l e R s m args below meth c H1 locs1 (cells + mc) (slots + ms) Q (F0 m pc ls rest) q9)
    (kk : ∀ (r : Int32) (u : S) (t : State) (H1 : Heap) (locs1 : List Loc), t.heap = H1 → s.vm.Alike t.vm → post r u → B u t → H.size ≤ H1.size → (∀ q : Nat, q < H.size → ¬ A1 q → H1[q]? = H[q]?) → va_S A0 H0 H1 locs1 → W p l e R s m args below meth c H1 locs1 (cells + mc) (slots + ms) Q (F0 m (pc + 3) ls (.int r :: rest))) : W p l e R s m args below meth c H locs cells slots Q (F0 m pc ls st0) := by
  intro T hT X
  rcases hr T hT X with ⟨v, st₀, t, T', L, h0, X', hL, e1, e2, ⟨⟨r, u, hv, hp, hb⟩, hF⟩, st⟩ | ⟨q, st₀, t, T', L, E, ce, h0, X', hL, e1, e2, ⟨u, hp, hb, hF⟩, hce, hcv, hcl, st⟩
  · cases hv
    obtain ⟨k1, k2, k3⟩ := vx_keep h0 e1 hS hA hf hL hF
    obtain ⟨t2, a1, b1⟩ := kk r u t T'.heap (locs ++ L) e1.symm (by rw [← e2]; exact X'.warmed.alike) hp hb k1 k2 k3 T' rfl X'
    exact ⟨t2, st t2 a1, b1⟩
  · obtain ⟨k1, k2, k3⟩ := vx_keep h0 e1 hS hAX hf hL hF
    obtain ⟨t2, a1, b1⟩ := kx E ce q u t T'.heap (locs ++ L) e1.symm (by rw [← e2]; exact X'.warmed.alike) hp hb k1 k2 k3 (by rw [e1]; exact hce) hcv hcl T' rfl X'
    exact ⟨t2, st.trans a1, b1⟩
theorem vx_calll {S SX : Type} {post : Int64 → S → Prop} {px : SX → Prop} {B : S → State → Prop} {BX : String → SX → State → Prop} {AX : Nat → Prop} (hr : vx_Run p l e R s m args below meth c H locs cells slots mc ms (F0 m pc ls st0) rest (va_Ql post B A1 a) (vx_X px BX AX) free) (hS : va_S A0 H0 H locs) (hA : ∀ q, q < H.size → A1 q → A0 q) (hf : ∀ q, free q → A0 q) (hAX : ∀ q, q < H.size → AX q → A0 q)
    (kx : ∀ (E : String) (ce : Cell) (q9 : Addr) (u : SX) (t : State) (H1 : Heap) (locs1 : List Loc), t.heap = H1 → s.vm.Alike t.vm → px u → BX E u t → H.size ≤ H1.size → (∀ q : Nat, q < H.size → ¬ AX q → H1[q]? = H[q]?) → va_S A0 H0 H1 locs1 → H1[q9]? = some ce → ce.vm = .none → s.vm.findClass E = some ce.cls → vx_W p l e R s m args below meth c H1 locs1 (cells + mc) (slots + ms) Q (F0 m pc ls rest) q9)
    (kk : ∀ (r : Int64) (u : S) (t : State) (H1 : Heap) (locs1 : List Loc), t.heap = H1 → s.vm.Alike t.vm → post r u → B u t → H.size ≤ H1.size → (∀ q : Nat, q < H.size → ¬ A1 q → H1[q]? = H[q]?) → va_S A0 H0 H1 locs1 → W p l e R s m args below meth c H1 locs1 (cells + mc) (slots + ms) Q (F0 m (pc + 3) ls (.long r :: rest))) : W p l e R s m args below meth c H locs cells slots Q (F0 m pc ls st0) := by
  intro T hT X
  rcases hr T hT X with ⟨v, st₀, t, T', L, h0, X', hL, e1, e2, ⟨⟨r, u, hv, hp, hb⟩, hF⟩, st⟩ | ⟨q, st₀, t, T', L, E, ce, h0, X', hL, e1, e2, ⟨u, hp, hb, hF⟩, hce, hcv, hcl, st⟩
  · cases hv
    obtain ⟨k1, k2, k3⟩ := vx_keep h0 e1 hS hA hf hL hF
    obtain ⟨t2, a1, b1⟩ := kk r u t T'.heap (locs ++ L) e1.symm (by rw [← e2]; exact X'.warmed.alike) hp hb k1 k2 k3 T' rfl X'
    exact ⟨t2, st t2 a1, b1⟩
  · obtain ⟨k1, k2, k3⟩ := vx_keep h0 e1 hS hAX hf hL hF
    obtain ⟨t2, a1, b1⟩ := kx E ce q u t T'.heap (locs ++ L) e1.symm (by rw [← e2]; exact X'.warmed.alike) hp hb k1 k2 k3 (by rw [e1]; exact hce) hcv hcl T' rfl X'
    exact ⟨t2, st.trans a1, b1⟩
theorem vx_callf {S SX : Type} {post : UInt32 → S → Prop} {px : SX → Prop} {B : S → State → Prop} {BX : String → SX → State → Prop} {AX : Nat → Prop} (hr : vx_Run p l e R s m args below meth c H locs cells slots mc ms (F0 m pc ls st0) rest (va_Qf post B A1 a) (vx_X px BX AX) free) (hS : va_S A0 H0 H locs) (hA : ∀ q, q < H.size → A1 q → A0 q) (hf : ∀ q, free q → A0 q) (hAX : ∀ q, q < H.size → AX q → A0 q)
    (kx : ∀ (E : String) (ce : Cell) (q9 : Addr) (u : SX) (t : State) (H1 : Heap) (locs1 : List Loc), t.heap = H1 → s.vm.Alike t.vm → px u → BX E u t → H.size ≤ H1.size → (∀ q : Nat, q < H.size → ¬ AX q → H1[q]? = H[q]?) → va_S A0 H0 H1 locs1 → H1[q9]? = some ce → ce.vm = .none → s.vm.findClass E = some ce.cls → vx_W p l e R s m args below meth c H1 locs1 (cells + mc) (slots + ms) Q (F0 m pc ls rest) q9)
    (kk : ∀ (r : UInt32) (u : S) (t : State) (H1 : Heap) (locs1 : List Loc), t.heap = H1 → s.vm.Alike t.vm → post r u → B u t → H.size ≤ H1.size → (∀ q : Nat, q < H.size → ¬ A1 q → H1[q]? = H[q]?) → va_S A0 H0 H1 locs1 → W p l e R s m args below meth c H1 locs1 (cells + mc) (slots + ms) Q (F0 m (pc + 3) ls (.float r :: rest))) : W p l e R s m args below meth c H locs cells slots Q (F0 m pc ls st0) := by
  intro T hT X
  rcases hr T hT X with ⟨v, st₀, t, T', L, h0, X', hL, e1, e2, ⟨⟨r, u, hv, hp, hb⟩, hF⟩, st⟩ | ⟨q, st₀, t, T', L, E, ce, h0, X', hL, e1, e2, ⟨u, hp, hb, hF⟩, hce, hcv, hcl, st⟩
  · cases hv
    obtain ⟨k1, k2, k3⟩ := vx_keep h0 e1 hS hA hf hL hF
    obtain ⟨t2, a1, b1⟩ := kk r u t T'.heap (locs ++ L) e1.symm (by rw [← e2]; exact X'.warmed.alike) hp hb k1 k2 k3 T' rfl X'
    exact ⟨t2, st t2 a1, b1⟩
  · obtain ⟨k1, k2, k3⟩ := vx_keep h0 e1 hS hAX hf hL hF
    obtain ⟨t2, a1, b1⟩ := kx E ce q u t T'.heap (locs ++ L) e1.symm (by rw [← e2]; exact X'.warmed.alike) hp hb k1 k2 k3 (by rw [e1]; exact hce) hcv hcl T' rfl X'
    exact ⟨t2, st.trans a1, b1⟩
theorem vx_calld {S SX : Type} {post : UInt64 → S → Prop} {px : SX → Prop} {B : S → State → Prop} {BX : String → SX → State → Prop} {AX : Nat → Prop} (hr : vx_Run p l e R s m args below meth c H locs cells slots mc ms (F0 m pc ls st0) rest (va_Qd post B A1 a) (vx_X px BX AX) free) (hS : va_S A0 H0 H locs) (hA : ∀ q, q < H.size → A1 q → A0 q) (hf : ∀ q, free q → A0 q) (hAX : ∀ q, q < H.size → AX q → A0 q)
    (kx : ∀ (E : String) (ce : Cell) (q9 : Addr) (u : SX) (t : State) (H1 : Heap) (locs1 : List Loc), t.heap = H1 → s.vm.Alike t.vm → px u → BX E u t → H.size ≤ H1.size → (∀ q : Nat, q < H.size → ¬ AX q → H1[q]? = H[q]?) → va_S A0 H0 H1 locs1 → H1[q9]? = some ce → ce.vm = .none → s.vm.findClass E = some ce.cls → vx_W p l e R s m args below meth c H1 locs1 (cells + mc) (slots + ms) Q (F0 m pc ls rest) q9)
    (kk : ∀ (r : UInt64) (u : S) (t : State) (H1 : Heap) (locs1 : List Loc), t.heap = H1 → s.vm.Alike t.vm → post r u → B u t → H.size ≤ H1.size → (∀ q : Nat, q < H.size → ¬ A1 q → H1[q]? = H[q]?) → va_S A0 H0 H1 locs1 → W p l e R s m args below meth c H1 locs1 (cells + mc) (slots + ms) Q (F0 m (pc + 3) ls (.double r :: rest))) : W p l e R s m args below meth c H locs cells slots Q (F0 m pc ls st0) := by
  intro T hT X
  rcases hr T hT X with ⟨v, st₀, t, T', L, h0, X', hL, e1, e2, ⟨⟨r, u, hv, hp, hb⟩, hF⟩, st⟩ | ⟨q, st₀, t, T', L, E, ce, h0, X', hL, e1, e2, ⟨u, hp, hb, hF⟩, hce, hcv, hcl, st⟩
  · cases hv
    obtain ⟨k1, k2, k3⟩ := vx_keep h0 e1 hS hA hf hL hF
    obtain ⟨t2, a1, b1⟩ := kk r u t T'.heap (locs ++ L) e1.symm (by rw [← e2]; exact X'.warmed.alike) hp hb k1 k2 k3 T' rfl X'
    exact ⟨t2, st t2 a1, b1⟩
  · obtain ⟨k1, k2, k3⟩ := vx_keep h0 e1 hS hAX hf hL hF
    obtain ⟨t2, a1, b1⟩ := kx E ce q u t T'.heap (locs ++ L) e1.symm (by rw [← e2]; exact X'.warmed.alike) hp hb k1 k2 k3 (by rw [e1]; exact hce) hcv hcl T' rfl X'
    exact ⟨t2, st.trans a1, b1⟩
theorem vx_callv {S SX : Type} {post : S → Prop} {px : SX → Prop} {B : S → State → Prop} {BX : String → SX → State → Prop} {AX : Nat → Prop} (hr : vx_Run p l e R s m args below meth c H locs cells slots mc ms (F0 m pc ls st0) rest (va_Qv post B A1 a) (vx_X px BX AX) free) (hS : va_S A0 H0 H locs) (hA : ∀ q, q < H.size → A1 q → A0 q) (hf : ∀ q, free q → A0 q) (hAX : ∀ q, q < H.size → AX q → A0 q)
    (kx : ∀ (E : String) (ce : Cell) (q9 : Addr) (u : SX) (t : State) (H1 : Heap) (locs1 : List Loc), t.heap = H1 → s.vm.Alike t.vm → px u → BX E u t → H.size ≤ H1.size → (∀ q : Nat, q < H.size → ¬ AX q → H1[q]? = H[q]?) → va_S A0 H0 H1 locs1 → H1[q9]? = some ce → ce.vm = .none → s.vm.findClass E = some ce.cls → vx_W p l e R s m args below meth c H1 locs1 (cells + mc) (slots + ms) Q (F0 m pc ls rest) q9)
    (kk : ∀ (u : S) (t : State) (H1 : Heap) (locs1 : List Loc), t.heap = H1 → s.vm.Alike t.vm → post u → B u t → H.size ≤ H1.size → (∀ q : Nat, q < H.size → ¬ A1 q → H1[q]? = H[q]?) → va_S A0 H0 H1 locs1 → W p l e R s m args below meth c H1 locs1 (cells + mc) (slots + ms) Q (F0 m (pc + 3) ls (rest))) : W p l e R s m args below meth c H locs cells slots Q (F0 m pc ls st0) := by
  intro T hT X
  rcases hr T hT X with ⟨v, st₀, t, T', L, h0, X', hL, e1, e2, ⟨⟨u, hv, hp, hb⟩, hF⟩, st⟩ | ⟨q, st₀, t, T', L, E, ce, h0, X', hL, e1, e2, ⟨u, hp, hb, hF⟩, hce, hcv, hcl, st⟩
  · cases hv
    obtain ⟨k1, k2, k3⟩ := vx_keep h0 e1 hS hA hf hL hF
    obtain ⟨t2, a1, b1⟩ := kk u t T'.heap (locs ++ L) e1.symm (by rw [← e2]; exact X'.warmed.alike) hp hb k1 k2 k3 T' rfl X'
    exact ⟨t2, st t2 a1, b1⟩
  · obtain ⟨k1, k2, k3⟩ := vx_keep h0 e1 hS hAX hf hL hF
    obtain ⟨t2, a1, b1⟩ := kx E ce q u t T'.heap (locs ++ L) e1.symm (by rw [← e2]; exact X'.warmed.alike) hp hb k1 k2 k3 (by rw [e1]; exact hce) hcv hcl T' rfl X'
    exact ⟨t2, st.trans a1, b1⟩
/-- caught by the row x of this method's table; the rows ahead don't take it -/
theorem vx_catch {own name : String} {E : String} {ce : Cell} {q : Addr} (hown : s.vm.findClass own = some m.cls) (pre : List ExceptionTableEntry) (x : ExceptionTableEntry) (suf : List ExceptionTableEntry) (hsplit : c.exceptionTable.toList = pre ++ x :: suf)
    (hpass : ∀ z ∈ pre, covers z pc = false ∨ (z.catchType ≠ 0 ∧ ∃ nm : String, (Cond.classLink own z.catchType nm).before args s = true ∧ va_Nc E nm s)) (hx : covers x pc = true) (h0 : x.catchType ≠ 0)
    (hlink : (Cond.classLink own x.catchType name).before args s = true) (hcast : (Cond.castable E name).before args s = true) (hcell : H[q]? = some ce) (hv : ce.vm = .none) (hcl : s.vm.findClass E = some ce.cls)
    (kk : W p l e R s m args below meth c H locs cells slots Q (F0 m x.handlerPc ls [.ref q])) : vx_W p l e R s m args below meth c H locs cells slots Q (F0 m pc ls rest) q := by
  intro T hT X
  have hpl : e.platform.magicAccessors = ({} : Platform).magicAccessors := by rw [X.admits.platform]
  obtain ⟨c3, c4, hc3, hc4, hasg⟩ := Cond.castable_spec hcast
  cases Option.some.inj (hc3.symm.trans hcl)
  obtain ⟨c5, hc5, hcl5⟩ := Cond.classLink_spec hown hlink e.platform hpl
  cases Option.some.inj (hc4.symm.trans hc5)
  obtain ⟨vm', X', st⟩ := X.thenCaughtThrough q (g := F0 m pc ls rest) rfl (Steps.refl _) (by rw [hT]; exact hcell) (by rw [hv]; rfl) (by obtain ⟨k9, h9, -⟩ := Vm.findClass_spec hcl; exact ⟨k9, h9⟩) pre x suf hsplit
    (fun z hz => by
      rcases hpass z hz with h | ⟨hz0, nm, hl1, hn1⟩
      · exact Or.inl h
      · obtain ⟨c6, hc6, hcl6⟩ := Cond.classLink_spec hown hl1 e.platform hpl
        obtain ⟨a8, b8, h1, h2, h3⟩ := hn1
        cases Option.some.inj (h1.symm.trans hcl)
        cases Option.some.inj (h2.symm.trans hc6)
        exact Or.inr ⟨hz0, _, hcl6, h3⟩) hx (Or.inr ⟨h0, c4, hcl5, hasg⟩)
  obtain ⟨t, a1, b1⟩ := kk (T.setVm vm') hT X'
  exact ⟨t, st.trans a1, b1⟩
end Rows
section Ends
variable {p : Program} {l : Launch} {e : Env} {R : Room} {s : State} {m : MethodId} {args : Array Value} {below : List Frame} {meth : Method} {c : Code} {H : Heap} {locs : List Loc} {cells slots : Nat} {Q : State → Prop}
variable {mc ms : Nat} {free : Addr → Prop} {A0 A1 : Nat → Prop} {H0 : Heap} {a : Array Value} {ls : Array Slot} {st0 rest : List Value}
variable {Qc : Array Value → State → Outcome → State → Prop} {XC : String → State → State → Prop}
/-- what a body that may throw owes at its end -/
def vx_MQ (below : List Frame) (Qc : Array Value → State → Outcome → State → Prop) (XC : String → State → State → Prop) (a : Array Value) (s : State) (mc ms : Nat) (free : Addr → Prop) : State → Prop := fun t =>
  ∃ o, t.status = .running ∧ Ended t below o ∧ vx_Q Qc XC mc ms free a s o t
theorem vx_ret {g : JFrame} {mc ms : Nat} (k : W p l e R s m args below meth c H locs cells slots (MQ below Qc args s mc ms free) g) : W p l e R s m args below meth c H locs cells slots (vx_MQ below Qc XC args s mc ms free) g := by
  intro T hT X
  obtain ⟨t, a1, o, b1, b2, b3, b4⟩ := k T hT X
  exact ⟨t, a1, o, b1, b2, Or.inl ⟨b3, b4⟩⟩
/-- not caught here: it goes on to the caller -/
theorem vx_widen {g : JFrame} {q : Addr} {k n : Nat} (h1 : cells ≤ k) (h2 : slots ≤ n) (kk : vx_W p l e R s m args below meth c H locs k n Q g q) : vx_W p l e R s m args below meth c H locs cells slots Q g q := fun T hT X => kk T hT (stand_widen X h1 h2)
theorem vx_out {pc : Nat} {E : String} {ce : Cell} {q : Addr} {mc ms : Nat} (hout : ∀ x ∈ c.exceptionTable.toList, covers x pc = false) (hlocks : meth.locks = false) (hcell : H[q]? = some ce) (hv : ce.vm = .none) (hcl : s.vm.findClass E = some ce.cls)
    (hx : ∀ t : State, t.heap = H → s.vm.Alike t.vm → XC E s t) (hf : ∀ z ∈ locs, free z.base) (hc : cells ≤ mc) (hs : slots ≤ ms) :
    vx_W p l e R s m args below meth c H locs cells slots (vx_MQ below Qc XC args s mc ms free) (F0 m pc ls rest) q := by
  intro T hT X
  obtain ⟨st1, hrun, hend, hW, hsm⟩ := X.leaveThrown q (g := F0 m pc ls rest) rfl rfl rfl hout hlocks
  have hcell9 : (T.setFrames (.throwing q :: below)).heap[q]? = some ce := by
    show T.heap[q]? = some ce
    rw [hT]; exact hcell
  exact ⟨_, st1, .threw q, hrun, hend, Or.inr ⟨q, rfl, E, ce, locs, hx _ hT hW.alike, hcell9, hv, hcl, hW, hsm.mono hc hs, hf⟩⟩
theorem vx_frame {U : State} {k n : Nat} (h : s.sameButNew ({ U with vm := s.vm } : State) locs k n) : s.heap.size ≤ U.heap.size ∧ ∀ q : Nat, q < s.heap.size → (∀ z ∈ locs, z.base ≠ q) → U.heap[q]? = s.heap[q]? := by
  obtain ⟨-, h2, -, -, -, h6⟩ := h
  refine ⟨h2, fun q hq hz => ?_⟩
  obtain ⟨c9, e1, e2, e3, e4⟩ := h6 q _ (Array.getElem?_eq_getElem hq)
  have hs : c9.slots = (s.heap[q]).slots := Array.ext_getElem? fun i => e4 i fun hm => hz _ hm rfl
  have h9 : c9 = s.heap[q] := by
    rw [hs] at e2
    exact e2
  have e5 : U.heap[q]? = some c9 := e1
  rw [e5, h9, Array.getElem?_eq_getElem hq]
/-- the words of a throw but the four that speak of the heap -/
def vx_no (w : Cond) : Bool := decide (w ≠ .isRef (.static Bundle.tN "UNASSIGNED_STACK" Bundle.steD)) && decide (w ≠ .isRef (.static Bundle.tN "SUPPRESSED_SENTINEL" Bundle.listD)) && decide (w ≠ .laysStatic Bundle.tN "UNASSIGNED_STACK" Bundle.steD) && decide (w ≠ .laysStatic Bundle.tN "SUPPRESSED_SENTINEL" Bundle.listD)
def vx_at0 (own : String) (ic : Nat) (X : String) (names : List String) : List Cond := (Bundle.ownAtoms0 own ic X names).filter vx_no
def vx_atS (own : String) (ic : Nat) (X : String) (names : List String) : List Cond := (Bundle.ownAtoms own ic X names).filter vx_no
/-- a word that the tables alone decide, or a good one -/
def vx_ot (w : Cond) : Bool := w.onTables || goodWord w
theorem vx_ot_at {args a' : Array Value} {s U : State} {w : Cond} (hW : s.WarmedH U.vm) (hvm : s.vm = U.vm) (hg : vx_ot w = true) (h : w.before args s = true) : w.before a' U = true := by
  simp only [vx_ot, Bool.or_eq_true] at hg
  rcases hg with hg | hg
  · exact va_tabs hg hvm h
  · exact word_at hW (good_of_word hg) h
/-- a list's words: the good ones out of the method's own list, the others by premises of their own -/
theorem vx_hat {args : Array Value} {s : State} {L B : List Cond} (h1 : ∀ w ∈ L.filter goodWord, w.before args s = true) (h2 : ∀ w ∈ L.filter (fun w => !goodWord w), w ∈ B) (h3 : ∀ w ∈ B, w.before args s = true) : ∀ w ∈ L, w.before args s = true := by
  intro w hw
  by_cases g : goodWord w = true
  · exact h1 w (List.mem_filter.mpr ⟨hw, g⟩)
  · refine h3 w (h2 w (List.mem_filter.mpr ⟨hw, ?_⟩))
    show (!goodWord w) = true
    cases hgw : goodWord w
    · rfl
    · exact absurd hgw g
theorem vx_c {args : Array Value} {s : State} {w : Cond} {B : List Cond} (h : w.before args s = true) (t : ∀ w ∈ B, w.before args s = true) : ∀ w' ∈ w :: B, w'.before args s = true := fun w' h' => (List.mem_cons.mp h').elim (fun e => by rw [e]; exact h) (t w')
theorem vx_n {args : Array Value} {s : State} : ∀ w ∈ ([] : List Cond), w.before args s = true := fun _ h => nomatch h
theorem vx_own {args : Array Value} {s : State} {L : List Cond} (h1 : ∀ w ∈ L.filter vx_no, w.before args s = true)
    (hU : (Cond.isRef (.static Bundle.tN "UNASSIGNED_STACK" Bundle.steD)).before args s = true) (hN : (Cond.isRef (.static Bundle.tN "SUPPRESSED_SENTINEL" Bundle.listD)).before args s = true)
    (lU : (Cond.laysStatic Bundle.tN "UNASSIGNED_STACK" Bundle.steD).before args s = true) (lN : (Cond.laysStatic Bundle.tN "SUPPRESSED_SENTINEL" Bundle.listD).before args s = true) : ∀ w ∈ L, w.before args s = true := by
  intro w hw
  by_cases e1 : w = .isRef (.static Bundle.tN "UNASSIGNED_STACK" Bundle.steD)
  · rw [e1]; exact hU
  · by_cases e2 : w = .isRef (.static Bundle.tN "SUPPRESSED_SENTINEL" Bundle.listD)
    · rw [e2]; exact hN
    · by_cases e3 : w = .laysStatic Bundle.tN "UNASSIGNED_STACK" Bundle.steD
      · rw [e3]; exact lU
      · by_cases e4 : w = .laysStatic Bundle.tN "SUPPRESSED_SENTINEL" Bundle.listD
        · rw [e4]; exact lN
        · exact h1 w (List.mem_filter.mpr ⟨hw, by unfold vx_no; rw [decide_eq_true e1, decide_eq_true e2, decide_eq_true e3, decide_eq_true e4]; rfl⟩)
/-- where a static field lies, its class's statics cell in H -/
def vx_L (C n d : String) (A : Nat → Prop) (U : State) (H : Heap) : Prop := ∃ (c : ClassId) (k : Class) (i : Nat) (f : Field) (a : Nat) (cell : Cell), U.vm.findClass C = some c ∧ U.fieldFound? C n d = some (c, k, i, f) ∧ f.isStatic = true ∧ k.statics = some a ∧ H[a]? = some cell ∧ cell.vm.isStatics = true ∧ cell.cls = c ∧ f.slot < cell.slots.size ∧ k.staticTypes[f.slot]? = some f.type ∧ ¬ A a
theorem vx_L.moved {C n d : String} {A : Nat → Prop} {u U : State} {H : Heap} (hvm : u.vm.Alike U.vm) (h : vx_L C n d A u H) : vx_L C n d A U H := by
  obtain ⟨c, k, i, f, a, cell, h1, h2, h3, h4, h5, h6, h7, h8, h9, h10⟩ := h
  obtain ⟨k', hi', he⟩ := State.fieldFound?_setVm hvm h2
  exact ⟨c, k', i, f, a, cell, by rw [hvm.findClass]; exact h1, hi', h3, by rw [he]; exact h4, h5, h6, h7, h8, by rw [he]; exact h9, h10⟩
theorem vx_L.kept {C n d : String} {A : Nat → Prop} {U : State} {H H1 : Heap} (h : vx_L C n d A U H) (hq : ∀ a : Nat, a < H.size → ¬ A a → H1[a]? = H[a]?) : vx_L C n d A U H1 := by
  obtain ⟨c, k, i, f, a, cell, h1, h2, h3, h4, h5, h6, h7, h8, h9, h10⟩ := h
  exact ⟨c, k, i, f, a, cell, h1, h2, h3, h4, by rw [hq a (Array.getElem?_eq_some_iff.mp h5).1 h10]; exact h5, h6, h7, h8, h9, h10⟩
theorem vx_L.narrow {C n d : String} {A B : Nat → Prop} {U : State} {H : Heap} (h : vx_L C n d A U H) (hAB : ∀ q, B q → A q) : vx_L C n d B U H := by
  obtain ⟨c, k, i, f, a, cell, h1, h2, h3, h4, h5, h6, h7, h8, h9, h10⟩ := h
  exact ⟨c, k, i, f, a, cell, h1, h2, h3, h4, h5, h6, h7, h8, h9, fun z => h10 (hAB _ z)⟩
theorem vx_L.word {C n d : String} {A : Nat → Prop} {s : State} {args : Array Value} (h : vx_L C n d A s s.heap) : (Cond.laysStatic C n d).before args s = true := by
  obtain ⟨c, k, i, f, a, cell, h1, h2, h3, h4, h5, h6, h7, h8, h9, -⟩ := h
  show (Cond.laysStatic C n d).holds args s none s [] = true
  exact Cond.laysStatic_of h1 h2 h3 h4 h5 h6 h7 h8 h9
/-- .. and what it holds: null or some reference -/
def vx_Zq (C n d : String) (A : Nat → Prop) (U : State) (H : Heap) : Prop := va_Zq C n d A U H ∧ vx_L C n d A U H
theorem vx_Zq.moved {C n d : String} {A : Nat → Prop} {u U : State} {H : Heap} (hvm : u.vm.Alike U.vm) (h : vx_Zq C n d A u H) : vx_Zq C n d A U H := ⟨va_Zq.moved hvm h.1, vx_L.moved hvm h.2⟩
theorem vx_Zq.kept {C n d : String} {A : Nat → Prop} {U : State} {H H1 : Heap} (h : vx_Zq C n d A U H) (hq : ∀ a : Nat, a < H.size → ¬ A a → H1[a]? = H[a]?) : vx_Zq C n d A U H1 := ⟨va_Zq.kept h.1 hq, vx_L.kept h.2 hq⟩
theorem vx_Zq.narrow {C n d : String} {A B : Nat → Prop} {U : State} {H : Heap} (h : vx_Zq C n d A U H) (hAB : ∀ q, B q → A q) : vx_Zq C n d B U H := ⟨va_Zq.narrow h.1 hAB, vx_L.narrow h.2 hAB⟩
theorem vx_Zqof {args : Array Value} {s : State} {C n d : String} {A : Nat → Prop} (hl : (Cond.laysStatic C n d).before args s = true) (hini : (Cond.initialized C).before args s = true) (h : (Cond.isRef (.static C n d)).before args s = true) (hA : ∀ a : Nat, a < s.heap.size → ¬ A a) : vx_Zq C n d A s s.heap := by
  refine ⟨va_Zqof hl hini h hA, ?_⟩
  obtain ⟨c, k, i, f, a, cell, h1, h2, h3, h4, h5, h6, h7, h8, h9⟩ := Cond.laysStatic_spec hl
  exact ⟨c, k, i, f, a, cell, h1, h2, h3, h4, h5, h6, h7, h8, h9, hA a (Array.getElem?_eq_some_iff.mp h5).1⟩
theorem vx_isRef {C n d : String} {v : Value} {A : Nat → Prop} {s : State} {args : Array Value} (h : va_Z C n d v A s s.heap) (hv : v.isRef = true) : (Cond.isRef (.static C n d)).before args s = true := by
  obtain ⟨cf, kf, fi, f, a, cell, h1, h2, h3, h4, h5, h6, h7, -⟩ := h
  have he : (Term.static C n d).eval args s none [] s = some v := by
    simp [Term.eval, State.fieldNamed?, h1, h2, h4, h5, h6, h7]
  simp only [Cond.before, Cond.holds, Cond.value, he]
  cases v <;> simp_all [Value.isRef]
theorem vx_isRefq {C n d : String} {A : Nat → Prop} {s : State} {args : Array Value} (h : va_Zq C n d A s s.heap) : (Cond.isRef (.static C n d)).before args s = true := by
  rcases h with h | ⟨t, h⟩
  · exact vx_isRef h rfl
  · exact vx_isRef h rfl
/-- the same frame, seen from here: as if the method were called anew in this heap -/
theorem vx_rebase {T : State} (X : Stand p l e R s m args below meth c T locs cells slots) {R' : Room} (hf : R'.frames ≤ R.frames) (hl : R'.locals ≤ R.locals) (hc : cells + R'.cells ≤ R.cells) (hs : slots + R'.slots ≤ R.slots) :
    Stand p l e R' ((T.setVm s.vm).setFrames (.invoking m args :: below)) m args below meth c T [] 0 0 := by
  have htop : (T.setVm s.vm).topJava?.isSome := X.here.top
  have hF : ((T.setVm s.vm).setFrames (.invoking m args :: below)).frames = .invoking m args :: below := State.frames_setFrames _ (State.cur_lt_of_top htop)
  obtain ⟨g₀, hg0⟩ := Option.isSome_iff_exists.mp htop
  obtain ⟨r, hr⟩ := State.topJava?_eq_some.mp hg0
  have hl9 : e.platform.stackLimits (T.setVm s.vm).me = e.platform.stackLimits s.me := X.limits
  have hb9 : (T.setVm s.vm).me.stackBytes = s.me.stackBytes := X.bytes
  refine ⟨X.admits, X.cas, X.clock, hF, ?_, X.hears, X.method, X.code, X.here, X.tail, X.warmed, ?_, ?_, ?_⟩
  · have h := X.room
    have hU : ((T.setVm s.vm).setFrames (.invoking m args :: below)).localsInUse = s.localsInUse := by
      rw [State.localsInUse_invoking hF (meth := meth) (c := c) X.method X.code, State.localsInUse_invoking X.frames X.method X.code]
    simp only [State.hasRoom, Bool.and_eq_true, decide_eq_true_eq] at h ⊢
    obtain ⟨⟨⟨⟨h1, h2, h3, h4, h5, h6⟩, h7⟩, h8⟩, h9⟩ := h
    rw [X.frames, List.length_cons] at h2 h3
    have q1 := X.heapSize
    have q2 := X.used
    simp only [hF, hU, List.length_cons, State.stackLimits_setFrames, State.stackBytes_setFrames, hl9, hb9]
    refine ⟨⟨⟨⟨by omega, by omega, by omega, by omega, by omega, h6⟩, ?_⟩, ?_⟩, X.book⟩
    · show T.heap.size + R'.cells ≤ e.platform.maxCells
      omega
    · show T.slotsUsed + R'.slots ≤ e.platform.maxSlots
      omega
  · rw [State.stackLimits_setFrames]; rfl
  · rw [State.stackBytes_setFrames]; rfl
  · refine ⟨?_, Nat.le_refl _, Nat.le_refl _, ?_, ?_, fun a c9 h9 => ⟨c9, h9, rfl, rfl, fun _ _ => rfl⟩⟩
    · obtain ⟨t, ht, -⟩ := State.frames_cons hr
      show T.setVm s.vm = { ((T.setVm s.vm).setFrames (.invoking m args :: below)).setFrames (T.setVm s.vm).frames with heap := T.heap, slotsUsed := T.slotsUsed }
      rw [State.setFrames_setFrames, State.setFrames_self ht]
      rfl
    · show T.slotsUsed = T.slotsUsed + ((T.heap.toList.drop T.heap.size).map (·.slots.size)).sum
      rw [List.drop_eq_nil_of_le (Nat.le_of_eq Array.length_toList)]
      rfl
    · show ((T.heap.toList.drop T.heap.size).map (·.slots.size)).sum ≤ 0
      rw [List.drop_eq_nil_of_le (Nat.le_of_eq Array.length_toList)]
      exact Nat.le_refl _
/-- 'throw new E()': new; dup; invokespecial; athrow -/
theorem vx_throw0 {cc : ByteArray} {pc : Nat} (hexec : p.tables.exec = Jvm.exec) (hb : c.code = cc) (hl : l.stackTraces = false) {own cls : String} {names : List String} {ik ic mc ms : Nat} {A : Nat → Prop}
    (hown : s.vm.findClass own = some m.cls) (hcls : Bundle.fit cls = true) (hnames : ∀ n ∈ names, Bundle.fit n = true)
    (hk : (Cond.classLink own ik cls).before args s = true) (hini : (Cond.initialized cls).before args s = true) (hat : ∀ w ∈ vx_at0 own ic cls names, w.before args s = true)
    (hgood : ∀ w ∈ Cond.classLink own ik cls :: Cond.initialized cls :: vx_at0 own ic cls names, vx_ot w = true)
    (hU : vx_Zq Bundle.tN "UNASSIGNED_STACK" Bundle.steD A s s.heap) (hN : vx_Zq Bundle.tN "SUPPRESSED_SENTINEL" Bundle.listD A s s.heap) (hS : va_S A s.heap H locs) (hsize : ls.size = c.maxLocals)
    (d0 : decode cc pc = .ok (.new ik, 3)) (d3 : decode cc (pc + 3) = .ok (.dup, 1)) (d4 : decode cc (pc + 4) = .ok (.invokespecial ic, 3)) (d7 : decode cc (pc + 7) = .ok (.athrow, 1))
    (hout : ∀ x ∈ c.exceptionTable.toList, covers x (pc + 7) = false)
    (hRframes : names.length + 3 < R.frames) (hRlocals : (rest.map fun v => v.category).sum + (13 * (names.length + 1) + 42) ≤ R.locals) (hRcells : cells + 1 ≤ R.cells) (hRslots : slots + 6 ≤ R.slots) (hlocks : meth.locks = false)
    (hx : ∀ t : State, s.vm.Alike t.vm → H.size ≤ t.heap.size → (∀ q : Nat, q < H.size → t.heap[q]? = H[q]?) → XC cls s t)
    (hf : ∀ z ∈ locs, free z.base) (hc : cells + 1 ≤ mc) (hs : slots + 6 ≤ ms) :
    W p l e R s m args below meth c H locs cells slots (vx_MQ below Qc XC args s mc ms free) (F0 m pc ls rest) := by
  intro T hT X
  have htr : e.platform.stackTraces = false := (show e.platform.stackTraces = l.stackTraces by rw [X.admits.platform]).trans hl
  have Y := vx_rebase X (R' := { frames := R.frames, locals := R.locals, cells := 1, slots := 6 }) (Nat.le_refl _) (Nat.le_refl _) hRcells hRslots
  obtain ⟨s', hA⟩ : ∃ z, z = (T.setVm s.vm).setFrames (.invoking m args :: below) := ⟨_, rfl⟩
  rw [← hA] at Y
  have hvm : s'.vm = s.vm := by rw [hA]; rfl
  have hhp : s'.heap = H := by rw [hA]; exact hT
  have hW0 : s.WarmedH s'.vm := by rw [hvm]; exact State.WarmedH.refl s
  have hat' : ∀ w ∈ vx_at0 own ic cls names, w.before args s' = true := fun w hw => vx_ot_at hW0 hvm.symm (hgood w (List.mem_cons_of_mem _ (List.mem_cons_of_mem _ hw))) (hat w hw)
  have hk' : (Cond.classLink own ik cls).before args s' = true := vx_ot_at hW0 hvm.symm (hgood _ List.mem_cons_self) hk
  have hini' : (Cond.initialized cls).before args s' = true := vx_ot_at hW0 hvm.symm (hgood _ (List.mem_cons_of_mem _ List.mem_cons_self)) hini
  have hU' : vx_Zq Bundle.tN "UNASSIGNED_STACK" Bundle.steD A s' s'.heap := by rw [hhp]; exact vx_Zq.moved hW0.alike (hU.kept hS.2.1)
  have hN' : vx_Zq Bundle.tN "SUPPRESSED_SENTINEL" Bundle.listD A s' s'.heap := by rw [hhp]; exact vx_Zq.moved hW0.alike (hN.kept hS.2.1)
  have h : ∀ w ∈ Bundle.ownAtoms0 own ic cls names, w.before args s' = true := vx_own hat' (vx_isRefq hU'.1) (vx_isRefq hN'.1) hU'.2.word hN'.2.word
  have hown' : s'.vm.findClass own = some m.cls := by rw [hvm]; exact hown
  have hins : (Cond.instantiable cls 6).before args s' = true := h _ (by simp [Bundle.ownAtoms0])
  obtain ⟨vm₁, cX, kX, hfX, hkX, -, -, X₁, st1⟩ := Y.newCold hexec (own := own) (C := cls) (index := ik) (n := 6) hown' hk' hins hini'
    (g := F0 m pc ls rest) rfl (by rw [hb]; exact d0) (Nat.le_refl _) (Nat.le_refl _)
  generalize hT1 : (T.setVm vm₁).pushCell { cls := cX, slots := kX.instanceTypes.map defaultValue, vm := .none } = T1 at X₁ st1
  have hcat : (Value.ref T.heap.size).category = 1 := rfl
  have hcellA : T1.heap[T.heap.size]? = some (freshCell cX kX) := by rw [← hT1]; exact State.heap_pushCell_size _ _
  have d3' : decode c.code (pc + 3) = .ok (.dup, 1) := by rw [hb]; exact d3
  obtain ⟨U, hsteps, hrun, hend, hW, hsame, ce, hce, hO⟩ := X₁.ctorThrow0 hexec htr (own := own) (cls := cls) (names := names) (ic := ic) hown' hcls hnames h (fun x hx => nomatch hx) hfX hkX hcellA (by rw [hhp, hT]; exact Nat.le_refl _)
    (g := { method := m, pc := pc + 4, locals := ls, stack := .ref T.heap.size :: .ref T.heap.size :: rest, locked := none }) rfl hsize rfl rfl (rest := rest) rfl
    (by rw [hb]; exact d4) (by rw [hb]; exact d7) hout hRframes (by simp only [List.map_cons, List.sum_cons, hcat]; omega) hlocks
  obtain ⟨f1, f2⟩ := vx_frame hsame
  rw [hhp] at f1 f2
  have hWs : s.WarmedH U.vm := State.WarmedH.trans hW0 hW
  have hcl : s.vm.findClass cls = some ce.cls := by
    have h9 := hO.cls
    rw [hvm] at h9
    exact h9
  have hall : s.sameButNew ({ U with vm := s.vm } : State) locs mc ms := by
    subst hA
    obtain ⟨e1, e2⟩ := hsame
    rw [State.setFrames_setFrames] at e1
    have h2 : (T.setVm s.vm).sameButNew ({ U with vm := s.vm } : State) [] (0 + 1) (0 + 6) := ⟨e1, e2⟩
    have h3 := X.same.trans h2
    rw [List.append_nil] at h3
    exact h3.mono hc hs
  refine ⟨U, ?_, .threw T.heap.size, hrun, hend, Or.inr ⟨T.heap.size, rfl, cls, ce, locs, hx U hWs.alike f1 (fun q hq => f2 q hq (fun z hz => nomatch hz)), hce, hO.vm, hcl, hWs, hall, hf⟩⟩
  refine st1 _ ?_
  show Steps p.tables e below (T1.setTop { method := m, pc := pc + 3, locals := ls, stack := .ref T.heap.size :: rest, locked := none }) _
  jvm_step X₁.here [X₁.here.top, hexec, d3', Value.category]
  exact hsteps
/-- 'throw new E("text")': new; dup; ldc; invokespecial; athrow -/
theorem vx_throwS {cc : ByteArray} {pc : Nat} (hexec : p.tables.exec = Jvm.exec) (hb : c.code = cc) (hl : l.stackTraces = false) {own cls text : String} {names : List String} {ik is ic mc ms sa : Nat} {A : Nat → Prop}
    (hown : s.vm.findClass own = some m.cls) (hcls : Bundle.fit cls = true) (hnames : ∀ n ∈ names, Bundle.fit n = true)
    (hk : (Cond.classLink own ik cls).before args s = true) (hini : (Cond.initialized cls).before args s = true) (hstr : vk_R own is text sa s) (hat : ∀ w ∈ vx_atS own ic cls names, w.before args s = true)
    (hgood : ∀ w ∈ Cond.classLink own ik cls :: Cond.initialized cls :: vx_atS own ic cls names, vx_ot w = true)
    (hU : vx_Zq Bundle.tN "UNASSIGNED_STACK" Bundle.steD A s s.heap) (hN : vx_Zq Bundle.tN "SUPPRESSED_SENTINEL" Bundle.listD A s s.heap) (hS : va_S A s.heap H locs) (hsize : ls.size = c.maxLocals)
    (d0 : decode cc pc = .ok (.new ik, 3)) (d3 : decode cc (pc + 3) = .ok (.dup, 1)) (d4 : decode cc (pc + 4) = .ok (.ldc is, 2)) (d6 : decode cc (pc + 6) = .ok (.invokespecial ic, 3)) (d9 : decode cc (pc + 9) = .ok (.athrow, 1))
    (hout : ∀ x ∈ c.exceptionTable.toList, covers x (pc + 9) = false)
    (hRframes : names.length + 3 < R.frames) (hRlocals : (rest.map fun v => v.category).sum + (13 * (names.length + 1) + 43) ≤ R.locals) (hRcells : cells + 1 ≤ R.cells) (hRslots : slots + 6 ≤ R.slots) (hlocks : meth.locks = false)
    (hx : ∀ t : State, s.vm.Alike t.vm → H.size ≤ t.heap.size → (∀ q : Nat, q < H.size → t.heap[q]? = H[q]?) → XC cls s t)
    (hf : ∀ z ∈ locs, free z.base) (hc : cells + 1 ≤ mc) (hs : slots + 6 ≤ ms) :
    W p l e R s m args below meth c H locs cells slots (vx_MQ below Qc XC args s mc ms free) (F0 m pc ls rest) := by
  intro T hT X
  have htr : e.platform.stackTraces = false := (show e.platform.stackTraces = l.stackTraces by rw [X.admits.platform]).trans hl
  have Y := vx_rebase X (R' := { frames := R.frames, locals := R.locals, cells := 1, slots := 6 }) (Nat.le_refl _) (Nat.le_refl _) hRcells hRslots
  obtain ⟨s', hA⟩ : ∃ z, z = (T.setVm s.vm).setFrames (.invoking m args :: below) := ⟨_, rfl⟩
  rw [← hA] at Y
  have hvm : s'.vm = s.vm := by rw [hA]; rfl
  have hhp : s'.heap = H := by rw [hA]; exact hT
  have hW0 : s.WarmedH s'.vm := by rw [hvm]; exact State.WarmedH.refl s
  have hat' : ∀ w ∈ vx_atS own ic cls names, w.before args s' = true := fun w hw => vx_ot_at hW0 hvm.symm (hgood w (List.mem_cons_of_mem _ (List.mem_cons_of_mem _ hw))) (hat w hw)
  have hk' : (Cond.classLink own ik cls).before args s' = true := vx_ot_at hW0 hvm.symm (hgood _ List.mem_cons_self) hk
  have hini' : (Cond.initialized cls).before args s' = true := vx_ot_at hW0 hvm.symm (hgood _ (List.mem_cons_of_mem _ List.mem_cons_self)) hini
  have hU' : vx_Zq Bundle.tN "UNASSIGNED_STACK" Bundle.steD A s' s'.heap := by rw [hhp]; exact vx_Zq.moved hW0.alike (hU.kept hS.2.1)
  have hN' : vx_Zq Bundle.tN "SUPPRESSED_SENTINEL" Bundle.listD A s' s'.heap := by rw [hhp]; exact vx_Zq.moved hW0.alike (hN.kept hS.2.1)
  have h : ∀ w ∈ Bundle.ownAtoms own ic cls names, w.before args s' = true := vx_own hat' (vx_isRefq hU'.1) (vx_isRefq hN'.1) hU'.2.word hN'.2.word
  have hown' : s'.vm.findClass own = some m.cls := by rw [hvm]; exact hown
  have hins : (Cond.instantiable cls 6).before args s' = true := h _ (by simp [Bundle.ownAtoms])
  obtain ⟨vm₁, cX, kX, hfX, hkX, -, -, X₁, st1⟩ := Y.newCold hexec (own := own) (C := cls) (index := ik) (n := 6) hown' hk' hins hini'
    (g := F0 m pc ls rest) rfl (by rw [hb]; exact d0) (Nat.le_refl _) (Nat.le_refl _)
  generalize hT1 : (T.setVm vm₁).pushCell { cls := cX, slots := kX.instanceTypes.map defaultValue, vm := .none } = T1 at X₁ st1
  have hcat : (Value.ref T.heap.size).category = 1 := rfl
  have hcellA : T1.heap[T.heap.size]? = some (freshCell cX kX) := by rw [← hT1]; exact State.heap_pushCell_size _ _
  have d3' : decode c.code (pc + 3) = .ok (.dup, 1) := by rw [hb]; exact d3
  have d4' : decode c.code (pc + 4) = .ok (.ldc is, 2) := by rw [hb]; exact d4
  have hstr' : vk_R own is text sa s' := vk_R.warm hW0 hstr
  obtain ⟨U, hsteps, hrun, hend, hW, hsame, ce, hce, hO⟩ := X₁.ctorThrowS hexec htr (own := own) (cls := cls) (names := names) (ic := ic) hown' hcls hnames h (fun x hx => nomatch hx) hfX hkX hcellA (by rw [hhp, hT]; exact Nat.le_refl _) (msg := .ref sa) rfl
    (g := { method := m, pc := pc + 6, locals := ls, stack := .ref sa :: .ref T.heap.size :: .ref T.heap.size :: rest, locked := none }) rfl hsize rfl rfl (rest := rest) rfl
    (by rw [hb]; exact d6) (by rw [hb]; exact d9) hout hRframes (by simp only [List.map_cons, List.sum_cons, hcat]; omega) hlocks
  obtain ⟨f1, f2⟩ := vx_frame hsame
  rw [hhp] at f1 f2
  have hWs : s.WarmedH U.vm := State.WarmedH.trans hW0 hW
  have hcl : s.vm.findClass cls = some ce.cls := by
    have h9 := hO.cls
    rw [hvm] at h9
    exact h9
  have hall : s.sameButNew ({ U with vm := s.vm } : State) locs mc ms := by
    subst hA
    obtain ⟨e1, e2⟩ := hsame
    rw [State.setFrames_setFrames] at e1
    have h2 : (T.setVm s.vm).sameButNew ({ U with vm := s.vm } : State) [] (0 + 1) (0 + 6) := ⟨e1, e2⟩
    have h3 := X.same.trans h2
    rw [List.append_nil] at h3
    exact h3.mono hc hs
  refine ⟨U, ?_, .threw T.heap.size, hrun, hend, Or.inr ⟨T.heap.size, rfl, cls, ce, locs, hx U hWs.alike f1 (fun q hq => f2 q hq (fun z hz => nomatch hz)), hce, hO.vm, hcl, hWs, hall, hf⟩⟩
  refine st1 _ ?_
  show Steps p.tables e below (T1.setTop { method := m, pc := pc + 3, locals := ls, stack := .ref T.heap.size :: rest, locked := none }) _
  jvm_step X₁.here [X₁.here.top, hexec, d3', Value.category]
  exact X₁.ldcString hexec (own := own) (text := text) (index := is) (a := sa) hown' hstr'.1 hstr'.2
    (g := { method := m, pc := pc + 4, locals := ls, stack := .ref T.heap.size :: .ref T.heap.size :: rest, locked := none }) rfl d4' _ hsteps
/-- 'throw new E("text")', the text by a wide index -/
theorem vx_throwSW {cc : ByteArray} {pc : Nat} (hexec : p.tables.exec = Jvm.exec) (hb : c.code = cc) (hl : l.stackTraces = false) {own cls text : String} {names : List String} {ik is ic mc ms sa : Nat} {A : Nat → Prop}
    (hown : s.vm.findClass own = some m.cls) (hcls : Bundle.fit cls = true) (hnames : ∀ n ∈ names, Bundle.fit n = true)
    (hk : (Cond.classLink own ik cls).before args s = true) (hini : (Cond.initialized cls).before args s = true) (hstr : vk_R own is text sa s) (hat : ∀ w ∈ vx_atS own ic cls names, w.before args s = true)
    (hgood : ∀ w ∈ Cond.classLink own ik cls :: Cond.initialized cls :: vx_atS own ic cls names, vx_ot w = true)
    (hU : vx_Zq Bundle.tN "UNASSIGNED_STACK" Bundle.steD A s s.heap) (hN : vx_Zq Bundle.tN "SUPPRESSED_SENTINEL" Bundle.listD A s s.heap) (hS : va_S A s.heap H locs) (hsize : ls.size = c.maxLocals)
    (d0 : decode cc pc = .ok (.new ik, 3)) (d3 : decode cc (pc + 3) = .ok (.dup, 1)) (d4 : decode cc (pc + 4) = .ok (.ldc_w is, 3)) (d7 : decode cc (pc + 7) = .ok (.invokespecial ic, 3)) (d10 : decode cc (pc + 10) = .ok (.athrow, 1))
    (hout : ∀ x ∈ c.exceptionTable.toList, covers x (pc + 10) = false)
    (hRframes : names.length + 3 < R.frames) (hRlocals : (rest.map fun v => v.category).sum + (13 * (names.length + 1) + 43) ≤ R.locals) (hRcells : cells + 1 ≤ R.cells) (hRslots : slots + 6 ≤ R.slots) (hlocks : meth.locks = false)
    (hx : ∀ t : State, s.vm.Alike t.vm → H.size ≤ t.heap.size → (∀ q : Nat, q < H.size → t.heap[q]? = H[q]?) → XC cls s t)
    (hf : ∀ z ∈ locs, free z.base) (hc : cells + 1 ≤ mc) (hs : slots + 6 ≤ ms) :
    W p l e R s m args below meth c H locs cells slots (vx_MQ below Qc XC args s mc ms free) (F0 m pc ls rest) := by
  intro T hT X
  have htr : e.platform.stackTraces = false := (show e.platform.stackTraces = l.stackTraces by rw [X.admits.platform]).trans hl
  have Y := vx_rebase X (R' := { frames := R.frames, locals := R.locals, cells := 1, slots := 6 }) (Nat.le_refl _) (Nat.le_refl _) hRcells hRslots
  obtain ⟨s', hA⟩ : ∃ z, z = (T.setVm s.vm).setFrames (.invoking m args :: below) := ⟨_, rfl⟩
  rw [← hA] at Y
  have hvm : s'.vm = s.vm := by rw [hA]; rfl
  have hhp : s'.heap = H := by rw [hA]; exact hT
  have hW0 : s.WarmedH s'.vm := by rw [hvm]; exact State.WarmedH.refl s
  have hat' : ∀ w ∈ vx_atS own ic cls names, w.before args s' = true := fun w hw => vx_ot_at hW0 hvm.symm (hgood w (List.mem_cons_of_mem _ (List.mem_cons_of_mem _ hw))) (hat w hw)
  have hk' : (Cond.classLink own ik cls).before args s' = true := vx_ot_at hW0 hvm.symm (hgood _ List.mem_cons_self) hk
  have hini' : (Cond.initialized cls).before args s' = true := vx_ot_at hW0 hvm.symm (hgood _ (List.mem_cons_of_mem _ List.mem_cons_self)) hini
  have hU' : vx_Zq Bundle.tN "UNASSIGNED_STACK" Bundle.steD A s' s'.heap := by rw [hhp]; exact vx_Zq.moved hW0.alike (hU.kept hS.2.1)
  have hN' : vx_Zq Bundle.tN "SUPPRESSED_SENTINEL" Bundle.listD A s' s'.heap := by rw [hhp]; exact vx_Zq.moved hW0.alike (hN.kept hS.2.1)
  have h : ∀ w ∈ Bundle.ownAtoms own ic cls names, w.before args s' = true := vx_own hat' (vx_isRefq hU'.1) (vx_isRefq hN'.1) hU'.2.word hN'.2.word
  have hown' : s'.vm.findClass own = some m.cls := by rw [hvm]; exact hown
  have hins : (Cond.instantiable cls 6).before args s' = true := h _ (by simp [Bundle.ownAtoms])
  obtain ⟨vm₁, cX, kX, hfX, hkX, -, -, X₁, st1⟩ := Y.newCold hexec (own := own) (C := cls) (index := ik) (n := 6) hown' hk' hins hini'
    (g := F0 m pc ls rest) rfl (by rw [hb]; exact d0) (Nat.le_refl _) (Nat.le_refl _)
  generalize hT1 : (T.setVm vm₁).pushCell { cls := cX, slots := kX.instanceTypes.map defaultValue, vm := .none } = T1 at X₁ st1
  have hcat : (Value.ref T.heap.size).category = 1 := rfl
  have hcellA : T1.heap[T.heap.size]? = some (freshCell cX kX) := by rw [← hT1]; exact State.heap_pushCell_size _ _
  have d3' : decode c.code (pc + 3) = .ok (.dup, 1) := by rw [hb]; exact d3
  have d4' : decode c.code (pc + 4) = .ok (.ldc_w is, 3) := by rw [hb]; exact d4
  have hstr' : vk_R own is text sa s' := vk_R.warm hW0 hstr
  obtain ⟨U, hsteps, hrun, hend, hW, hsame, ce, hce, hO⟩ := X₁.ctorThrowS hexec htr (own := own) (cls := cls) (names := names) (ic := ic) hown' hcls hnames h (fun x hx => nomatch hx) hfX hkX hcellA (by rw [hhp, hT]; exact Nat.le_refl _) (msg := .ref sa) rfl
    (g := { method := m, pc := pc + 7, locals := ls, stack := .ref sa :: .ref T.heap.size :: .ref T.heap.size :: rest, locked := none }) rfl hsize rfl rfl (rest := rest) rfl
    (by rw [hb]; exact d7) (by rw [hb]; exact d10) hout hRframes (by simp only [List.map_cons, List.sum_cons, hcat]; omega) hlocks
  obtain ⟨f1, f2⟩ := vx_frame hsame
  rw [hhp] at f1 f2
  have hWs : s.WarmedH U.vm := State.WarmedH.trans hW0 hW
  have hcl : s.vm.findClass cls = some ce.cls := by
    have h9 := hO.cls
    rw [hvm] at h9
    exact h9
  have hall : s.sameButNew ({ U with vm := s.vm } : State) locs mc ms := by
    subst hA
    obtain ⟨e1, e2⟩ := hsame
    rw [State.setFrames_setFrames] at e1
    have h2 : (T.setVm s.vm).sameButNew ({ U with vm := s.vm } : State) [] (0 + 1) (0 + 6) := ⟨e1, e2⟩
    have h3 := X.same.trans h2
    rw [List.append_nil] at h3
    exact h3.mono hc hs
  refine ⟨U, ?_, .threw T.heap.size, hrun, hend, Or.inr ⟨T.heap.size, rfl, cls, ce, locs, hx U hWs.alike f1 (fun q hq => f2 q hq (fun z hz => nomatch hz)), hce, hO.vm, hcl, hWs, hall, hf⟩⟩
  refine st1 _ ?_
  show Steps p.tables e below (T1.setTop { method := m, pc := pc + 3, locals := ls, stack := .ref T.heap.size :: rest, locked := none }) _
  jvm_step X₁.here [X₁.here.top, hexec, d3', Value.category]
  exact X₁.ldcStringW hexec (own := own) (text := text) (index := is) (a := sa) hown' hstr'.1 hstr'.2
    (g := { method := m, pc := pc + 4, locals := ls, stack := .ref T.heap.size :: .ref T.heap.size :: rest, locked := none }) rfl d4' _ hsteps
end Ends
section Bodies
variable {l : Launch}
theorem vx_ofW {y : MethodName} {ws ws' : List Cond} {rm : Room} {Pc : Array Value → State → Prop} {Qc : Array Value → State → Outcome → State → Prop} {XC : String → State → State → Prop} {mc ms : Nat} {free : Addr → Prop} {cc : ByteArray} {maxL : Nat} {ret : Option FieldType}
    (hy : plainName y.cls = true) (hw : ws = Cond.code y cc maxL ret :: ws')
    (body : ∀ p e s m args below meth c s₁, BodyLoose p l y (headSpec ws rm) cc maxL ret e s m args below meth c s₁ → c.maxLocals = maxL → (∀ x ∈ c.exceptionTable.toList, False) → Pc args s →
      W p l e (headSpec ws rm).room s m args below meth c s.heap [] 0 0 (vx_MQ below Qc XC args s mc ms free) (entryFrame m args maxL)) : vx_Met l y ws rm Pc Qc XC mc ms free := by
  refine MetFree.of_bodyS (code := cc) (maxLocals := maxL) (ret := ret) hy ?_ ?_
  · intro args s m h hn
    obtain ⟨meth, c, h1, h2, h3, h4, h5, h6, -, -⟩ := Cond.code_spec hn (atoms_spec (ws := ws) h _ (by rw [hw]; exact List.mem_cons_self))
    exact ⟨meth, c, h1, h2, h3, h4, h5, h6⟩
  · intro p e s m args below meth c s₁ B hml hP _
    have hh0 : s₁.heap = s.heap := by rw [B.state]; rfl
    have ht : ∀ x ∈ c.exceptionTable.toList, False := by
      obtain ⟨meth9, c9, h1, h2, -, -, -, -, h7, -⟩ := Cond.code_spec B.named (atoms_spec (ws := ws) B.pre _ (by rw [hw]; exact List.mem_cons_self))
      cases Option.some.inj (h1.symm.trans B.method)
      cases Option.some.inj (h2.symm.trans (Stand.of_body B).code)
      intro x hx
      rw [Array.isEmpty_iff.mp h7] at hx
      cases hx
    obtain ⟨t, a1, o, b1, b2, b3⟩ := body p e s m args below meth c s₁ B hml ht hP s₁ hh0 (Stand.of_body B)
    exact ⟨t, o, a1, b1, b2, b3⟩
/-- the table of a body with handlers -/
theorem vx_table {p : Program} {x y : MethodName} {S : Spec} {cc bytes : ByteArray} {maxL maxL' : Nat} {ret ret' : Option FieldType} {e : Env} {s s₁ : State} {m : MethodId} {args : Array Value} {below : List Frame} {meth : Method} {c : Code} {hh : List (Nat × Nat × Nat × Nat)}
    (B : BodyLoose p l y S cc maxL ret e s m args below meth c s₁) (h : (Cond.codeWith y bytes maxL' ret' hh).before args s = true) : c.exceptionTable.toList = tableOf hh := by
  obtain ⟨m9, meth9, c9, hn9, h1, h2, -, -, h6, -⟩ := Cond.codeWith_spec h
  cases Option.some.inj (hn9.symm.trans B.named)
  cases Option.some.inj (h1.symm.trans B.method)
  cases Option.some.inj (h2.symm.trans (Stand.of_body B).code)
  rw [← h6, table_eq]
end Bodies
end VXA
/-! ===== END ===== -/
/-! ===== BEGIN a static call of a method with an exception table ===== -/
section VXS
variable {p : Program} {l : Launch} {e : Env} {R : Room} {s : State} {m : MethodId} {args : Array Value} {below : List Frame} {meth : Method} {c : Code} {T : State} {H : Heap} {locs : List Loc} {cells slots : Nat}
abbrev vx_CSW (R : Room) (s : State) (args : Array Value) (own : String) (index : Nat) (y : MethodName) (bytes : ByteArray) (maxL : Nat) (ret : Option FieldType) (hh : List (Nat × Nat × Nat × Nat)) (ws : List Cond) (rm : Room) (mc ms n : Nat) : Prop :=
  (rm.cells = mc ∧ rm.slots = ms ∧ rm.frames + 1 ≤ R.frames ∧ 8 + (maxL + 11) + rm.locals ≤ R.locals ∧ (∀ w ∈ ws, ∀ (a' : Array Value) (U : State), s.WarmedH U.vm → w.before a' U = true) ∧ Cond.codeWith y bytes maxL ret hh ∈ ws) ∧
  (Cond.codeWith y bytes maxL ret hh).before args s = true ∧ (Cond.initialized y.cls).before args s = true ∧ (y.cls ≠ "java/lang/invoke/MethodHandle" ∧ y.cls ≠ "java/lang/invoke/VarHandle") ∧
  (∀ sig, parseMethodDescriptor y.desc = some sig → n = sig.parameters.length) ∧ (Cond.methodLink own index y).before args s = true ∧ (Cond.static y).before args s = true
theorem vx_cwSW {own : String} {index maxL mc ms : Nat} {y : MethodName} {bytes : ByteArray} {ret : Option FieldType} {hh : List (Nat × Nat × Nat × Nat)} {Ts ws ws' : List Cond} {rm : Room} (n : Nat) (ht : ∀ w ∈ Ts, w.before args s = true) (hT : GoodIn Ts (va_wsS own index y ws)) (hw : ws = Cond.codeWith y bytes maxL ret hh :: ws') (hrc : rm.cells = mc) (hrs : rm.slots = ms)
    (hd : y.cls ≠ "java/lang/invoke/MethodHandle" ∧ y.cls ≠ "java/lang/invoke/VarHandle" ∧ (parseMethodDescriptor y.desc).map (fun d => d.parameters.length) = some n) (hR : rm.frames + 1 ≤ R.frames ∧ 8 + (maxL + 11) + rm.locals ≤ R.locals) :
    vx_CSW R s args own index y bytes maxL ret hh ws rm mc ms n := by
  have ok : ∀ w ∈ va_wsS own index y ws, w.before args s = true := fun w h => ht w (hT w h).1
  have hG : GoodIn Ts ws := fun w h => hT w (by unfold va_wsS; exact List.mem_append_right _ h)
  have hc : Cond.codeWith y bytes maxL ret hh ∈ ws := by rw [hw]; exact List.mem_cons_self
  refine ⟨⟨hrc, hrs, hR.1, hR.2, pay_in ht hG, hc⟩, ht _ (hG _ hc).1, ok _ (by simp [va_wsS]), ⟨hd.1, hd.2.1⟩, fun sig h => ?_, ok _ (by simp [va_wsS]), ok _ (by simp [va_wsS])⟩
  have h2 := hd.2.2
  rw [h] at h2
  exact (Option.some.inj h2).symm
theorem vx_callSW (X : Stand p l e R s m args below meth c T locs cells slots) (hexec : p.tables.exec = Jvm.exec) {own : String} {index : Nat} {y : MethodName} {bytes : ByteArray} {maxL : Nat} {ret : Option FieldType} {hh : List (Nat × Nat × Nat × Nat)}
    (hown : s.vm.findClass own = some m.cls) (hlink : (Cond.methodLink own index y).before args s = true) (hstat : (Cond.static y).before args s = true) (hinit : (Cond.initialized y.cls).before args s = true)
    (hcode : (Cond.codeWith y bytes maxL ret hh).before args s = true) (hy : y.cls ≠ "java/lang/invoke/MethodHandle" ∧ y.cls ≠ "java/lang/invoke/VarHandle")
    {W9 : Nat} {Pre : Pt → Array Value → Prop} {Post : Pt → Array Value → Option Value → Pt → Prop} (hK : Back l R p e below s args y 3 W9 Pre Post)
    {g : JFrame} (hg : g.method = m) (hsize : g.locals.size = c.maxLocals) {argsL rest : List Value} (hlen : ∀ sig, parseMethodDescriptor y.desc = some sig → argsL.length = sig.parameters.length)
    (hstack : g.stack = argsL.reverse ++ rest) (hW : 2 * g.monitorRoom + (rest.map fun v => v.category).sum ≤ W9) (hdg : decode c.code g.pc = .ok (.invokestatic index, 3))
    (hpre : ∀ vm₁, s.WarmedH vm₁ → Pre ⟨T.setVm vm₁, locs, cells, slots⟩ argsL.toArray) :
    ∃ (v : Option Value) (vm₁ : Vm) (B : Pt), s.WarmedH vm₁ ∧ Stand p l e R s m args below meth c B.U B.locs B.cells B.slots ∧ Post ⟨T.setVm vm₁, locs, cells, slots⟩ argsL.toArray v B ∧
      ∀ target, Steps p.tables e below (B.U.setTop { g with pc := g.pc + 3, stack := v.toList ++ rest }) target → Steps p.tables e below (T.setTop g) target := by
  obtain ⟨mk, methM, cM, hnamed, hmethM, -, -, -, -, -, -, hsigM⟩ := Cond.codeWith_spec hcode
  have hstatic : methM.isStatic = true := Cond.static_spec hnamed hmethM hstat
  obtain ⟨kP, hkP, -⟩ := className_of_methodNamed hnamed
  have hinitP : kP.init = .initialized := Cond.initialized_spec (findClass_of_methodNamed hnamed) hkP hinit
  obtain ⟨vm₁, X₁, hstep₁⟩ := X.invokestatic hexec hown hlink hnamed hmethM hstatic hkP hinitP hy (g := g) hg (argsL := argsL) (rest := rest) (hlen _ hsigM) hstack hdg
  obtain ⟨v, B, X', hpost, hsteps⟩ := hK m meth c ⟨T.setVm vm₁, locs, cells, slots⟩ { g with stack := rest } (.invokestatic index) mk argsL.toArray X₁ hg hsize hdg hW (X₁.named hnamed) (hpre vm₁ X₁.warmed)
  exact ⟨v, vm₁, B, X₁.warmed, X', hpost, fun target h => hstep₁ _ fun acts => by rw [doInvoke_state]; exact hsteps.trans h⟩
theorem vx_runSW {y : MethodName} {bytes cc : ByteArray} {maxL nL mc ms n index : Nat} {ret : Option FieldType} {hh : List (Nat × Nat × Nat × Nat)} {ws : List Cond} {rm : Room} {Pc : Array Value → State → Prop} {Qc : Array Value → State → Outcome → State → Prop} {free : Addr → Prop} {Ts : List Cond} {own : String} {As rest : List Value} {g : JFrame}
    (S : CallFix p m c cc nL s args Ts own) (hM : Met l y ws rm Pc Qc mc ms free) (cw : vx_CSW R s args own index y bytes maxL ret hh ws rm mc ms n) (hp : PreS s H Pc As)
    (hg : g.method = m) (hn : As.length = n) (hsize : g.locals.size = nL) (hstack : g.stack = As.reverse ++ rest) (hW : 2 * g.monitorRoom + (rest.map fun v => v.category).sum ≤ 8) (hdg : decode cc g.pc = .ok (.invokestatic index, 3)) (hf : cells + mc ≤ R.cells ∧ slots + ms ≤ R.slots) :
    va_Run p l e R s m args below meth c H locs cells slots mc ms g rest (Qc As.toArray) (free) := by
  obtain ⟨⟨hrc, hrs, hfr, hlo, hws, hcw⟩, hcode, hini, hy, hlen, hl, hstt⟩ := cw
  have hK : Back l R p e below s args y 3 8 (PreOf R mc ms Pc) (PostOf Qc mc ms free) := va_backW (hh := hh) (bytes := bytes) (maxL := maxL) (ret := ret) hM hp.1 hrc hrs hfr hlo hws hcw (fun a' U hW => word_at hW (Or.inl (by first | rfl | simp [Cond.onTables, Cond.keeps, Cond.steady])) hini)
  obtain ⟨hx, hb, hml, ho, -⟩ := S
  intro T hT X
  obtain ⟨v, vm₁, ⟨U', l2, c2, s2⟩, hW₁, X', ⟨g', mk, t, L, e1, e2, hq, h1, hL, h2, h3⟩, st⟩ := vx_callSW X hx (hh := hh) (bytes := bytes) (maxL := maxL) (ret := ret) ho hl hstt hini hcode hy hK hg (hsize.trans hml.symm) (argsL := As) (rest := rest) (fun sig h => hn.trans (hlen sig h)) hstack hW (by rw [hb]; exact hdg)
    (fun vm₁ hW₁ => ⟨hf.1, hf.2, hp.2 (T.setVm vm₁) hT hW₁⟩)
  dsimp only [Pt.U, Pt.locs, Pt.cells, Pt.slots] at X' e1 e2 h1 h2 h3 st
  subst h1; subst h2; subst h3
  exact ⟨v, (T.setVm vm₁).calling g' mk As.toArray, t, U', L, hT, X', hL, e1, e2, hq, st⟩
/-- not caught here, past rows that name other classes: it goes on to the caller -/
theorem vx_outP {p : Program} {l : Launch} {e : Env} {R : Room} {s : State} {m : MethodId} {args : Array Value} {below : List Frame} {meth : Method} {c : Code} {H : Heap} {locs : List Loc} {cells slots : Nat} {free : Addr → Prop} {ls : Array Slot} {rest : List Value} {Qc : Array Value → State → Outcome → State → Prop} {XC : String → State → State → Prop}
    {pc : Nat} {own E : String} {ce : Cell} {q : Addr} {mc ms : Nat} (hown : s.vm.findClass own = some m.cls) (hlocks : meth.locks = false)
    (hpass : ∀ z ∈ c.exceptionTable.toList, covers z pc = false ∨ (z.catchType ≠ 0 ∧ ∃ nm : String, (Cond.classLink own z.catchType nm).before args s = true ∧ va_Nc E nm s)) (hcell : H[q]? = some ce) (hv : ce.vm = .none) (hcl : s.vm.findClass E = some ce.cls)
    (hx : ∀ t : State, t.heap = H → s.vm.Alike t.vm → XC E s t) (hf : ∀ z ∈ locs, free z.base) (hc : cells ≤ mc) (hs : slots ≤ ms) :
    vx_W p l e R s m args below meth c H locs cells slots (vx_MQ below Qc XC args s mc ms free) (F0 m pc ls rest) q := by
  intro T hT X
  have hpl : e.platform.magicAccessors = ({} : Platform).magicAccessors := by rw [X.admits.platform]
  obtain ⟨vm', hW', X', st⟩ := X.outThrough hlocks q (g := F0 m pc ls rest) rfl rfl rfl (cell := ce) (by rw [hT]; exact hcell) (by rw [hv]; rfl)
    (by obtain ⟨k9, h9, -⟩ := Vm.findClass_spec hcl; exact ⟨k9, h9⟩) (fun z hz => by
      rcases hpass z hz with h | ⟨hz0, nm, hl1, hn1⟩
      · exact Or.inl h
      · obtain ⟨c6, hc6, hcl6⟩ := Cond.classLink_spec hown hl1 e.platform hpl
        obtain ⟨a8, b8, h1, h2, h3⟩ := hn1
        cases Option.some.inj (h1.symm.trans hcl)
        cases Option.some.inj (h2.symm.trans hc6)
        exact Or.inr ⟨hz0, _, hcl6, h3⟩)
  obtain ⟨g₀, hfr⟩ := X'.frames_eq
  have hcell9 : ((T.setVm vm').setFrames (.throwing q :: below)).heap[q]? = some ce := by
    show T.heap[q]? = some ce
    rw [hT]; exact hcell
  have hend : Ended ((T.setVm vm').setFrames (.throwing q :: below)) below (.threw q) := State.frames_setFrames _ (State.cur_lt_of_frames hfr)
  refine ⟨(T.setVm vm').setFrames (.throwing q :: below), ?_, .threw q, X'.here.running, hend, Or.inr ⟨q, rfl, E, ce, locs, hx _ hT (X'.ends _).1.alike, hcell9, hv, hcl, (X'.ends _).1, (X'.ends _).2.mono hc hs, hf⟩⟩
  rw [X.pushThrowing_eq]
  exact st
/-- a thing of a world lies in the heap -/
theorem vx_lt {D : va_G} {cl : List vw_C} {ws : va_W} {H1 : Heap} (h : va_P D cl ws H1) {k : Nat} {q : Nat × va_E} (hk : ws[k]? = some q) : q.1 < H1.size := (h k q hk).lt
end VXS
/-! ===== END ===== -/
/-! ===== BEGIN methods with a table of their own: called by a name, returning or throwing ===== -/
section VXH
/-! vx_backW, vx_callVX, vx_callSX, vx_callVW, vx_runVW, vx_runVX, vx_runSX, vx_ofWH follow the same proofs as their sisters above (Free/Laws.lean, Shelf42/LK1.lean); vx_outP calls Shelf42/NT130.lean (outThrough). -/
section
variable {l : Launch} {R : Room} {p : Program} {e : Env} {below : List Frame} {s : State} {sargs : Array Value} {y : MethodName} {len W9 : Nat}
theorem vx_backW {ws : List Cond} {rm : Room} {Pc : Array Value → State → Prop} {Qc : Array Value → State → Outcome → State → Prop} {XC : String → State → State → Prop} {mc ms : Nat} {free : Addr → Prop} {bytes : ByteArray} {maxL : Nat} {ret : Option FieldType} {hh : List (Nat × Nat × Nat × Nat)}
    (hM : vx_Met l y ws rm Pc Qc XC mc ms free) (hblind : FrameBlind Pc) (hrc : rm.cells = mc) (hrs : rm.slots = ms)
    (hframes : rm.frames + 1 ≤ R.frames) (hlocals : W9 + (maxL + 11) + rm.locals ≤ R.locals)
    (hws : ∀ w ∈ ws, ∀ a' U, s.WarmedH U.vm → w.before a' U = true) (hcode : Cond.codeWith y bytes maxL ret hh ∈ ws) (hinit : ∀ a' U, s.WarmedH U.vm → (Cond.initialized y.cls).before a' U = true) :
    vx_Back l R p e below s sargs y len W9 (PreOf R mc ms Pc) (PostOf Qc mc ms free) (vx_Post XC mc ms free) := by
  intro m meth c A g ig mk a X hg hsize hdg hW hn hp
  have h1 : (headSpec ws rm).pre.before a A.U = true := atoms_intro fun w hw => hws w hw _ _ X.warmed
  have h2 : (Cond.codeWith y bytes maxL ret hh).before a A.U = true := hws _ hcode _ _ X.warmed
  have h3 : (Cond.initialized y.cls).before a A.U = true := hinit _ _ X.warmed
  have h4 : A.cells + (headSpec ws rm).room.cells ≤ R.cells := by rw [show (headSpec ws rm).room.cells = mc from hrc]; exact hp.1
  have h5 : A.slots + (headSpec ws rm).room.slots ≤ R.slots := by rw [show (headSpec ws rm).room.slots = ms from hrs]; exact hp.2.1
  have hPc : Pc a (A.U.calling g mk a) := hblind _ _ _ _ hp.2.2
  obtain ⟨U, Ls, c0, s0⟩ := A
  dsimp only [Pt.U, Pt.locs, Pt.cells, Pt.slots] at h1 h2 h3 h4 h5 X hn hPc ⊢
  obtain ⟨m9, methY, cY, hn9, hmY, hcY, -, hlY, -⟩ := Cond.codeWith_spec h2
  cases Option.some.inj (hn9.symm.trans hn)
  obtain ⟨kY, hkY, -⟩ := className_of_methodNamed hn
  have hinitY : kY.init = .initialized := Cond.initialized_spec (findClass_of_methodNamed hn) hkY h3
  have h : At U g.method c below := by rw [hg]; exact X.here
  have hlocals9 : W9 + (maxL + 11) + (headSpec ws rm).room.locals ≤ R.locals := hlocals
  have happ : (headSpec ws rm).appliesLoose y e.platform (U.calling g mk a) = true :=
    Spec.appliesLoose_calling (g := g) h hdg hn hkY hinitY
      (X.room_calling (g := g) (R' := (headSpec ws rm).room) hsize hmY hcY hframes (by rw [hlY]; omega) h4 h5) h1
  obtain ⟨mid, hmid⟩ := h.above
  have hfr : (U.setTop g).frames = (.java g :: mid) ++ below := by rw [State.frames_setTop' g h.top, hmid]; rfl
  obtain ⟨o, s₂, hsteps, -, hend, hq⟩ := Steps.callFree hM p X.admits X.cas X.clock (acts := []) hfr happ hPc trivial
  have hq' : vx_Q Qc XC mc ms free a (U.calling g mk a) o s₂ := hq
  rw [State.frames_setTop' g h.top] at hend
  obtain ⟨g₀, hg0⟩ := Option.isSome_iff_exists.mp h.top
  obtain ⟨r, hr⟩ := State.topJava?_eq_some.mp hg0
  have hr' : (({ U with heap := s₂.heap, slotsUsed := s₂.slotsUsed } : State).setVm s₂.vm).frames = .java g₀ :: r := hr
  rcases hq' with ⟨hqc, L, hfe, hL⟩ | ⟨q, rfl, E, ce, L, hx, hce, hcv, hcl, hW₂, hsm, hL⟩
  · obtain ⟨⟨v, rfl⟩, hW₂, e2, q2, q3, q4, q5, q6⟩ := id hfe
    have e3 : s₂ = ({ (U.calling g mk a).setFrames s₂.frames with heap := s₂.heap, slotsUsed := s₂.slotsUsed } : State).setVm s₂.vm := by
      have : s₂ = ({ s₂ with vm := (U.calling g mk a).vm } : State).setVm s₂.vm := rfl
      rw [e2] at this
      exact this
    obtain ⟨c₂, i₂, len₂, hc₂, hd₂, hf₂⟩ := hend
    have hW' : U.WarmedH s₂.vm := hW₂
    have hcc : c₂ = c := by
      have h1 : s₂.code? g.method = U.code? g.method := by
        rw [State.code?_eq, State.code?_eq, hW'.alike.method?]
      exact Option.some.inj (hc₂.symm.trans (h1.trans h.code))
    subst hcc
    have hlen : len₂ = len := by rw [hdg] at hd₂; cases hd₂; rfl
    subst hlen
    have hs₂ : s₂ = (({ U with heap := s₂.heap, slotsUsed := s₂.slotsUsed } : State).setVm s₂.vm).setTop { g with pc := g.pc + len₂, stack := v.toList ++ g.stack } := by
      refine e3.trans ?_
      rw [hf₂, State.calling_eq h.top, State.setFrames_setFrames, State.setTop_of_frames _ hr', hr]
      rfl
    have hsame : U.sameButNew ({ U with heap := s₂.heap, slotsUsed := s₂.slotsUsed } : State) L mc ms := by
      refine ⟨?_, q2, q3, q4, q5, q6⟩
      obtain ⟨t, ht, -⟩ := State.frames_cons hr
      show ({ U with heap := s₂.heap, slotsUsed := s₂.slotsUsed } : State) = { U.setFrames U.frames with heap := s₂.heap, slotsUsed := s₂.slotsUsed }
      rw [State.setFrames_self ht]
    subst hg
    refine Or.inl ⟨v, ⟨(({ U with heap := s₂.heap, slotsUsed := s₂.slotsUsed } : State).setVm s₂.vm), Ls ++ L, c0 + mc, s0 + ms⟩,
      ⟨X.admits, X.cas, X.clock, X.frames, X.room, X.hears, X.method, X.code, (X.here.setHeapUsed s₂.heap s₂.slotsUsed).setVm hW'.alike, X.tail, State.WarmedH.trans X.warmed hW', X.limits, X.bytes, X.same.trans (hsame.setVm s.vm)⟩,
      ⟨g, mk, s₂, L, rfl, rfl, hqc, rfl, hL, rfl, rfl⟩, ?_⟩
    show Steps p.tables e below _ ((({ U with heap := s₂.heap, slotsUsed := s₂.slotsUsed } : State).setVm s₂.vm).setTop { g with pc := g.pc + len₂, stack := v.toList ++ g.stack })
    rw [← hs₂]
    exact hsteps
  · obtain ⟨e2, q2, q3, q4, q5, q6⟩ := id hsm
    have e3 : s₂ = ({ (U.calling g mk a).setFrames s₂.frames with heap := s₂.heap, slotsUsed := s₂.slotsUsed } : State).setVm s₂.vm := by
      have : s₂ = ({ s₂ with vm := (U.calling g mk a).vm } : State).setVm s₂.vm := rfl
      rw [e2] at this
      exact this
    have hf₂ : s₂.frames = .throwing q :: .java g :: U.frames.tail := hend
    have hW' : U.WarmedH s₂.vm := hW₂
    have hs₂ : s₂ = ((({ U with heap := s₂.heap, slotsUsed := s₂.slotsUsed } : State).setVm s₂.vm).setTop g).pushFrame (.throwing q) := by
      refine e3.trans ?_
      rw [hf₂, State.calling_eq h.top, State.setFrames_setFrames, State.pushFrame, State.frames_setTop _ hr', State.setTop_of_frames _ hr', State.setFrames_setFrames, hr]
      rfl
    have hsame : U.sameButNew ({ U with heap := s₂.heap, slotsUsed := s₂.slotsUsed } : State) L mc ms := by
      refine ⟨?_, q2, q3, q4, q5, q6⟩
      obtain ⟨t, ht, -⟩ := State.frames_cons hr
      show ({ U with heap := s₂.heap, slotsUsed := s₂.slotsUsed } : State) = { U.setFrames U.frames with heap := s₂.heap, slotsUsed := s₂.slotsUsed }
      rw [State.setFrames_self ht]
    subst hg
    refine Or.inr ⟨q, ⟨(({ U with heap := s₂.heap, slotsUsed := s₂.slotsUsed } : State).setVm s₂.vm), Ls ++ L, c0 + mc, s0 + ms⟩,
      ⟨X.admits, X.cas, X.clock, X.frames, X.room, X.hears, X.method, X.code, (X.here.setHeapUsed s₂.heap s₂.slotsUsed).setVm hW'.alike, X.tail, State.WarmedH.trans X.warmed hW', X.limits, X.bytes, X.same.trans (hsame.setVm s.vm)⟩,
      ⟨g, mk, s₂, L, E, ce, rfl, rfl, hx, hce, hcv, hcl, rfl, hL, rfl, rfl⟩, ?_⟩
    show Steps p.tables e below _ (((({ U with heap := s₂.heap, slotsUsed := s₂.slotsUsed } : State).setVm s₂.vm).setTop g).pushFrame (.throwing q))
    rw [← hs₂]
    exact hsteps
end
variable {p : Program} {l : Launch} {e : Env} {R : Room} {s : State} {m : MethodId} {args : Array Value} {below : List Frame} {meth : Method} {c : Code} {T : State} {H : Heap} {locs : List Loc} {cells slots : Nat}
theorem vx_callVX (X : Stand p l e R s m args below meth c T locs cells slots) (hexec : p.tables.exec = Jvm.exec) {own C : String} {index : Nat} {y : MethodName} {bytes : ByteArray} {maxL : Nat} {ret : Option FieldType} {hh : List (Nat × Nat × Nat × Nat)}
    (hown : s.vm.findClass own = some m.cls) (hlink : (Cond.methodLink own index y).before args s = true) (hinst : (Cond.instanceMethod y).before args s = true) (hsel : (Cond.selects C y y).before args s = true)
    (hcode : (Cond.codeWith y bytes maxL ret hh).before args s = true) (hy : y.cls ≠ "java/lang/invoke/MethodHandle" ∧ y.cls ≠ "java/lang/invoke/VarHandle")
    {W9 : Nat} {Pre : Pt → Array Value → Prop} {Post : Pt → Array Value → Option Value → Pt → Prop} {PostX : Pt → Array Value → Addr → Pt → Prop} (hK : vx_Back l R p e below s args y 3 W9 Pre Post PostX)
    {b : Addr} {cellB : Cell} (hcell : T.heap[b]? = some cellB) (hobj : cellB.vm.isStatics = false) (hcls : s.vm.findClass C = some cellB.cls)
    {g : JFrame} (hg : g.method = m) (hsize : g.locals.size = c.maxLocals) {argsL rest : List Value} (hlen : ∀ sig, parseMethodDescriptor y.desc = some sig → argsL.length = sig.parameters.length)
    (hstack : g.stack = argsL.reverse ++ .ref b :: rest) (hW : 2 * g.monitorRoom + (rest.map fun v => v.category).sum ≤ W9) (hdg : decode c.code g.pc = .ok (.invokevirtual index, 3))
    (hpre : ∀ vm₁, s.WarmedH vm₁ → Pre ⟨T.setVm vm₁, locs, cells, slots⟩ (Value.ref b :: argsL).toArray) :
    (∃ (v : Option Value) (vm₁ : Vm) (B : Pt), s.WarmedH vm₁ ∧ Stand p l e R s m args below meth c B.U B.locs B.cells B.slots ∧ Post ⟨T.setVm vm₁, locs, cells, slots⟩ (Value.ref b :: argsL).toArray v B ∧
      ∀ target, Steps p.tables e below (B.U.setTop { g with pc := g.pc + 3, stack := v.toList ++ rest }) target → Steps p.tables e below (T.setTop g) target) ∨
    (∃ (q : Addr) (vm₁ : Vm) (B : Pt), s.WarmedH vm₁ ∧ Stand p l e R s m args below meth c B.U B.locs B.cells B.slots ∧ PostX ⟨T.setVm vm₁, locs, cells, slots⟩ (Value.ref b :: argsL).toArray q B ∧
      Steps p.tables e below (T.setTop g) ((B.U.setTop { g with stack := rest }).pushFrame (.throwing q))) := by
  obtain ⟨mk, methM, hnamed, hmethM, hstM, habM⟩ := Cond.instanceMethod_spec hinst
  obtain ⟨m8, methM', cM, hn8, hmethM', -, -, -, -, -, -, hsigM⟩ := Cond.codeWith_spec hcode
  cases Option.some.inj (hn8.symm.trans hnamed)
  cases hmethM.symm.trans hmethM'
  obtain ⟨c2, r2, m2, q1, q2, q3, q4, kP, hkP, hkPi⟩ := Cond.selects_spec hsel
  cases hcls.symm.trans q1
  cases (State.methodFound?_of_named hnamed hy).symm.trans q2
  cases hnamed.symm.trans q3
  have hselP : selectMethod e.platform s.vm cellB.cls mk = .method mk := by rw [Launch.admits_selectMethod X.admits]; exact q4
  obtain ⟨vm₁, X₁, hstep₁⟩ := X.invokevirtual hexec hown hlink hnamed hmethM hstM hkP hkPi hy (a := b) (cell := cellB) hcell
    (fun z h => by rw [h] at hobj; cases hobj) hselP hmethM habM hkP hkPi (g := g) hg (argsL := argsL) (rest := rest) (hlen _ hsigM) hstack hdg
  rcases hK m meth c ⟨T.setVm vm₁, locs, cells, slots⟩ { g with stack := rest } (.invokevirtual index) mk (Value.ref b :: argsL).toArray X₁ hg hsize hdg hW (X₁.named hnamed) (hpre vm₁ X₁.warmed) with ⟨v, B, X', hpost, hsteps⟩ | ⟨q, B, X', hpost, hsteps⟩
  · exact Or.inl ⟨v, vm₁, B, X₁.warmed, X', hpost, fun target h => hstep₁ _ fun acts => by rw [doInvoke_state]; exact hsteps.trans h⟩
  · exact Or.inr ⟨q, vm₁, B, X₁.warmed, X', hpost, hstep₁ _ fun acts => by rw [doInvoke_state]; exact hsteps⟩
theorem vx_callSX (X : Stand p l e R s m args below meth c T locs cells slots) (hexec : p.tables.exec = Jvm.exec) {own : String} {index : Nat} {y : MethodName} {bytes : ByteArray} {maxL : Nat} {ret : Option FieldType} {hh : List (Nat × Nat × Nat × Nat)}
    (hown : s.vm.findClass own = some m.cls) (hlink : (Cond.methodLink own index y).before args s = true) (hstat : (Cond.static y).before args s = true) (hinit : (Cond.initialized y.cls).before args s = true)
    (hcode : (Cond.codeWith y bytes maxL ret hh).before args s = true) (hy : y.cls ≠ "java/lang/invoke/MethodHandle" ∧ y.cls ≠ "java/lang/invoke/VarHandle")
    {W9 : Nat} {Pre : Pt → Array Value → Prop} {Post : Pt → Array Value → Option Value → Pt → Prop} {PostX : Pt → Array Value → Addr → Pt → Prop} (hK : vx_Back l R p e below s args y 3 W9 Pre Post PostX)
    {g : JFrame} (hg : g.method = m) (hsize : g.locals.size = c.maxLocals) {argsL rest : List Value} (hlen : ∀ sig, parseMethodDescriptor y.desc = some sig → argsL.length = sig.parameters.length)
    (hstack : g.stack = argsL.reverse ++ rest) (hW : 2 * g.monitorRoom + (rest.map fun v => v.category).sum ≤ W9) (hdg : decode c.code g.pc = .ok (.invokestatic index, 3))
    (hpre : ∀ vm₁, s.WarmedH vm₁ → Pre ⟨T.setVm vm₁, locs, cells, slots⟩ argsL.toArray) :
    (∃ (v : Option Value) (vm₁ : Vm) (B : Pt), s.WarmedH vm₁ ∧ Stand p l e R s m args below meth c B.U B.locs B.cells B.slots ∧ Post ⟨T.setVm vm₁, locs, cells, slots⟩ argsL.toArray v B ∧
      ∀ target, Steps p.tables e below (B.U.setTop { g with pc := g.pc + 3, stack := v.toList ++ rest }) target → Steps p.tables e below (T.setTop g) target) ∨
    (∃ (q : Addr) (vm₁ : Vm) (B : Pt), s.WarmedH vm₁ ∧ Stand p l e R s m args below meth c B.U B.locs B.cells B.slots ∧ PostX ⟨T.setVm vm₁, locs, cells, slots⟩ argsL.toArray q B ∧
      Steps p.tables e below (T.setTop g) ((B.U.setTop { g with stack := rest }).pushFrame (.throwing q))) := by
  obtain ⟨mk, methM, cM, hnamed, hmethM, -, -, -, -, -, -, hsigM⟩ := Cond.codeWith_spec hcode
  have hstatic : methM.isStatic = true := Cond.static_spec hnamed hmethM hstat
  obtain ⟨kP, hkP, -⟩ := className_of_methodNamed hnamed
  have hinitP : kP.init = .initialized := Cond.initialized_spec (findClass_of_methodNamed hnamed) hkP hinit
  obtain ⟨vm₁, X₁, hstep₁⟩ := X.invokestatic hexec hown hlink hnamed hmethM hstatic hkP hinitP hy (g := g) hg (argsL := argsL) (rest := rest) (hlen _ hsigM) hstack hdg
  rcases hK m meth c ⟨T.setVm vm₁, locs, cells, slots⟩ { g with stack := rest } (.invokestatic index) mk argsL.toArray X₁ hg hsize hdg hW (X₁.named hnamed) (hpre vm₁ X₁.warmed) with ⟨v, B, X', hpost, hsteps⟩ | ⟨q, B, X', hpost, hsteps⟩
  · exact Or.inl ⟨v, vm₁, B, X₁.warmed, X', hpost, fun target h => hstep₁ _ fun acts => by rw [doInvoke_state]; exact hsteps.trans h⟩
  · exact Or.inr ⟨q, vm₁, B, X₁.warmed, X', hpost, hstep₁ _ fun acts => by rw [doInvoke_state]; exact hsteps⟩
theorem vx_callVW (X : Stand p l e R s m args below meth c T locs cells slots) (hexec : p.tables.exec = Jvm.exec) {own C : String} {index : Nat} {y : MethodName} {bytes : ByteArray} {maxL : Nat} {ret : Option FieldType} {hh : List (Nat × Nat × Nat × Nat)}
    (hown : s.vm.findClass own = some m.cls) (hlink : (Cond.methodLink own index y).before args s = true) (hinst : (Cond.instanceMethod y).before args s = true) (hsel : (Cond.selects C y y).before args s = true)
    (hcode : (Cond.codeWith y bytes maxL ret hh).before args s = true) (hy : y.cls ≠ "java/lang/invoke/MethodHandle" ∧ y.cls ≠ "java/lang/invoke/VarHandle")
    {W9 : Nat} {Pre : Pt → Array Value → Prop} {Post : Pt → Array Value → Option Value → Pt → Prop} (hK : Back l R p e below s args y 3 W9 Pre Post)
    {b : Addr} {cellB : Cell} (hcell : T.heap[b]? = some cellB) (hobj : cellB.vm.isStatics = false) (hcls : s.vm.findClass C = some cellB.cls)
    {g : JFrame} (hg : g.method = m) (hsize : g.locals.size = c.maxLocals) {argsL rest : List Value} (hlen : ∀ sig, parseMethodDescriptor y.desc = some sig → argsL.length = sig.parameters.length)
    (hstack : g.stack = argsL.reverse ++ .ref b :: rest) (hW : 2 * g.monitorRoom + (rest.map fun v => v.category).sum ≤ W9) (hdg : decode c.code g.pc = .ok (.invokevirtual index, 3))
    (hpre : ∀ vm₁, s.WarmedH vm₁ → Pre ⟨T.setVm vm₁, locs, cells, slots⟩ (Value.ref b :: argsL).toArray) :
    ∃ (v : Option Value) (vm₁ : Vm) (B : Pt), s.WarmedH vm₁ ∧ Stand p l e R s m args below meth c B.U B.locs B.cells B.slots ∧ Post ⟨T.setVm vm₁, locs, cells, slots⟩ (Value.ref b :: argsL).toArray v B ∧
      ∀ target, Steps p.tables e below (B.U.setTop { g with pc := g.pc + 3, stack := v.toList ++ rest }) target → Steps p.tables e below (T.setTop g) target := by
  obtain ⟨mk, methM, hnamed, hmethM, hstM, habM⟩ := Cond.instanceMethod_spec hinst
  obtain ⟨m8, methM', cM, hn8, hmethM', -, -, -, -, -, -, hsigM⟩ := Cond.codeWith_spec hcode
  cases Option.some.inj (hn8.symm.trans hnamed)
  cases hmethM.symm.trans hmethM'
  obtain ⟨c2, r2, m2, q1, q2, q3, q4, kP, hkP, hkPi⟩ := Cond.selects_spec hsel
  cases hcls.symm.trans q1
  cases (State.methodFound?_of_named hnamed hy).symm.trans q2
  cases hnamed.symm.trans q3
  have hselP : selectMethod e.platform s.vm cellB.cls mk = .method mk := by rw [Launch.admits_selectMethod X.admits]; exact q4
  obtain ⟨vm₁, X₁, hstep₁⟩ := X.invokevirtual hexec hown hlink hnamed hmethM hstM hkP hkPi hy (a := b) (cell := cellB) hcell
    (fun z h => by rw [h] at hobj; cases hobj) hselP hmethM habM hkP hkPi (g := g) hg (argsL := argsL) (rest := rest) (hlen _ hsigM) hstack hdg
  obtain ⟨v, B, X', hpost, hsteps⟩ := hK m meth c ⟨T.setVm vm₁, locs, cells, slots⟩ { g with stack := rest } (.invokevirtual index) mk (Value.ref b :: argsL).toArray X₁ hg hsize hdg hW (X₁.named hnamed) (hpre vm₁ X₁.warmed)
  exact ⟨v, vm₁, B, X₁.warmed, X', hpost, fun target h => hstep₁ _ fun acts => by rw [doInvoke_state]; exact hsteps.trans h⟩
abbrev vx_CVW (R : Room) (s : State) (args : Array Value) (own C : String) (index : Nat) (y : MethodName) (bytes : ByteArray) (maxL : Nat) (ret : Option FieldType) (hh : List (Nat × Nat × Nat × Nat)) (ws : List Cond) (rm : Room) (mc ms n : Nat) : Prop :=
  (rm.cells = mc ∧ rm.slots = ms ∧ rm.frames + 1 ≤ R.frames ∧ 8 + (maxL + 11) + rm.locals ≤ R.locals ∧ (∀ w ∈ ws, ∀ (a' : Array Value) (U : State), s.WarmedH U.vm → w.before a' U = true) ∧ Cond.codeWith y bytes maxL ret hh ∈ ws) ∧
  (Cond.codeWith y bytes maxL ret hh).before args s = true ∧ (Cond.initialized y.cls).before args s = true ∧ (y.cls ≠ "java/lang/invoke/MethodHandle" ∧ y.cls ≠ "java/lang/invoke/VarHandle") ∧
  (∀ sig, parseMethodDescriptor y.desc = some sig → n = sig.parameters.length) ∧ (Cond.methodLink own index y).before args s = true ∧ (Cond.instanceMethod y).before args s = true ∧ (Cond.selects C y y).before args s = true
theorem vx_cwVW {own C : String} {index maxL mc ms : Nat} {y : MethodName} {bytes : ByteArray} {ret : Option FieldType} {hh : List (Nat × Nat × Nat × Nat)} {Ts ws ws' : List Cond} {rm : Room} (n : Nat) (ht : ∀ w ∈ Ts, w.before args s = true) (hT : GoodIn Ts (wsV own index C y ws)) (hw : ws = Cond.codeWith y bytes maxL ret hh :: ws') (hrc : rm.cells = mc) (hrs : rm.slots = ms)
    (hd : y.cls = C ∧ y.cls ≠ "java/lang/invoke/MethodHandle" ∧ y.cls ≠ "java/lang/invoke/VarHandle" ∧ (parseMethodDescriptor y.desc).map (fun d => d.parameters.length) = some n) (hR : rm.frames + 1 ≤ R.frames ∧ 8 + (maxL + 11) + rm.locals ≤ R.locals) :
    vx_CVW R s args own C index y bytes maxL ret hh ws rm mc ms n := by
  obtain ⟨hC, hd⟩ := hd
  subst hC
  have ok : ∀ w ∈ wsV own index y.cls y ws, w.before args s = true := fun w h => ht w (hT w h).1
  have hG : GoodIn Ts ws := fun w h => hT w (by unfold wsV; exact List.mem_append_right _ h)
  have hc : Cond.codeWith y bytes maxL ret hh ∈ ws := by rw [hw]; exact List.mem_cons_self
  refine ⟨⟨hrc, hrs, hR.1, hR.2, pay_in ht hG, hc⟩, ht _ (hG _ hc).1, ok _ (by simp [wsV]), ⟨hd.1, hd.2.1⟩, fun sig h => ?_, ok _ (by simp [wsV]), ok _ (by simp [wsV]), ok _ (by simp [wsV])⟩
  have h2 := hd.2.2
  rw [h] at h2
  exact (Option.some.inj h2).symm
theorem vx_runVW {y : MethodName} {bytes cc : ByteArray} {maxL nL mc ms n index : Nat} {ret : Option FieldType} {hh : List (Nat × Nat × Nat × Nat)} {ws : List Cond} {rm : Room} {Pc : Array Value → State → Prop} {Qc : Array Value → State → Outcome → State → Prop} {free : Addr → Prop} {Ts : List Cond} {own C : String} {b : Addr} {As rest : List Value} {g : JFrame}
    (S : CallFix p m c cc nL s args Ts own) (hM : Met l y ws rm Pc Qc mc ms free) (cw : vx_CVW R s args own C index y bytes maxL ret hh ws rm mc ms n) (hp : PreV s H C b Pc As)
    (hg : g.method = m) (hn : As.length = n) (hsize : g.locals.size = nL) (hstack : g.stack = As.reverse ++ .ref b :: rest) (hW : 2 * g.monitorRoom + (rest.map fun v => v.category).sum ≤ 8) (hdg : decode cc g.pc = .ok (.invokevirtual index, 3)) (hf : cells + mc ≤ R.cells ∧ slots + ms ≤ R.slots) :
    va_Run p l e R s m args below meth c H locs cells slots mc ms g rest (Qc (Value.ref b :: As).toArray) free := by
  obtain ⟨⟨hrc, hrs, hfr, hlo, hws, hcw⟩, hcode, hini, hy, hlen, hl, hin, hse⟩ := cw
  have hK : Back l R p e below s args y 3 8 (PreOf R mc ms Pc) (PostOf Qc mc ms free) := va_backW (hh := hh) (bytes := bytes) (maxL := maxL) (ret := ret) hM hp.1 hrc hrs hfr hlo hws hcw (fun a' U hW => word_at hW (Or.inl (by first | rfl | simp [Cond.onTables, Cond.keeps, Cond.steady])) hini)
  obtain ⟨hx, hb, hml, ho, -⟩ := S
  obtain ⟨-, ⟨cellB, hcB, hoB, hclB⟩, hPc⟩ := hp
  intro T hT X
  obtain ⟨v, vm₁, ⟨U', l2, c2, s2⟩, hW₁, X', ⟨g', mk, t, L, e1, e2, hq, h1, hL, h2, h3⟩, st⟩ := vx_callVW X hx (C := C) (hh := hh) (bytes := bytes) (maxL := maxL) (ret := ret) ho hl hin hse hcode hy hK (by rw [hT]; exact hcB) hoB hclB hg (hsize.trans hml.symm) (argsL := As) (rest := rest) (fun sig h => hn.trans (hlen sig h)) hstack hW (by rw [hb]; exact hdg)
    (fun vm₁ hW₁ => ⟨hf.1, hf.2, hPc (T.setVm vm₁) hT hW₁⟩)
  dsimp only [Pt.U, Pt.locs, Pt.cells, Pt.slots] at X' e1 e2 h1 h2 h3 st
  subst h1; subst h2; subst h3
  exact ⟨v, (T.setVm vm₁).calling g' mk (Value.ref b :: As).toArray, t, U', L, hT, X', hL, e1, e2, hq, st⟩
section
variable {y : MethodName} {bytes cc : ByteArray} {maxL nL mc ms n index : Nat} {ret : Option FieldType} {ws : List Cond} {rm : Room} {Pc : Array Value → State → Prop} {Qc : Array Value → State → Outcome → State → Prop} {XC : String → State → State → Prop} {free : Addr → Prop} {Ts : List Cond} {own C : String} {b : Addr} {As rest : List Value} {g : JFrame}
theorem vx_runVX {hh : List (Nat × Nat × Nat × Nat)} (S : CallFix p m c cc nL s args Ts own) (hM : vx_Met l y ws rm Pc Qc XC mc ms free) (cw : vx_CVW R s args own C index y bytes maxL ret hh ws rm mc ms n) (hp : PreV s H C b Pc As)
    (hg : g.method = m) (hn : As.length = n) (hsize : g.locals.size = nL) (hstack : g.stack = As.reverse ++ .ref b :: rest) (hW : 2 * g.monitorRoom + (rest.map fun v => v.category).sum ≤ 8) (hdg : decode cc g.pc = .ok (.invokevirtual index, 3)) (hf : cells + mc ≤ R.cells ∧ slots + ms ≤ R.slots) :
    vx_Run p l e R s m args below meth c H locs cells slots mc ms g rest (Qc (Value.ref b :: As).toArray) XC free := by
  obtain ⟨⟨hrc, hrs, hfr, hlo, hws, hcw⟩, hcode, hini, hy, hlen, hl, hin, hse⟩ := cw
  have hK : vx_Back l R p e below s args y 3 8 (PreOf R mc ms Pc) (PostOf Qc mc ms free) (vx_Post XC mc ms free) := vx_backW (hh := hh) (bytes := bytes) (maxL := maxL) (ret := ret) hM hp.1 hrc hrs hfr hlo hws hcw (fun a' U hW => word_at hW (Or.inl (by first | rfl | simp [Cond.onTables, Cond.keeps, Cond.steady])) hini)
  obtain ⟨hx, hb, hml, ho, -⟩ := S
  obtain ⟨-, ⟨cellB, hcB, hoB, hclB⟩, hPc⟩ := hp
  intro T hT X
  rcases vx_callVX X hx (C := C) (hh := hh) (bytes := bytes) (maxL := maxL) (ret := ret) ho hl hin hse hcode hy hK (by rw [hT]; exact hcB) hoB hclB hg (hsize.trans hml.symm) (argsL := As) (rest := rest) (fun sig h => hn.trans (hlen sig h)) hstack hW (by rw [hb]; exact hdg)
    (fun vm₁ hW₁ => ⟨hf.1, hf.2, hPc (T.setVm vm₁) hT hW₁⟩) with ⟨v, vm₁, ⟨U', l2, c2, s2⟩, hW₁, X', ⟨g', mk, t, L, e1, e2, hq, h1, hL, h2, h3⟩, st⟩ | ⟨q, vm₁, ⟨U', l2, c2, s2⟩, hW₁, X', ⟨g', mk, t, L, E, ce, e1, e2, hq, hce, hcv, hcl, h1, hL, h2, h3⟩, st⟩
  · dsimp only [Pt.U, Pt.locs, Pt.cells, Pt.slots] at X' e1 e2 h1 h2 h3 st
    subst h1; subst h2; subst h3
    exact Or.inl ⟨v, (T.setVm vm₁).calling g' mk (Value.ref b :: As).toArray, t, U', L, hT, X', hL, e1, e2, hq, st⟩
  · dsimp only [Pt.U, Pt.locs, Pt.cells, Pt.slots] at X' e1 e2 h1 h2 h3 st hcl
    subst h1; subst h2; subst h3
    exact Or.inr ⟨q, (T.setVm vm₁).calling g' mk (Value.ref b :: As).toArray, t, U', L, E, ce, hT, X', hL, e1, e2, hq, hce, hcv, vx_cls hW₁ hcl, st⟩
theorem vx_runSX {hh : List (Nat × Nat × Nat × Nat)} (S : CallFix p m c cc nL s args Ts own) (hM : vx_Met l y ws rm Pc Qc XC mc ms free) (cw : vx_CSW R s args own index y bytes maxL ret hh ws rm mc ms n) (hp : PreS s H Pc As)
    (hg : g.method = m) (hn : As.length = n) (hsize : g.locals.size = nL) (hstack : g.stack = As.reverse ++ rest) (hW : 2 * g.monitorRoom + (rest.map fun v => v.category).sum ≤ 8) (hdg : decode cc g.pc = .ok (.invokestatic index, 3)) (hf : cells + mc ≤ R.cells ∧ slots + ms ≤ R.slots) :
    vx_Run p l e R s m args below meth c H locs cells slots mc ms g rest (Qc As.toArray) XC free := by
  obtain ⟨⟨hrc, hrs, hfr, hlo, hws, hcw⟩, hcode, hini, hy, hlen, hl, hstt⟩ := cw
  have hK : vx_Back l R p e below s args y 3 8 (PreOf R mc ms Pc) (PostOf Qc mc ms free) (vx_Post XC mc ms free) := vx_backW (hh := hh) (bytes := bytes) (maxL := maxL) (ret := ret) hM hp.1 hrc hrs hfr hlo hws hcw (fun a' U hW => word_at hW (Or.inl (by first | rfl | simp [Cond.onTables, Cond.keeps, Cond.steady])) hini)
  obtain ⟨hx, hb, hml, ho, -⟩ := S
  intro T hT X
  rcases vx_callSX X hx (hh := hh) (bytes := bytes) (maxL := maxL) (ret := ret) ho hl hstt hini hcode hy hK hg (hsize.trans hml.symm) (argsL := As) (rest := rest) (fun sig h => hn.trans (hlen sig h)) hstack hW (by rw [hb]; exact hdg)
    (fun vm₁ hW₁ => ⟨hf.1, hf.2, hp.2 (T.setVm vm₁) hT hW₁⟩) with ⟨v, vm₁, ⟨U', l2, c2, s2⟩, hW₁, X', ⟨g', mk, t, L, e1, e2, hq, h1, hL, h2, h3⟩, st⟩ | ⟨q, vm₁, ⟨U', l2, c2, s2⟩, hW₁, X', ⟨g', mk, t, L, E, ce, e1, e2, hq, hce, hcv, hcl, h1, hL, h2, h3⟩, st⟩
  · dsimp only [Pt.U, Pt.locs, Pt.cells, Pt.slots] at X' e1 e2 h1 h2 h3 st
    subst h1; subst h2; subst h3
    exact Or.inl ⟨v, (T.setVm vm₁).calling g' mk As.toArray, t, U', L, hT, X', hL, e1, e2, hq, st⟩
  · dsimp only [Pt.U, Pt.locs, Pt.cells, Pt.slots] at X' e1 e2 h1 h2 h3 st hcl
    subst h1; subst h2; subst h3
    exact Or.inr ⟨q, (T.setVm vm₁).calling g' mk As.toArray, t, U', L, E, ce, hT, X', hL, e1, e2, hq, hce, hcv, vx_cls hW₁ hcl, st⟩
end
end VXH
theorem vx_ofWH {l : Launch} {y : MethodName} {ws ws' : List Cond} {rm : Room} {Pc : Array Value → State → Prop} {Qc : Array Value → State → Outcome → State → Prop} {XC : String → State → State → Prop} {mc ms : Nat} {free : Addr → Prop} {cc : ByteArray} {maxL : Nat} {ret : Option FieldType} {hh : List (Nat × Nat × Nat × Nat)}
    (hy : plainName y.cls = true) (hw : ws = Cond.codeWith y cc maxL ret hh :: ws')
    (body : ∀ p e s m args below meth c s₁, BodyLoose p l y (headSpec ws rm) cc maxL ret e s m args below meth c s₁ → c.maxLocals = maxL → Pc args s →
      W p l e (headSpec ws rm).room s m args below meth c s.heap [] 0 0 (vx_MQ below Qc XC args s mc ms free) (entryFrame m args maxL)) : vx_Met l y ws rm Pc Qc XC mc ms free := by
  refine MetFree.of_bodyS (code := cc) (maxLocals := maxL) (ret := ret) hy ?_ ?_
  · intro args s m h hn
    obtain ⟨m9, meth, c, hn9, h1, h2, h3, h4, -, h5, h6, -⟩ := Cond.codeWith_spec (atoms_spec (ws := ws) h _ (by rw [hw]; exact List.mem_cons_self))
    cases hn.symm.trans hn9
    exact ⟨meth, c, h1, h2, h3, h4, h5, h6⟩
  · intro p e s m args below meth c s₁ B hml hP _
    have hh0 : s₁.heap = s.heap := by rw [B.state]; rfl
    obtain ⟨t, a1, o, b1, b2, b3⟩ := body p e s m args below meth c s₁ B hml hP s₁ hh0 (Stand.of_body B)
    exact ⟨t, o, a1, b1, b2, b3⟩
/-! ===== END ===== -/
end
section
def RX0 : String := "TowerIntegrals"
def RX1 : String := "TowerIntegralsModel"
def RL : String := "TowerIntegralsLaw"
def TX0 : u_T := fun k => match k with
  | 0 => ("TowerIntegrals", "numbers", "[I", true)
  | 1 => ("TowerIntegrals", "wide", "[I", true)
  | _ => ("TowerIntegrals", "made", "I", false)
def tyX0 : Nat → FieldType := fun k => match k with
  | 0 => .array .int
  | 1 => .array .int
  | _ => .int
theorem nmX0 : ∀ a, a < 3 → ∀ b, b < 3 → a ≠ b → (TX0 a).2.1 ≠ (TX0 b).2.1 := by decide +kernel
theorem tyX0_ok : ∀ k, k < 3 → parseFieldDescriptor (TX0 k).2.2.1 = some (tyX0 k) := by decide +kernel
def TX1 : u_T := fun k => match k with
  | 0 => ("TowerIntegralsModel", "code", "I", false)
  | 1 => ("TowerIntegralsModel", "many", "I", false)
  | 2 => ("TowerIntegralsModel", "numbers", "[I", true)
  | 3 => ("TowerIntegralsModel", "made", "[J", true)
  | 4 => ("TowerIntegralsModel", "p", "[J", true)
  | 5 => ("TowerIntegralsModel", "q", "[J", true)
  | 6 => ("TowerIntegralsModel", "wide", "[J", true)
  | _ => ("TowerIntegralsModel", "sums", "[J", true)
def tyX1 : Nat → FieldType := fun k => match k with
  | 0 => .int
  | 1 => .int
  | 2 => .array .int
  | 3 => .array .long
  | 4 => .array .long
  | 5 => .array .long
  | 6 => .array .long
  | _ => .array .long
theorem nmX1 : ∀ a, a < 8 → ∀ b, b < 8 → a ≠ b → (TX1 a).2.1 ≠ (TX1 b).2.1 := by decide +kernel
theorem tyX1_ok : ∀ k, k < 8 → parseFieldDescriptor (TX1 k).2.2.1 = some (tyX1 k) := by decide +kernel
abbrev cX0_init : ByteArray := prog_1_method_1_code
def yX0_init : MethodName := ⟨RX0, "<init>", "()V"⟩
abbrev cX0_term : ByteArray := prog_1_method_2_code
def yX0_term : MethodName := ⟨RX0, "term", "(IIJ)I"⟩
abbrev cX0_add : ByteArray := prog_1_method_3_code
def yX0_add : MethodName := ⟨RX0, "add", "(II)I"⟩
abbrev cX0_less : ByteArray := prog_1_method_4_code
def yX0_less : MethodName := ⟨RX0, "less", "(IIJ)I"⟩
abbrev cX0_times : ByteArray := prog_1_method_5_code
def yX0_times : MethodName := ⟨RX0, "times", "(II)I"⟩
abbrev cX0_derive : ByteArray := prog_1_method_6_code
def yX0_derive : MethodName := ⟨RX0, "derive", "(I)I"⟩
abbrev cX0_integrate : ByteArray := prog_1_method_7_code
def yX0_integrate : MethodName := ⟨RX0, "integrate", "(I)I"⟩
abbrev cX0_rest : ByteArray := prog_1_method_8_code
def yX0_rest : MethodName := ⟨RX0, "rest", "(II)I"⟩
abbrev cX0_at : ByteArray := prog_1_method_9_code
def yX0_at : MethodName := ⟨RX0, "at", "(III)I"⟩
abbrev cX0_terms : ByteArray := prog_1_method_10_code
def yX0_terms : MethodName := ⟨RX0, "terms", "(II)I"⟩
abbrev cX0_degree : ByteArray := prog_1_method_11_code
def yX0_degree : MethodName := ⟨RX0, "degree", "(II)I"⟩
abbrev cX0_value : ByteArray := prog_1_method_12_code
def yX0_value : MethodName := ⟨RX0, "value", "(IJJJ)I"⟩
abbrev cX0_same : ByteArray := prog_1_method_13_code
def yX0_same : MethodName := ⟨RX0, "same", "(II)Z"⟩
abbrev cX0_count : ByteArray := prog_1_method_14_code
def yX0_count : MethodName := ⟨RX0, "count", "()I"⟩
abbrev cX0_needElement : ByteArray := prog_1_method_15_code
def yX0_needElement : MethodName := ⟨RX0, "needElement", "(I)V"⟩
abbrev cX0_needRoom : ByteArray := prog_1_method_16_code
def yX0_needRoom : MethodName := ⟨RX0, "needRoom", "()V"⟩
abbrev cX0_needKind : ByteArray := prog_1_method_17_code
def yX0_needKind : MethodName := ⟨RX0, "needKind", "(I)V"⟩
abbrev cX0_needPower : ByteArray := prog_1_method_18_code
def yX0_needPower : MethodName := ⟨RX0, "needPower", "(I)V"⟩
abbrev cX0_isKind : ByteArray := prog_1_method_19_code
def yX0_isKind : MethodName := ⟨RX0, "isKind", "(I)Z"⟩
abbrev cX0_isPower : ByteArray := prog_1_method_20_code
def yX0_isPower : MethodName := ⟨RX0, "isPower", "(I)Z"⟩
abbrev cX0_reduce : ByteArray := prog_1_method_21_code
def yX0_reduce : MethodName := ⟨RX0, "reduce", "(J)I"⟩
abbrev cX0_multiply : ByteArray := prog_1_method_22_code
def yX0_multiply : MethodName := ⟨RX0, "multiply", "(II)I"⟩
abbrev cX0_power : ByteArray := prog_1_method_23_code
def yX0_power : MethodName := ⟨RX0, "power", "(II)I"⟩
abbrev cX0_inverse : ByteArray := prog_1_method_24_code
def yX0_inverse : MethodName := ⟨RX0, "inverse", "(I)I"⟩
abbrev cX0_divide : ByteArray := prog_1_method_25_code
def yX0_divide : MethodName := ⟨RX0, "divide", "(JI)I"⟩
abbrev cX0_place : ByteArray := prog_1_method_26_code
def yX0_place : MethodName := ⟨RX0, "place", "(III)I"⟩
abbrev cX0_number : ByteArray := prog_1_method_27_code
def yX0_number : MethodName := ⟨RX0, "number", "(III)I"⟩
abbrev cX0_setDraft : ByteArray := prog_1_method_28_code
def yX0_setDraft : MethodName := ⟨RX0, "setDraft", "(III)V"⟩
abbrev cX0_clearDraft : ByteArray := prog_1_method_29_code
def yX0_clearDraft : MethodName := ⟨RX0, "clearDraft", "()V"⟩
abbrev cX0_keepDraft : ByteArray := prog_1_method_30_code
def yX0_keepDraft : MethodName := ⟨RX0, "keepDraft", "()I"⟩
abbrev cX0_countTerms : ByteArray := prog_1_method_31_code
def yX0_countTerms : MethodName := ⟨RX0, "countTerms", "(III)I"⟩
abbrev cX0_draftSum : ByteArray := prog_1_method_32_code
def yX0_draftSum : MethodName := ⟨RX0, "draftSum", "(III)V"⟩
abbrev cX0_logMeetsExponential : ByteArray := prog_1_method_33_code
def yX0_logMeetsExponential : MethodName := ⟨RX0, "logMeetsExponential", "(II)Z"⟩
abbrev cX0_sumUpProduct : ByteArray := prog_1_method_34_code
def yX0_sumUpProduct : MethodName := ⟨RX0, "sumUpProduct", "(II)V"⟩
abbrev cX0_addMultiple : ByteArray := prog_1_method_35_code
def yX0_addMultiple : MethodName := ⟨RX0, "addMultiple", "(IIII)V"⟩
abbrev cX0_wideKind : ByteArray := prog_1_method_36_code
def yX0_wideKind : MethodName := ⟨RX0, "wideKind", "(II)I"⟩
abbrev cX0_widePlace : ByteArray := prog_1_method_37_code
def yX0_widePlace : MethodName := ⟨RX0, "widePlace", "(II)I"⟩
abbrev cX0_isWidePlace : ByteArray := prog_1_method_38_code
def yX0_isWidePlace : MethodName := ⟨RX0, "isWidePlace", "(II)Z"⟩
abbrev cX0_clearWide : ByteArray := prog_1_method_39_code
def yX0_clearWide : MethodName := ⟨RX0, "clearWide", "()V"⟩
abbrev cX0_addWide : ByteArray := prog_1_method_40_code
def yX0_addWide : MethodName := ⟨RX0, "addWide", "(IIJ)V"⟩
abbrev cX0_wideNumber : ByteArray := prog_1_method_41_code
def yX0_wideNumber : MethodName := ⟨RX0, "wideNumber", "(II)I"⟩
abbrev cX0_productIsTooFar : ByteArray := prog_1_method_42_code
def yX0_productIsTooFar : MethodName := ⟨RX0, "productIsTooFar", "()Z"⟩
abbrev cX0_isKnownWideKind : ByteArray := prog_1_method_43_code
def yX0_isKnownWideKind : MethodName := ⟨RX0, "isKnownWideKind", "(I)Z"⟩
abbrev cX0_draftProduct : ByteArray := prog_1_method_44_code
def yX0_draftProduct : MethodName := ⟨RX0, "draftProduct", "()V"⟩
abbrev cX0_slopeNumber : ByteArray := prog_1_method_45_code
def yX0_slopeNumber : MethodName := ⟨RX0, "slopeNumber", "(III)I"⟩
abbrev cX0_slopeIsTooFar : ByteArray := prog_1_method_46_code
def yX0_slopeIsTooFar : MethodName := ⟨RX0, "slopeIsTooFar", "(I)Z"⟩
abbrev cX0_draftSlope : ByteArray := prog_1_method_47_code
def yX0_draftSlope : MethodName := ⟨RX0, "draftSlope", "(I)V"⟩
abbrev cX0_restOf : ByteArray := prog_1_method_48_code
def yX0_restOf : MethodName := ⟨RX0, "restOf", "(II)I"⟩
abbrev cX0_hasRest : ByteArray := prog_1_method_49_code
def yX0_hasRest : MethodName := ⟨RX0, "hasRest", "(I)Z"⟩
abbrev cX0_integralIsTooFar : ByteArray := prog_1_method_50_code
def yX0_integralIsTooFar : MethodName := ⟨RX0, "integralIsTooFar", "(I)Z"⟩
abbrev cX0_draftLogIntegral : ByteArray := prog_1_method_51_code
def yX0_draftLogIntegral : MethodName := ⟨RX0, "draftLogIntegral", "(I)V"⟩
abbrev cX0_draftConstantPowerIntegral : ByteArray := prog_1_method_52_code
def yX0_draftConstantPowerIntegral : MethodName := ⟨RX0, "draftConstantPowerIntegral", "(I)V"⟩
abbrev cX0_draftExponentialIntegral : ByteArray := prog_1_method_53_code
def yX0_draftExponentialIntegral : MethodName := ⟨RX0, "draftExponentialIntegral", "(I)V"⟩
abbrev cX0_dividesByX : ByteArray := prog_1_method_54_code
def yX0_dividesByX : MethodName := ⟨RX0, "dividesByX", "(I)Z"⟩
abbrev cX0_dividesByE : ByteArray := prog_1_method_55_code
def yX0_dividesByE : MethodName := ⟨RX0, "dividesByE", "(I)Z"⟩
abbrev cX0_valueInX : ByteArray := prog_1_method_56_code
def yX0_valueInX : MethodName := ⟨RX0, "valueInX", "(IIII)I"⟩
abbrev cX1_init : ByteArray := prog_3_method_1_code
def yX1_init : MethodName := ⟨RX1, "<init>", "()V"⟩
abbrev cX1_thrown : ByteArray := prog_3_method_2_code
def yX1_thrown : MethodName := ⟨RX1, "thrown", "()I"⟩
abbrev cX1_raise : ByteArray := prog_3_method_3_code
def yX1_raise : MethodName := ⟨RX1, "raise", "(I)I"⟩
abbrev cX1_in : ByteArray := prog_3_method_4_code
def yX1_in : MethodName := ⟨RX1, "in", "(JJJ)Z"⟩
abbrev cX1_modulo : ByteArray := prog_3_method_5_code
def yX1_modulo : MethodName := ⟨RX1, "modulo", "(J)J"⟩
abbrev cX1_inverse : ByteArray := prog_3_method_6_code
def yX1_inverse : MethodName := ⟨RX1, "inverse", "(J)J"⟩
abbrev cX1_place : ByteArray := prog_3_method_7_code
def yX1_place : MethodName := ⟨RX1, "place", "(II)I"⟩
abbrev cX1_exponent : ByteArray := prog_3_method_8_code
def yX1_exponent : MethodName := ⟨RX1, "exponent", "(I)I"⟩
abbrev cX1_isThere : ByteArray := prog_3_method_9_code
def yX1_isThere : MethodName := ⟨RX1, "isThere", "(I)Z"⟩
abbrev cX1_may : ByteArray := prog_3_method_10_code
def yX1_may : MethodName := ⟨RX1, "may", "(II)Z"⟩
abbrev cX1_load : ByteArray := prog_3_method_11_code
def yX1_load : MethodName := ⟨RX1, "load", "([JI)V"⟩
abbrev cX1_keep : ByteArray := prog_3_method_12_code
def yX1_keep : MethodName := ⟨RX1, "keep", "()I"⟩
abbrev cX1_term : ByteArray := prog_3_method_13_code
def yX1_term : MethodName := ⟨RX1, "term", "(IIJ)I"⟩
abbrev cX1_add : ByteArray := prog_3_method_14_code
def yX1_add : MethodName := ⟨RX1, "add", "(II)I"⟩
abbrev cX1_less : ByteArray := prog_3_method_15_code
def yX1_less : MethodName := ⟨RX1, "less", "(IIJ)I"⟩
abbrev cX1_rowOf : ByteArray := prog_3_method_16_code
def yX1_rowOf : MethodName := ⟨RX1, "rowOf", "(I)I"⟩
abbrev cX1_start : ByteArray := prog_3_method_17_code
def yX1_start : MethodName := ⟨RX1, "start", "()V"⟩
abbrev cX1_narrow : ByteArray := prog_3_method_18_code
def yX1_narrow : MethodName := ⟨RX1, "narrow", "()I"⟩
abbrev cX1_has : ByteArray := prog_3_method_19_code
def yX1_has : MethodName := ⟨RX1, "has", "([JII)Z"⟩
abbrev cX1_times : ByteArray := prog_3_method_20_code
def yX1_times : MethodName := ⟨RX1, "times", "(II)I"⟩
abbrev cX1_derive : ByteArray := prog_3_method_21_code
def yX1_derive : MethodName := ⟨RX1, "derive", "(I)I"⟩
abbrev cX1_restOf : ByteArray := prog_3_method_22_code
def yX1_restOf : MethodName := ⟨RX1, "restOf", "(I)J"⟩
abbrev cX1_rest : ByteArray := prog_3_method_23_code
def yX1_rest : MethodName := ⟨RX1, "rest", "(II)I"⟩
abbrev cX1_integrate : ByteArray := prog_3_method_24_code
def yX1_integrate : MethodName := ⟨RX1, "integrate", "(I)I"⟩
abbrev cX1_at : ByteArray := prog_3_method_25_code
def yX1_at : MethodName := ⟨RX1, "at", "(III)I"⟩
abbrev cX1_terms : ByteArray := prog_3_method_26_code
def yX1_terms : MethodName := ⟨RX1, "terms", "(II)I"⟩
abbrev cX1_degree : ByteArray := prog_3_method_27_code
def yX1_degree : MethodName := ⟨RX1, "degree", "(II)I"⟩
abbrev cX1_power : ByteArray := prog_3_method_28_code
def yX1_power : MethodName := ⟨RX1, "power", "(JI)J"⟩
abbrev cX1_value : ByteArray := prog_3_method_29_code
def yX1_value : MethodName := ⟨RX1, "value", "(IJJJ)I"⟩
abbrev cX1_same : ByteArray := prog_3_method_30_code
def yX1_same : MethodName := ⟨RX1, "same", "(II)Z"⟩
abbrev cX1_count : ByteArray := prog_3_method_31_code
def yX1_count : MethodName := ⟨RX1, "count", "()I"⟩
abbrev cL_term : ByteArray := method_3_code
def yL_term : MethodName := ⟨RL, "term", "(LTowerIntegrals;IIJ[J)I"⟩
abbrev cL_add : ByteArray := method_4_code
def yL_add : MethodName := ⟨RL, "add", "(LTowerIntegrals;II[J)I"⟩
abbrev cL_less : ByteArray := method_5_code
def yL_less : MethodName := ⟨RL, "less", "(LTowerIntegrals;IIJ[J)I"⟩
abbrev cL_times : ByteArray := method_6_code
def yL_times : MethodName := ⟨RL, "times", "(LTowerIntegrals;II[J)I"⟩
abbrev cL_derive : ByteArray := method_7_code
def yL_derive : MethodName := ⟨RL, "derive", "(LTowerIntegrals;I[J)I"⟩
abbrev cL_integrate : ByteArray := method_8_code
def yL_integrate : MethodName := ⟨RL, "integrate", "(LTowerIntegrals;I[J)I"⟩
abbrev cL_rest : ByteArray := method_9_code
def yL_rest : MethodName := ⟨RL, "rest", "(LTowerIntegrals;II[J)I"⟩
abbrev cL_at : ByteArray := method_10_code
def yL_at : MethodName := ⟨RL, "at", "(LTowerIntegrals;III[J)I"⟩
abbrev cL_terms : ByteArray := method_11_code
def yL_terms : MethodName := ⟨RL, "terms", "(LTowerIntegrals;II[J)I"⟩
abbrev cL_degree : ByteArray := method_12_code
def yL_degree : MethodName := ⟨RL, "degree", "(LTowerIntegrals;II[J)I"⟩
abbrev cL_value : ByteArray := method_13_code
def yL_value : MethodName := ⟨RL, "value", "(LTowerIntegrals;IJJJ[J)I"⟩
abbrev cL_same : ByteArray := method_14_code
def yL_same : MethodName := ⟨RL, "same", "(LTowerIntegrals;II[J)I"⟩
abbrev cL_law : ByteArray := code
def yL_law : MethodName := ⟨RL, "law", "([I)Z"⟩
/-- the words that every contract of ours stands on: the good ones of the tables -/
def TB : List Cond := lw_tbl.filter goodWord
theorem tb_in {w : Cond} (h : w ∈ tables_1) (g : goodWord w = true) : w ∈ TB := List.mem_filter.mpr ⟨List.mem_append_right _ h, g⟩
theorem tb_in0 {w : Cond} (h : w ∈ k2_sels lw_privs) (g : goodWord w = true) : w ∈ TB := List.mem_filter.mpr ⟨List.mem_append_left _ h, g⟩
theorem tb_0 : (Cond.initialized RL) ∈ TB := tb_in (List.mem_append_left _ (List.mem_of_getElem? (i := 0) rfl)) rfl
theorem tb_1 : (Cond.initialized RX0) ∈ TB := tb_in (List.mem_append_left _ (List.mem_of_getElem? (i := 1) rfl)) rfl
theorem tb_2 : (Cond.initialized RX1) ∈ TB := tb_in (List.mem_append_left _ (List.mem_of_getElem? (i := 2) rfl)) rfl
theorem tb_3 : (Cond.initialized "java/lang/Throwable") ∈ TB := tb_in (List.mem_append_left _ (List.mem_of_getElem? (i := 3) rfl)) rfl
theorem tb_4 : (Cond.initialized "java/lang/Exception") ∈ TB := tb_in (List.mem_append_left _ (List.mem_of_getElem? (i := 4) rfl)) rfl
theorem tb_5 : (Cond.initialized "java/lang/RuntimeException") ∈ TB := tb_in (List.mem_append_left _ (List.mem_of_getElem? (i := 5) rfl)) rfl
theorem tb_6 : (Cond.initialized "java/lang/IllegalArgumentException") ∈ TB := tb_in (List.mem_append_left _ (List.mem_of_getElem? (i := 6) rfl)) rfl
theorem tb_7 : (Cond.initialized "java/lang/IllegalStateException") ∈ TB := tb_in (List.mem_append_left _ (List.mem_of_getElem? (i := 7) rfl)) rfl
theorem tb_8 : (Cond.initialized "java/lang/IndexOutOfBoundsException") ∈ TB := tb_in (List.mem_append_left _ (List.mem_of_getElem? (i := 8) rfl)) rfl
theorem tb_9 : (Cond.initialized "java/lang/Math") ∈ TB := tb_in (List.mem_append_left _ (List.mem_of_getElem? (i := 9) rfl)) rfl
theorem tb_10 : (Cond.classLink RL 8 RX0) ∈ TB := tb_in (List.mem_append_left _ (List.mem_of_getElem? (i := 10) rfl)) rfl
theorem tb_11 : (Cond.instantiable RX0 3) ∈ TB := tb_in (List.mem_append_left _ (List.mem_of_getElem? (i := 11) rfl)) rfl
theorem tb_12 : (Cond.methodLink RL 57 yX0_init) ∈ TB := tb_in (List.mem_append_left _ (List.mem_of_getElem? (i := 12) rfl)) rfl
theorem tb_13 : (Cond.instanceMethod yX0_init) ∈ TB := tb_in (List.mem_append_left _ (List.mem_of_getElem? (i := 13) rfl)) rfl
theorem tb_14 : (Cond.code yX0_init cX0_init 1 none) ∈ TB := tb_in (List.mem_append_left _ (List.mem_of_getElem? (i := 14) rfl)) rfl
theorem tb_15 : (Cond.methodLink RX0 3 (⟨"java/lang/Object", "<init>", "()V"⟩ : MethodName)) ∈ TB := tb_in (List.mem_append_left _ (List.mem_of_getElem? (i := 15) rfl)) rfl
theorem tb_16 : (Cond.instanceMethod (⟨"java/lang/Object", "<init>", "()V"⟩ : MethodName)) ∈ TB := tb_in (List.mem_append_left _ (List.mem_of_getElem? (i := 16) rfl)) rfl
theorem tb_17 : (Cond.code (⟨"java/lang/Object", "<init>", "()V"⟩ : MethodName) object_method_1_code 1 none) ∈ TB := tb_in (List.mem_append_left _ (List.mem_of_getElem? (i := 17) rfl)) rfl
theorem tb_18 : (Cond.fieldLink RX0 9 RX0 "numbers" "[I") ∈ TB := tb_in (List.mem_append_left _ (List.mem_of_getElem? (i := 18) rfl)) rfl
theorem tb_19 : (Cond.fieldLink RX0 13 RX0 "wide" "[I") ∈ TB := tb_in (List.mem_append_left _ (List.mem_of_getElem? (i := 19) rfl)) rfl
theorem tb_20 : (Cond.fieldLink RX0 16 RX0 "made" "I") ∈ TB := tb_in (List.mem_append_left _ (List.mem_of_getElem? (i := 20) rfl)) rfl
theorem tb_21 : (Cond.laysFinal RX0 RX0 "numbers" "[I") ∈ TB := tb_in (List.mem_append_left _ (List.mem_of_getElem? (i := 21) rfl)) rfl
theorem tb_22 : (Cond.soleField RX0 "numbers") ∈ TB := tb_in (List.mem_append_left _ (List.mem_of_getElem? (i := 22) rfl)) rfl
theorem tb_23 : (Cond.laysFinal RX0 RX0 "wide" "[I") ∈ TB := tb_in (List.mem_append_left _ (List.mem_of_getElem? (i := 23) rfl)) rfl
theorem tb_24 : (Cond.soleField RX0 "wide") ∈ TB := tb_in (List.mem_append_left _ (List.mem_of_getElem? (i := 24) rfl)) rfl
theorem tb_25 : (Cond.lays RX0 RX0 "made" "I") ∈ TB := tb_in (List.mem_append_left _ (List.mem_of_getElem? (i := 25) rfl)) rfl
theorem tb_26 : (Cond.soleField RX0 "made") ∈ TB := tb_in (List.mem_append_left _ (List.mem_of_getElem? (i := 26) rfl)) rfl
theorem tb_27 : (Cond.superclass RX0 "java/lang/Object") ∈ TB := tb_in (List.mem_append_left _ (List.mem_of_getElem? (i := 27) rfl)) rfl
theorem tb_28 : (Cond.arrayClass FieldType.int) ∈ TB := tb_in (List.mem_append_left _ (List.mem_of_getElem? (i := 28) rfl)) rfl
theorem tb_29 : (Cond.methodLink RL 110 yX0_count) ∈ TB := tb_in (List.mem_append_left _ (List.mem_of_getElem? (i := 29) rfl)) rfl
theorem tb_30 : (Cond.instanceMethod yX0_count) ∈ TB := tb_in (List.mem_append_left _ (List.mem_of_getElem? (i := 30) rfl)) rfl
theorem tb_31 : (Cond.selects RX0 yX0_count yX0_count) ∈ TB := tb_in (List.mem_append_left _ (List.mem_of_getElem? (i := 31) rfl)) rfl
theorem tb_32 : (Cond.code yX0_count cX0_count 1 (some FieldType.int)) ∈ TB := tb_in (List.mem_append_left _ (List.mem_of_getElem? (i := 32) rfl)) rfl
theorem tb_33 : (Cond.methodLink RL 63 yL_term) ∈ TB := tb_in (List.mem_append_left _ (List.mem_of_getElem? (i := 33) rfl)) rfl
theorem tb_34 : (Cond.static yL_term) ∈ TB := tb_in (List.mem_append_left _ (List.mem_of_getElem? (i := 34) rfl)) rfl
theorem tb_35 : (Cond.codeWith yL_term cL_term 7 (some FieldType.int) [(0, 12, 15, 13), (0, 12, 19, 15)]) ∈ TB := tb_in (List.mem_append_left _ (List.mem_of_getElem? (i := 35) rfl)) rfl
theorem tb_36 : (Cond.classLink RL 13 "java/lang/IllegalArgumentException") ∈ TB := tb_in (List.mem_append_left _ (List.mem_of_getElem? (i := 36) rfl)) rfl
theorem tb_37 : (Cond.classLink RL 15 "java/lang/IllegalStateException") ∈ TB := tb_in (List.mem_append_left _ (List.mem_of_getElem? (i := 37) rfl)) rfl
theorem tb_38 : (Cond.methodLink RL 7 yX0_term) ∈ TB := tb_in (List.mem_append_left _ (List.mem_of_getElem? (i := 38) rfl)) rfl
theorem tb_39 : (Cond.instanceMethod yX0_term) ∈ TB := tb_in (List.mem_append_left _ (List.mem_of_getElem? (i := 39) rfl)) rfl
theorem tb_40 : (Cond.selects RX0 yX0_term yX0_term) ∈ TB := tb_in (List.mem_append_left _ (List.mem_of_getElem? (i := 40) rfl)) rfl
theorem tb_41 : (Cond.code yX0_term cX0_term 5 (some FieldType.int)) ∈ TB := tb_in (List.mem_append_left _ (List.mem_of_getElem? (i := 41) rfl)) rfl
theorem tb_42 : (Cond.methodLink RX0 20 yX0_needKind) ∈ TB := tb_in (List.mem_append_left _ (List.mem_of_getElem? (i := 42) rfl)) rfl
theorem tb_43 : (Cond.static yX0_needKind) ∈ TB := tb_in (List.mem_append_left _ (List.mem_of_getElem? (i := 43) rfl)) rfl
theorem tb_44 : (Cond.code yX0_needKind cX0_needKind 1 none) ∈ TB := tb_in (List.mem_append_left _ (List.mem_of_getElem? (i := 44) rfl)) rfl
theorem tb_45 : (Cond.methodLink RX0 150 yX0_isKind) ∈ TB := tb_in (List.mem_append_left _ (List.mem_of_getElem? (i := 45) rfl)) rfl
theorem tb_46 : (Cond.static yX0_isKind) ∈ TB := tb_in (List.mem_append_left _ (List.mem_of_getElem? (i := 46) rfl)) rfl
theorem tb_47 : (Cond.code yX0_isKind cX0_isKind 1 (some FieldType.boolean)) ∈ TB := tb_in (List.mem_append_left _ (List.mem_of_getElem? (i := 47) rfl)) rfl
theorem tb_48 : (Cond.classLink RX0 153 "java/lang/IllegalArgumentException") ∈ TB := tb_in (List.mem_append_left _ (List.mem_of_getElem? (i := 48) rfl)) rfl
theorem tb_49 : (Cond.instantiable "java/lang/IllegalArgumentException" 6) ∈ TB := tb_in (List.mem_append_left _ (List.mem_of_getElem? (i := 49) rfl)) rfl
theorem tq_50 : (Cond.castable "java/lang/IllegalArgumentException" "java/lang/IllegalArgumentException") ∈ tables_1 := List.mem_append_left _ (List.mem_of_getElem? (i := 50) rfl)
theorem tq_51 : (Cond.declares (⟨"java/lang/RuntimeException", "<init>", "()V"⟩ : MethodName)) ∈ tables_1 := List.mem_append_left _ (List.mem_of_getElem? (i := 51) rfl)
theorem tq_52 : (Cond.declares (⟨"java/lang/RuntimeException", "<init>", "(Ljava/lang/String;)V"⟩ : MethodName)) ∈ tables_1 := List.mem_append_left _ (List.mem_of_getElem? (i := 52) rfl)
theorem tq_53 : (Cond.declares (⟨"java/lang/Exception", "<init>", "()V"⟩ : MethodName)) ∈ tables_1 := List.mem_append_left _ (List.mem_of_getElem? (i := 53) rfl)
theorem tq_54 : (Cond.declares (⟨"java/lang/Exception", "<init>", "(Ljava/lang/String;)V"⟩ : MethodName)) ∈ tables_1 := List.mem_append_left _ (List.mem_of_getElem? (i := 54) rfl)
theorem tq_55 : (Cond.declares (⟨"java/lang/Throwable", "<init>", "()V"⟩ : MethodName)) ∈ tables_1 := List.mem_append_left _ (List.mem_of_getElem? (i := 55) rfl)
theorem tq_56 : (Cond.declares (⟨"java/lang/Throwable", "<init>", "(Ljava/lang/String;)V"⟩ : MethodName)) ∈ tables_1 := List.mem_append_left _ (List.mem_of_getElem? (i := 56) rfl)
theorem tb_57 : (Cond.selects "java/lang/IllegalArgumentException" (⟨"java/lang/Throwable", "fillInStackTrace", "(I)Ljava/lang/Throwable;"⟩ : MethodName) (⟨"java/lang/Throwable", "fillInStackTrace", "(I)Ljava/lang/Throwable;"⟩ : MethodName)) ∈ TB := tb_in (List.mem_append_left _ (List.mem_of_getElem? (i := 57) rfl)) rfl
theorem tb_58 : (Cond.selects "java/lang/IllegalArgumentException" (⟨"java/lang/Throwable", "fillInStackTrace", "()Ljava/lang/Throwable;"⟩ : MethodName) (⟨"java/lang/Throwable", "fillInStackTrace", "()Ljava/lang/Throwable;"⟩ : MethodName)) ∈ TB := tb_in (List.mem_append_left _ (List.mem_of_getElem? (i := 58) rfl)) rfl
theorem tb_59 : (Cond.lays "java/lang/IllegalArgumentException" "java/lang/Throwable" "cause" "Ljava/lang/Throwable;") ∈ TB := tb_in (List.mem_append_left _ (List.mem_of_getElem? (i := 59) rfl)) rfl
theorem tb_60 : (Cond.lays "java/lang/Throwable" "java/lang/Throwable" "cause" "Ljava/lang/Throwable;") ∈ TB := tb_in (List.mem_append_left _ (List.mem_of_getElem? (i := 60) rfl)) rfl
theorem tb_61 : (Cond.lays "java/lang/IllegalArgumentException" "java/lang/Throwable" "stackTrace" "[Ljava/lang/StackTraceElement;") ∈ TB := tb_in (List.mem_append_left _ (List.mem_of_getElem? (i := 61) rfl)) rfl
theorem tb_62 : (Cond.lays "java/lang/Throwable" "java/lang/Throwable" "stackTrace" "[Ljava/lang/StackTraceElement;") ∈ TB := tb_in (List.mem_append_left _ (List.mem_of_getElem? (i := 62) rfl)) rfl
theorem tb_63 : (Cond.lays "java/lang/IllegalArgumentException" "java/lang/Throwable" "suppressedExceptions" "Ljava/util/List;") ∈ TB := tb_in (List.mem_append_left _ (List.mem_of_getElem? (i := 63) rfl)) rfl
theorem tb_64 : (Cond.lays "java/lang/Throwable" "java/lang/Throwable" "suppressedExceptions" "Ljava/util/List;") ∈ TB := tb_in (List.mem_append_left _ (List.mem_of_getElem? (i := 64) rfl)) rfl
theorem tb_65 : (Cond.lays "java/lang/IllegalArgumentException" "java/lang/Throwable" "detailMessage" "Ljava/lang/String;") ∈ TB := tb_in (List.mem_append_left _ (List.mem_of_getElem? (i := 65) rfl)) rfl
theorem tb_66 : (Cond.lays "java/lang/Throwable" "java/lang/Throwable" "detailMessage" "Ljava/lang/String;") ∈ TB := tb_in (List.mem_append_left _ (List.mem_of_getElem? (i := 66) rfl)) rfl
theorem tb_67 : (Cond.lays "java/lang/IllegalArgumentException" "java/lang/Throwable" "backtrace" "Ljava/lang/Object;") ∈ TB := tb_in (List.mem_append_left _ (List.mem_of_getElem? (i := 67) rfl)) rfl
theorem tb_68 : (Cond.lays "java/lang/Throwable" "java/lang/Throwable" "backtrace" "Ljava/lang/Object;") ∈ TB := tb_in (List.mem_append_left _ (List.mem_of_getElem? (i := 68) rfl)) rfl
theorem tb_69 : (Cond.fieldLink "java/lang/Throwable" 198 "java/lang/Throwable" "backtrace" "Ljava/lang/Object;") ∈ TB := tb_in (List.mem_append_left _ (List.mem_of_getElem? (i := 69) rfl)) rfl
theorem tb_70 : (Cond.superclass "java/lang/Throwable" "java/lang/Object") ∈ TB := tb_in (List.mem_append_left _ (List.mem_of_getElem? (i := 70) rfl)) rfl
theorem tb_71 : (Cond.instanceMethod (⟨"java/lang/Throwable", "<init>", "()V"⟩ : MethodName)) ∈ TB := tb_in (List.mem_append_left _ (List.mem_of_getElem? (i := 71) rfl)) rfl
theorem tb_72 : (Cond.code (⟨"java/lang/Throwable", "<init>", "()V"⟩ : MethodName) prog_11_method_1_code 1 none) ∈ TB := tb_in (List.mem_append_left _ (List.mem_of_getElem? (i := 72) rfl)) rfl
theorem tb_73 : (Cond.methodLink "java/lang/Throwable" 1 (⟨"java/lang/Object", "<init>", "()V"⟩ : MethodName)) ∈ TB := tb_in (List.mem_append_left _ (List.mem_of_getElem? (i := 73) rfl)) rfl
theorem tb_74 : (Cond.fieldLink "java/lang/Throwable" 13 "java/lang/Throwable" "UNASSIGNED_STACK" "[Ljava/lang/StackTraceElement;") ∈ TB := tb_in (List.mem_append_left _ (List.mem_of_getElem? (i := 74) rfl)) rfl
theorem tq_75 : (Cond.laysStatic "java/lang/Throwable" "UNASSIGNED_STACK" "[Ljava/lang/StackTraceElement;") ∈ tables_1 := List.mem_append_left _ (List.mem_of_getElem? (i := 75) rfl)
theorem tb_76 : (Cond.fieldLink "java/lang/Throwable" 20 "java/lang/Throwable" "SUPPRESSED_SENTINEL" "Ljava/util/List;") ∈ TB := tb_in (List.mem_append_left _ (List.mem_of_getElem? (i := 76) rfl)) rfl
theorem tq_77 : (Cond.laysStatic "java/lang/Throwable" "SUPPRESSED_SENTINEL" "Ljava/util/List;") ∈ tables_1 := List.mem_append_left _ (List.mem_of_getElem? (i := 77) rfl)
theorem tb_78 : (Cond.methodLink "java/lang/Throwable" 27 (⟨"java/lang/Throwable", "fillInStackTrace", "()Ljava/lang/Throwable;"⟩ : MethodName)) ∈ TB := tb_in (List.mem_append_left _ (List.mem_of_getElem? (i := 78) rfl)) rfl
theorem tb_79 : (Cond.instanceMethod (⟨"java/lang/Throwable", "fillInStackTrace", "()Ljava/lang/Throwable;"⟩ : MethodName)) ∈ TB := tb_in (List.mem_append_left _ (List.mem_of_getElem? (i := 79) rfl)) rfl
theorem tq_80 : (Cond.sameMethod "java/lang/Throwable" "java/lang/Throwable" "fillInStackTrace" "()Ljava/lang/Throwable;") ∈ tables_1 := List.mem_append_left _ (List.mem_of_getElem? (i := 80) rfl)
theorem tb_81 : (Cond.selects "java/lang/IllegalStateException" (⟨"java/lang/Throwable", "fillInStackTrace", "()Ljava/lang/Throwable;"⟩ : MethodName) (⟨"java/lang/Throwable", "fillInStackTrace", "()Ljava/lang/Throwable;"⟩ : MethodName)) ∈ TB := tb_in (List.mem_append_left _ (List.mem_of_getElem? (i := 81) rfl)) rfl
theorem tb_82 : (Cond.selects "java/lang/IndexOutOfBoundsException" (⟨"java/lang/Throwable", "fillInStackTrace", "()Ljava/lang/Throwable;"⟩ : MethodName) (⟨"java/lang/Throwable", "fillInStackTrace", "()Ljava/lang/Throwable;"⟩ : MethodName)) ∈ TB := tb_in (List.mem_append_left _ (List.mem_of_getElem? (i := 82) rfl)) rfl
theorem tq_83 : (Cond.codeSync (⟨"java/lang/Throwable", "fillInStackTrace", "()Ljava/lang/Throwable;"⟩ : MethodName) prog_11_method_18_code 1 (some (FieldType.object "java/lang/Throwable"))) ∈ tables_1 := List.mem_append_left _ (List.mem_of_getElem? (i := 83) rfl)
theorem tb_84 : (Cond.methodLink "java/lang/Throwable" 202 (⟨"java/lang/Throwable", "fillInStackTrace", "(I)Ljava/lang/Throwable;"⟩ : MethodName)) ∈ TB := tb_in (List.mem_append_left _ (List.mem_of_getElem? (i := 84) rfl)) rfl
theorem tq_85 : (Cond.privateMethod (⟨"java/lang/Throwable", "fillInStackTrace", "(I)Ljava/lang/Throwable;"⟩ : MethodName)) ∈ tables_1 := List.mem_append_left _ (List.mem_of_getElem? (i := 85) rfl)
theorem tb_86 : (Cond.instanceMethod (⟨"java/lang/Throwable", "fillInStackTrace", "(I)Ljava/lang/Throwable;"⟩ : MethodName)) ∈ TB := tb_in (List.mem_append_left _ (List.mem_of_getElem? (i := 86) rfl)) rfl
theorem tb_87 : (Cond.instantiable "java/lang/Throwable" 6) ∈ TB := tb_in (List.mem_append_left _ (List.mem_of_getElem? (i := 87) rfl)) rfl
theorem tq_88 : (Cond.native (⟨"java/lang/Throwable", "fillInStackTrace", "(I)Ljava/lang/Throwable;"⟩ : MethodName)) ∈ tables_1 := List.mem_append_left _ (List.mem_of_getElem? (i := 88) rfl)
theorem tq_89 : (Cond.stringRef RX0 155 "no such kind") ∈ tables_1 := List.mem_append_left _ (List.mem_of_getElem? (i := 89) rfl)
theorem tb_90 : (Cond.methodLink RX0 157 (⟨"java/lang/IllegalArgumentException", "<init>", "(Ljava/lang/String;)V"⟩ : MethodName)) ∈ TB := tb_in (List.mem_append_left _ (List.mem_of_getElem? (i := 90) rfl)) rfl
theorem tb_91 : (Cond.instanceMethod (⟨"java/lang/IllegalArgumentException", "<init>", "(Ljava/lang/String;)V"⟩ : MethodName)) ∈ TB := tb_in (List.mem_append_left _ (List.mem_of_getElem? (i := 91) rfl)) rfl
theorem tb_92 : (Cond.code (⟨"java/lang/IllegalArgumentException", "<init>", "(Ljava/lang/String;)V"⟩ : MethodName) prog_5_method_2_code 2 none) ∈ TB := tb_in (List.mem_append_left _ (List.mem_of_getElem? (i := 92) rfl)) rfl
theorem tb_93 : (Cond.methodLink "java/lang/IllegalArgumentException" 7 (⟨"java/lang/RuntimeException", "<init>", "(Ljava/lang/String;)V"⟩ : MethodName)) ∈ TB := tb_in (List.mem_append_left _ (List.mem_of_getElem? (i := 93) rfl)) rfl
theorem tb_94 : (Cond.instanceMethod (⟨"java/lang/RuntimeException", "<init>", "(Ljava/lang/String;)V"⟩ : MethodName)) ∈ TB := tb_in (List.mem_append_left _ (List.mem_of_getElem? (i := 94) rfl)) rfl
theorem tb_95 : (Cond.code (⟨"java/lang/RuntimeException", "<init>", "(Ljava/lang/String;)V"⟩ : MethodName) prog_9_method_2_code 2 none) ∈ TB := tb_in (List.mem_append_left _ (List.mem_of_getElem? (i := 95) rfl)) rfl
theorem tb_96 : (Cond.methodLink "java/lang/RuntimeException" 7 (⟨"java/lang/Exception", "<init>", "(Ljava/lang/String;)V"⟩ : MethodName)) ∈ TB := tb_in (List.mem_append_left _ (List.mem_of_getElem? (i := 96) rfl)) rfl
theorem tb_97 : (Cond.instanceMethod (⟨"java/lang/Exception", "<init>", "(Ljava/lang/String;)V"⟩ : MethodName)) ∈ TB := tb_in (List.mem_append_left _ (List.mem_of_getElem? (i := 97) rfl)) rfl
theorem tb_98 : (Cond.code (⟨"java/lang/Exception", "<init>", "(Ljava/lang/String;)V"⟩ : MethodName) prog_4_method_2_code 2 none) ∈ TB := tb_in (List.mem_append_left _ (List.mem_of_getElem? (i := 98) rfl)) rfl
theorem tb_99 : (Cond.methodLink "java/lang/Exception" 7 (⟨"java/lang/Throwable", "<init>", "(Ljava/lang/String;)V"⟩ : MethodName)) ∈ TB := tb_in (List.mem_append_left _ (List.mem_of_getElem? (i := 99) rfl)) rfl
theorem tb_100 : (Cond.instanceMethod (⟨"java/lang/Throwable", "<init>", "(Ljava/lang/String;)V"⟩ : MethodName)) ∈ TB := tb_in (List.mem_append_left _ (List.mem_of_getElem? (i := 100) rfl)) rfl
theorem tb_101 : (Cond.code (⟨"java/lang/Throwable", "<init>", "(Ljava/lang/String;)V"⟩ : MethodName) prog_11_method_2_code 2 none) ∈ TB := tb_in (List.mem_append_left _ (List.mem_of_getElem? (i := 101) rfl)) rfl
theorem tb_103 : (Cond.fieldLink "java/lang/Throwable" 31 "java/lang/Throwable" "detailMessage" "Ljava/lang/String;") ∈ TB := tb_in (List.mem_append_left _ (List.mem_of_getElem? (i := 103) rfl)) rfl
theorem tb_104 : (Cond.fieldLink "java/lang/Throwable" 7 "java/lang/Throwable" "cause" "Ljava/lang/Throwable;") ∈ TB := tb_in (List.mem_append_left _ (List.mem_of_getElem? (i := 104) rfl)) rfl
theorem tb_105 : (Cond.fieldLink "java/lang/Throwable" 17 "java/lang/Throwable" "stackTrace" "[Ljava/lang/StackTraceElement;") ∈ TB := tb_in (List.mem_append_left _ (List.mem_of_getElem? (i := 105) rfl)) rfl
theorem tb_106 : (Cond.fieldLink "java/lang/Throwable" 24 "java/lang/Throwable" "suppressedExceptions" "Ljava/util/List;") ∈ TB := tb_in (List.mem_append_left _ (List.mem_of_getElem? (i := 106) rfl)) rfl
theorem tb_107 : (Cond.soleField "java/lang/Throwable" "backtrace") ∈ TB := tb_in (List.mem_append_left _ (List.mem_of_getElem? (i := 107) rfl)) rfl
theorem tb_108 : (Cond.soleField "java/lang/Throwable" "detailMessage") ∈ TB := tb_in (List.mem_append_left _ (List.mem_of_getElem? (i := 108) rfl)) rfl
theorem tb_109 : (Cond.soleField "java/lang/Throwable" "cause") ∈ TB := tb_in (List.mem_append_left _ (List.mem_of_getElem? (i := 109) rfl)) rfl
theorem tb_110 : (Cond.soleField "java/lang/Throwable" "stackTrace") ∈ TB := tb_in (List.mem_append_left _ (List.mem_of_getElem? (i := 110) rfl)) rfl
theorem tb_111 : (Cond.lays "java/lang/IllegalArgumentException" "java/lang/Throwable" "depth" "I") ∈ TB := tb_in (List.mem_append_left _ (List.mem_of_getElem? (i := 111) rfl)) rfl
theorem tb_112 : (Cond.soleField "java/lang/Throwable" "depth") ∈ TB := tb_in (List.mem_append_left _ (List.mem_of_getElem? (i := 112) rfl)) rfl
theorem tb_113 : (Cond.soleField "java/lang/Throwable" "suppressedExceptions") ∈ TB := tb_in (List.mem_append_left _ (List.mem_of_getElem? (i := 113) rfl)) rfl
theorem tb_114 : (Cond.superclass "java/lang/IllegalArgumentException" "java/lang/RuntimeException") ∈ TB := tb_in (List.mem_append_left _ (List.mem_of_getElem? (i := 114) rfl)) rfl
theorem tb_115 : (Cond.arrayClass FieldType.byte) ∈ TB := tb_in (List.mem_append_left _ (List.mem_of_getElem? (i := 115) rfl)) rfl
theorem tb_116 : (Cond.methodLink RX0 24 yX0_needPower) ∈ TB := tb_in (List.mem_append_left _ (List.mem_of_getElem? (i := 116) rfl)) rfl
theorem tb_117 : (Cond.static yX0_needPower) ∈ TB := tb_in (List.mem_append_left _ (List.mem_of_getElem? (i := 117) rfl)) rfl
theorem tb_118 : (Cond.code yX0_needPower cX0_needPower 1 none) ∈ TB := tb_in (List.mem_append_left _ (List.mem_of_getElem? (i := 118) rfl)) rfl
theorem tb_119 : (Cond.methodLink RX0 158 yX0_isPower) ∈ TB := tb_in (List.mem_append_left _ (List.mem_of_getElem? (i := 119) rfl)) rfl
theorem tb_120 : (Cond.static yX0_isPower) ∈ TB := tb_in (List.mem_append_left _ (List.mem_of_getElem? (i := 120) rfl)) rfl
theorem tb_121 : (Cond.code yX0_isPower cX0_isPower 1 (some FieldType.boolean)) ∈ TB := tb_in (List.mem_append_left _ (List.mem_of_getElem? (i := 121) rfl)) rfl
theorem tq_122 : (Cond.stringRef RX0 161 "no such n") ∈ tables_1 := List.mem_append_left _ (List.mem_of_getElem? (i := 122) rfl)
theorem tb_123 : (Cond.methodLink RX0 27 yX0_needRoom) ∈ TB := tb_in (List.mem_append_left _ (List.mem_of_getElem? (i := 123) rfl)) rfl
theorem tq_124 : (Cond.privateMethod yX0_needRoom) ∈ tables_1 := List.mem_append_left _ (List.mem_of_getElem? (i := 124) rfl)
theorem tb_125 : (Cond.instanceMethod yX0_needRoom) ∈ TB := tb_in (List.mem_append_left _ (List.mem_of_getElem? (i := 125) rfl)) rfl
theorem tb_126 : (Cond.code yX0_needRoom cX0_needRoom 1 none) ∈ TB := tb_in (List.mem_append_left _ (List.mem_of_getElem? (i := 126) rfl)) rfl
theorem tb_127 : (Cond.classLink RX0 55 "java/lang/IllegalStateException") ∈ TB := tb_in (List.mem_append_left _ (List.mem_of_getElem? (i := 127) rfl)) rfl
theorem tb_128 : (Cond.instantiable "java/lang/IllegalStateException" 6) ∈ TB := tb_in (List.mem_append_left _ (List.mem_of_getElem? (i := 128) rfl)) rfl
theorem tq_129 : (Cond.castable "java/lang/IllegalStateException" "java/lang/IllegalStateException") ∈ tables_1 := List.mem_append_left _ (List.mem_of_getElem? (i := 129) rfl)
theorem tb_130 : (Cond.selects "java/lang/IllegalStateException" (⟨"java/lang/Throwable", "fillInStackTrace", "(I)Ljava/lang/Throwable;"⟩ : MethodName) (⟨"java/lang/Throwable", "fillInStackTrace", "(I)Ljava/lang/Throwable;"⟩ : MethodName)) ∈ TB := tb_in (List.mem_append_left _ (List.mem_of_getElem? (i := 130) rfl)) rfl
theorem tb_131 : (Cond.lays "java/lang/IllegalStateException" "java/lang/Throwable" "cause" "Ljava/lang/Throwable;") ∈ TB := tb_in (List.mem_append_left _ (List.mem_of_getElem? (i := 131) rfl)) rfl
theorem tb_132 : (Cond.lays "java/lang/IllegalStateException" "java/lang/Throwable" "stackTrace" "[Ljava/lang/StackTraceElement;") ∈ TB := tb_in (List.mem_append_left _ (List.mem_of_getElem? (i := 132) rfl)) rfl
theorem tb_133 : (Cond.lays "java/lang/IllegalStateException" "java/lang/Throwable" "suppressedExceptions" "Ljava/util/List;") ∈ TB := tb_in (List.mem_append_left _ (List.mem_of_getElem? (i := 133) rfl)) rfl
theorem tb_134 : (Cond.lays "java/lang/IllegalStateException" "java/lang/Throwable" "detailMessage" "Ljava/lang/String;") ∈ TB := tb_in (List.mem_append_left _ (List.mem_of_getElem? (i := 134) rfl)) rfl
theorem tb_135 : (Cond.lays "java/lang/IllegalStateException" "java/lang/Throwable" "backtrace" "Ljava/lang/Object;") ∈ TB := tb_in (List.mem_append_left _ (List.mem_of_getElem? (i := 135) rfl)) rfl
theorem tq_136 : (Cond.stringRef RX0 148 "60 elements are there") ∈ tables_1 := List.mem_append_left _ (List.mem_of_getElem? (i := 136) rfl)
theorem tb_137 : (Cond.methodLink RX0 59 (⟨"java/lang/IllegalStateException", "<init>", "(Ljava/lang/String;)V"⟩ : MethodName)) ∈ TB := tb_in (List.mem_append_left _ (List.mem_of_getElem? (i := 137) rfl)) rfl
theorem tb_138 : (Cond.instanceMethod (⟨"java/lang/IllegalStateException", "<init>", "(Ljava/lang/String;)V"⟩ : MethodName)) ∈ TB := tb_in (List.mem_append_left _ (List.mem_of_getElem? (i := 138) rfl)) rfl
theorem tb_139 : (Cond.code (⟨"java/lang/IllegalStateException", "<init>", "(Ljava/lang/String;)V"⟩ : MethodName) prog_6_method_2_code 2 none) ∈ TB := tb_in (List.mem_append_left _ (List.mem_of_getElem? (i := 139) rfl)) rfl
theorem tb_140 : (Cond.methodLink "java/lang/IllegalStateException" 7 (⟨"java/lang/RuntimeException", "<init>", "(Ljava/lang/String;)V"⟩ : MethodName)) ∈ TB := tb_in (List.mem_append_left _ (List.mem_of_getElem? (i := 140) rfl)) rfl
theorem tb_141 : (Cond.lays "java/lang/IllegalStateException" "java/lang/Throwable" "depth" "I") ∈ TB := tb_in (List.mem_append_left _ (List.mem_of_getElem? (i := 141) rfl)) rfl
theorem tb_142 : (Cond.superclass "java/lang/IllegalStateException" "java/lang/RuntimeException") ∈ TB := tb_in (List.mem_append_left _ (List.mem_of_getElem? (i := 142) rfl)) rfl
theorem tb_143 : (Cond.methodLink RX0 30 yX0_clearDraft) ∈ TB := tb_in (List.mem_append_left _ (List.mem_of_getElem? (i := 143) rfl)) rfl
theorem tq_144 : (Cond.privateMethod yX0_clearDraft) ∈ tables_1 := List.mem_append_left _ (List.mem_of_getElem? (i := 144) rfl)
theorem tb_145 : (Cond.instanceMethod yX0_clearDraft) ∈ TB := tb_in (List.mem_append_left _ (List.mem_of_getElem? (i := 145) rfl)) rfl
theorem tb_146 : (Cond.code yX0_clearDraft cX0_clearDraft 3 none) ∈ TB := tb_in (List.mem_append_left _ (List.mem_of_getElem? (i := 146) rfl)) rfl
theorem tb_147 : (Cond.methodLink RX0 37 yX0_setDraft) ∈ TB := tb_in (List.mem_append_left _ (List.mem_of_getElem? (i := 147) rfl)) rfl
theorem tq_148 : (Cond.privateMethod yX0_setDraft) ∈ tables_1 := List.mem_append_left _ (List.mem_of_getElem? (i := 148) rfl)
theorem tb_149 : (Cond.instanceMethod yX0_setDraft) ∈ TB := tb_in (List.mem_append_left _ (List.mem_of_getElem? (i := 149) rfl)) rfl
theorem tb_150 : (Cond.code yX0_setDraft cX0_setDraft 4 none) ∈ TB := tb_in (List.mem_append_left _ (List.mem_of_getElem? (i := 150) rfl)) rfl
theorem tb_151 : (Cond.methodLink RX0 165 yX0_place) ∈ TB := tb_in (List.mem_append_left _ (List.mem_of_getElem? (i := 151) rfl)) rfl
theorem tb_152 : (Cond.static yX0_place) ∈ TB := tb_in (List.mem_append_left _ (List.mem_of_getElem? (i := 152) rfl)) rfl
theorem tb_153 : (Cond.code yX0_place cX0_place 3 (some FieldType.int)) ∈ TB := tb_in (List.mem_append_left _ (List.mem_of_getElem? (i := 153) rfl)) rfl
theorem tb_154 : (Cond.methodLink RX0 33 yX0_reduce) ∈ TB := tb_in (List.mem_append_left _ (List.mem_of_getElem? (i := 154) rfl)) rfl
theorem tb_155 : (Cond.static yX0_reduce) ∈ TB := tb_in (List.mem_append_left _ (List.mem_of_getElem? (i := 155) rfl)) rfl
theorem tb_156 : (Cond.code yX0_reduce cX0_reduce 4 (some FieldType.int)) ∈ TB := tb_in (List.mem_append_left _ (List.mem_of_getElem? (i := 156) rfl)) rfl
theorem tb_157 : (Cond.constantLong RX0 163 (32003 : Int64)) ∈ TB := tb_in (List.mem_append_left _ (List.mem_of_getElem? (i := 157) rfl)) rfl
theorem tb_158 : (Cond.methodLink RX0 41 yX0_keepDraft) ∈ TB := tb_in (List.mem_append_left _ (List.mem_of_getElem? (i := 158) rfl)) rfl
theorem tq_159 : (Cond.privateMethod yX0_keepDraft) ∈ tables_1 := List.mem_append_left _ (List.mem_of_getElem? (i := 159) rfl)
theorem tb_160 : (Cond.instanceMethod yX0_keepDraft) ∈ TB := tb_in (List.mem_append_left _ (List.mem_of_getElem? (i := 160) rfl)) rfl
theorem tb_161 : (Cond.code yX0_keepDraft cX0_keepDraft 2 (some FieldType.int)) ∈ TB := tb_in (List.mem_append_left _ (List.mem_of_getElem? (i := 161) rfl)) rfl
theorem tb_162 : (Cond.methodLink RL 73 yL_add) ∈ TB := tb_in (List.mem_append_left _ (List.mem_of_getElem? (i := 162) rfl)) rfl
theorem tb_163 : (Cond.static yL_add) ∈ TB := tb_in (List.mem_append_left _ (List.mem_of_getElem? (i := 163) rfl)) rfl
theorem tb_164 : (Cond.codeWith yL_add cL_add 5 (some FieldType.int) [(0, 10, 13, 21), (0, 10, 17, 15)]) ∈ TB := tb_in (List.mem_append_left _ (List.mem_of_getElem? (i := 164) rfl)) rfl
theorem tb_165 : (Cond.classLink RL 21 "java/lang/IndexOutOfBoundsException") ∈ TB := tb_in (List.mem_append_left _ (List.mem_of_getElem? (i := 165) rfl)) rfl
theorem tb_166 : (Cond.methodLink RL 17 yX0_add) ∈ TB := tb_in (List.mem_append_left _ (List.mem_of_getElem? (i := 166) rfl)) rfl
theorem tb_167 : (Cond.instanceMethod yX0_add) ∈ TB := tb_in (List.mem_append_left _ (List.mem_of_getElem? (i := 167) rfl)) rfl
theorem tb_168 : (Cond.selects RX0 yX0_add yX0_add) ∈ TB := tb_in (List.mem_append_left _ (List.mem_of_getElem? (i := 168) rfl)) rfl
theorem tb_169 : (Cond.code yX0_add cX0_add 3 (some FieldType.int)) ∈ TB := tb_in (List.mem_append_left _ (List.mem_of_getElem? (i := 169) rfl)) rfl
theorem tb_170 : (Cond.methodLink RX0 45 yX0_needElement) ∈ TB := tb_in (List.mem_append_left _ (List.mem_of_getElem? (i := 170) rfl)) rfl
theorem tq_171 : (Cond.privateMethod yX0_needElement) ∈ tables_1 := List.mem_append_left _ (List.mem_of_getElem? (i := 171) rfl)
theorem tb_172 : (Cond.instanceMethod yX0_needElement) ∈ TB := tb_in (List.mem_append_left _ (List.mem_of_getElem? (i := 172) rfl)) rfl
theorem tb_173 : (Cond.code yX0_needElement cX0_needElement 2 none) ∈ TB := tb_in (List.mem_append_left _ (List.mem_of_getElem? (i := 173) rfl)) rfl
theorem tb_174 : (Cond.classLink RX0 143 "java/lang/IndexOutOfBoundsException") ∈ TB := tb_in (List.mem_append_left _ (List.mem_of_getElem? (i := 174) rfl)) rfl
theorem tb_175 : (Cond.instantiable "java/lang/IndexOutOfBoundsException" 6) ∈ TB := tb_in (List.mem_append_left _ (List.mem_of_getElem? (i := 175) rfl)) rfl
theorem tq_176 : (Cond.castable "java/lang/IndexOutOfBoundsException" "java/lang/IndexOutOfBoundsException") ∈ tables_1 := List.mem_append_left _ (List.mem_of_getElem? (i := 176) rfl)
theorem tb_177 : (Cond.selects "java/lang/IndexOutOfBoundsException" (⟨"java/lang/Throwable", "fillInStackTrace", "(I)Ljava/lang/Throwable;"⟩ : MethodName) (⟨"java/lang/Throwable", "fillInStackTrace", "(I)Ljava/lang/Throwable;"⟩ : MethodName)) ∈ TB := tb_in (List.mem_append_left _ (List.mem_of_getElem? (i := 177) rfl)) rfl
theorem tb_178 : (Cond.lays "java/lang/IndexOutOfBoundsException" "java/lang/Throwable" "cause" "Ljava/lang/Throwable;") ∈ TB := tb_in (List.mem_append_left _ (List.mem_of_getElem? (i := 178) rfl)) rfl
theorem tb_179 : (Cond.lays "java/lang/IndexOutOfBoundsException" "java/lang/Throwable" "stackTrace" "[Ljava/lang/StackTraceElement;") ∈ TB := tb_in (List.mem_append_left _ (List.mem_of_getElem? (i := 179) rfl)) rfl
theorem tb_180 : (Cond.lays "java/lang/IndexOutOfBoundsException" "java/lang/Throwable" "suppressedExceptions" "Ljava/util/List;") ∈ TB := tb_in (List.mem_append_left _ (List.mem_of_getElem? (i := 180) rfl)) rfl
theorem tb_181 : (Cond.lays "java/lang/IndexOutOfBoundsException" "java/lang/Throwable" "detailMessage" "Ljava/lang/String;") ∈ TB := tb_in (List.mem_append_left _ (List.mem_of_getElem? (i := 181) rfl)) rfl
theorem tb_182 : (Cond.lays "java/lang/IndexOutOfBoundsException" "java/lang/Throwable" "backtrace" "Ljava/lang/Object;") ∈ TB := tb_in (List.mem_append_left _ (List.mem_of_getElem? (i := 182) rfl)) rfl
theorem tq_183 : (Cond.stringRef RX0 145 "no such element") ∈ tables_1 := List.mem_append_left _ (List.mem_of_getElem? (i := 183) rfl)
theorem tb_184 : (Cond.methodLink RX0 147 (⟨"java/lang/IndexOutOfBoundsException", "<init>", "(Ljava/lang/String;)V"⟩ : MethodName)) ∈ TB := tb_in (List.mem_append_left _ (List.mem_of_getElem? (i := 184) rfl)) rfl
theorem tb_185 : (Cond.instanceMethod (⟨"java/lang/IndexOutOfBoundsException", "<init>", "(Ljava/lang/String;)V"⟩ : MethodName)) ∈ TB := tb_in (List.mem_append_left _ (List.mem_of_getElem? (i := 185) rfl)) rfl
theorem tb_186 : (Cond.code (⟨"java/lang/IndexOutOfBoundsException", "<init>", "(Ljava/lang/String;)V"⟩ : MethodName) prog_7_method_2_code 2 none) ∈ TB := tb_in (List.mem_append_left _ (List.mem_of_getElem? (i := 186) rfl)) rfl
theorem tb_187 : (Cond.methodLink "java/lang/IndexOutOfBoundsException" 7 (⟨"java/lang/RuntimeException", "<init>", "(Ljava/lang/String;)V"⟩ : MethodName)) ∈ TB := tb_in (List.mem_append_left _ (List.mem_of_getElem? (i := 187) rfl)) rfl
theorem tb_188 : (Cond.lays "java/lang/IndexOutOfBoundsException" "java/lang/Throwable" "depth" "I") ∈ TB := tb_in (List.mem_append_left _ (List.mem_of_getElem? (i := 188) rfl)) rfl
theorem tb_189 : (Cond.superclass "java/lang/IndexOutOfBoundsException" "java/lang/RuntimeException") ∈ TB := tb_in (List.mem_append_left _ (List.mem_of_getElem? (i := 189) rfl)) rfl
theorem tb_190 : (Cond.methodLink RX0 48 yX0_draftSum) ∈ TB := tb_in (List.mem_append_left _ (List.mem_of_getElem? (i := 190) rfl)) rfl
theorem tq_191 : (Cond.privateMethod yX0_draftSum) ∈ tables_1 := List.mem_append_left _ (List.mem_of_getElem? (i := 191) rfl)
theorem tb_192 : (Cond.instanceMethod yX0_draftSum) ∈ TB := tb_in (List.mem_append_left _ (List.mem_of_getElem? (i := 192) rfl)) rfl
theorem tb_193 : (Cond.code yX0_draftSum cX0_draftSum 6 none) ∈ TB := tb_in (List.mem_append_left _ (List.mem_of_getElem? (i := 193) rfl)) rfl
theorem tb_194 : (Cond.methodLink RX0 105 yX0_number) ∈ TB := tb_in (List.mem_append_left _ (List.mem_of_getElem? (i := 194) rfl)) rfl
theorem tq_195 : (Cond.privateMethod yX0_number) ∈ tables_1 := List.mem_append_left _ (List.mem_of_getElem? (i := 195) rfl)
theorem tb_196 : (Cond.instanceMethod yX0_number) ∈ TB := tb_in (List.mem_append_left _ (List.mem_of_getElem? (i := 196) rfl)) rfl
theorem tb_197 : (Cond.code yX0_number cX0_number 4 (some FieldType.int)) ∈ TB := tb_in (List.mem_append_left _ (List.mem_of_getElem? (i := 197) rfl)) rfl
theorem tb_198 : (Cond.methodLink RL 77 yL_less) ∈ TB := tb_in (List.mem_append_left _ (List.mem_of_getElem? (i := 198) rfl)) rfl
theorem tb_199 : (Cond.static yL_less) ∈ TB := tb_in (List.mem_append_left _ (List.mem_of_getElem? (i := 199) rfl)) rfl
theorem tb_200 : (Cond.codeWith yL_less cL_less 7 (some FieldType.int) [(0, 12, 15, 21), (0, 12, 19, 15)]) ∈ TB := tb_in (List.mem_append_left _ (List.mem_of_getElem? (i := 200) rfl)) rfl
theorem tb_201 : (Cond.methodLink RL 23 yX0_less) ∈ TB := tb_in (List.mem_append_left _ (List.mem_of_getElem? (i := 201) rfl)) rfl
theorem tb_202 : (Cond.instanceMethod yX0_less) ∈ TB := tb_in (List.mem_append_left _ (List.mem_of_getElem? (i := 202) rfl)) rfl
theorem tb_203 : (Cond.selects RX0 yX0_less yX0_less) ∈ TB := tb_in (List.mem_append_left _ (List.mem_of_getElem? (i := 203) rfl)) rfl
theorem tb_204 : (Cond.code yX0_less cX0_less 5 (some FieldType.int)) ∈ TB := tb_in (List.mem_append_left _ (List.mem_of_getElem? (i := 204) rfl)) rfl
theorem tb_205 : (Cond.methodLink RL 80 yL_times) ∈ TB := tb_in (List.mem_append_left _ (List.mem_of_getElem? (i := 205) rfl)) rfl
theorem tb_206 : (Cond.static yL_times) ∈ TB := tb_in (List.mem_append_left _ (List.mem_of_getElem? (i := 206) rfl)) rfl
theorem tb_207 : (Cond.codeWith yL_times cL_times 5 (some FieldType.int) [(0, 10, 13, 21), (0, 10, 17, 15)]) ∈ TB := tb_in (List.mem_append_left _ (List.mem_of_getElem? (i := 207) rfl)) rfl
theorem tb_208 : (Cond.methodLink RL 26 yX0_times) ∈ TB := tb_in (List.mem_append_left _ (List.mem_of_getElem? (i := 208) rfl)) rfl
theorem tb_209 : (Cond.instanceMethod yX0_times) ∈ TB := tb_in (List.mem_append_left _ (List.mem_of_getElem? (i := 209) rfl)) rfl
theorem tb_210 : (Cond.selects RX0 yX0_times yX0_times) ∈ TB := tb_in (List.mem_append_left _ (List.mem_of_getElem? (i := 210) rfl)) rfl
theorem tb_211 : (Cond.code yX0_times cX0_times 3 (some FieldType.int)) ∈ TB := tb_in (List.mem_append_left _ (List.mem_of_getElem? (i := 211) rfl)) rfl
theorem tb_212 : (Cond.methodLink RX0 51 yX0_logMeetsExponential) ∈ TB := tb_in (List.mem_append_left _ (List.mem_of_getElem? (i := 212) rfl)) rfl
theorem tq_213 : (Cond.privateMethod yX0_logMeetsExponential) ∈ tables_1 := List.mem_append_left _ (List.mem_of_getElem? (i := 213) rfl)
theorem tb_214 : (Cond.instanceMethod yX0_logMeetsExponential) ∈ TB := tb_in (List.mem_append_left _ (List.mem_of_getElem? (i := 214) rfl)) rfl
theorem tb_215 : (Cond.code yX0_logMeetsExponential cX0_logMeetsExponential 3 (some FieldType.boolean)) ∈ TB := tb_in (List.mem_append_left _ (List.mem_of_getElem? (i := 215) rfl)) rfl
theorem tb_216 : (Cond.methodLink RX0 109 yX0_countTerms) ∈ TB := tb_in (List.mem_append_left _ (List.mem_of_getElem? (i := 216) rfl)) rfl
theorem tq_217 : (Cond.privateMethod yX0_countTerms) ∈ tables_1 := List.mem_append_left _ (List.mem_of_getElem? (i := 217) rfl)
theorem tb_218 : (Cond.instanceMethod yX0_countTerms) ∈ TB := tb_in (List.mem_append_left _ (List.mem_of_getElem? (i := 218) rfl)) rfl
theorem tb_219 : (Cond.code yX0_countTerms cX0_countTerms 7 (some FieldType.int)) ∈ TB := tb_in (List.mem_append_left _ (List.mem_of_getElem? (i := 219) rfl)) rfl
theorem tq_220 : (Cond.stringRef RX0 57 "a product of L and E") ∈ tables_1 := List.mem_append_left _ (List.mem_of_getElem? (i := 220) rfl)
theorem tb_221 : (Cond.methodLink RX0 62 yX0_sumUpProduct) ∈ TB := tb_in (List.mem_append_left _ (List.mem_of_getElem? (i := 221) rfl)) rfl
theorem tq_222 : (Cond.privateMethod yX0_sumUpProduct) ∈ tables_1 := List.mem_append_left _ (List.mem_of_getElem? (i := 222) rfl)
theorem tb_223 : (Cond.instanceMethod yX0_sumUpProduct) ∈ TB := tb_in (List.mem_append_left _ (List.mem_of_getElem? (i := 223) rfl)) rfl
theorem tb_224 : (Cond.code yX0_sumUpProduct cX0_sumUpProduct 6 none) ∈ TB := tb_in (List.mem_append_left _ (List.mem_of_getElem? (i := 224) rfl)) rfl
theorem tb_225 : (Cond.methodLink RX0 168 yX0_clearWide) ∈ TB := tb_in (List.mem_append_left _ (List.mem_of_getElem? (i := 225) rfl)) rfl
theorem tq_226 : (Cond.privateMethod yX0_clearWide) ∈ tables_1 := List.mem_append_left _ (List.mem_of_getElem? (i := 226) rfl)
theorem tb_227 : (Cond.instanceMethod yX0_clearWide) ∈ TB := tb_in (List.mem_append_left _ (List.mem_of_getElem? (i := 227) rfl)) rfl
theorem tb_228 : (Cond.code yX0_clearWide cX0_clearWide 2 none) ∈ TB := tb_in (List.mem_append_left _ (List.mem_of_getElem? (i := 228) rfl)) rfl
theorem tb_229 : (Cond.methodLink RX0 171 yX0_addMultiple) ∈ TB := tb_in (List.mem_append_left _ (List.mem_of_getElem? (i := 229) rfl)) rfl
theorem tq_230 : (Cond.privateMethod yX0_addMultiple) ∈ tables_1 := List.mem_append_left _ (List.mem_of_getElem? (i := 230) rfl)
theorem tb_231 : (Cond.instanceMethod yX0_addMultiple) ∈ TB := tb_in (List.mem_append_left _ (List.mem_of_getElem? (i := 231) rfl)) rfl
theorem tb_232 : (Cond.code yX0_addMultiple cX0_addMultiple 8 none) ∈ TB := tb_in (List.mem_append_left _ (List.mem_of_getElem? (i := 232) rfl)) rfl
theorem tb_233 : (Cond.methodLink RX0 175 yX0_wideKind) ∈ TB := tb_in (List.mem_append_left _ (List.mem_of_getElem? (i := 233) rfl)) rfl
theorem tb_234 : (Cond.static yX0_wideKind) ∈ TB := tb_in (List.mem_append_left _ (List.mem_of_getElem? (i := 234) rfl)) rfl
theorem tb_235 : (Cond.code yX0_wideKind cX0_wideKind 4 (some FieldType.int)) ∈ TB := tb_in (List.mem_append_left _ (List.mem_of_getElem? (i := 235) rfl)) rfl
theorem tb_236 : (Cond.fieldLink RX0 128 RX0 "E_POWER" "[I") ∈ TB := tb_in (List.mem_append_left _ (List.mem_of_getElem? (i := 236) rfl)) rfl
theorem tq_237 : (Cond.laysStatic RX0 "E_POWER" "[I") ∈ tables_1 := List.mem_append_left _ (List.mem_of_getElem? (i := 237) rfl)
theorem tb_238 : (Cond.fieldLink RX0 122 RX0 "L_POWER" "[I") ∈ TB := tb_in (List.mem_append_left _ (List.mem_of_getElem? (i := 238) rfl)) rfl
theorem tq_239 : (Cond.laysStatic RX0 "L_POWER" "[I") ∈ tables_1 := List.mem_append_left _ (List.mem_of_getElem? (i := 239) rfl)
theorem tb_240 : (Cond.methodLink RX0 178 yX0_addWide) ∈ TB := tb_in (List.mem_append_right _ (List.mem_append_left _ (List.mem_of_getElem? (i := 0) rfl))) rfl
theorem tq_241 : (Cond.privateMethod yX0_addWide) ∈ tables_1 := List.mem_append_right _ (List.mem_append_left _ (List.mem_of_getElem? (i := 1) rfl))
theorem tb_242 : (Cond.instanceMethod yX0_addWide) ∈ TB := tb_in (List.mem_append_right _ (List.mem_append_left _ (List.mem_of_getElem? (i := 2) rfl))) rfl
theorem tb_243 : (Cond.code yX0_addWide cX0_addWide 6 none) ∈ TB := tb_in (List.mem_append_right _ (List.mem_append_left _ (List.mem_of_getElem? (i := 3) rfl))) rfl
theorem tb_244 : (Cond.methodLink RX0 182 yX0_isWidePlace) ∈ TB := tb_in (List.mem_append_right _ (List.mem_append_left _ (List.mem_of_getElem? (i := 4) rfl))) rfl
theorem tb_245 : (Cond.static yX0_isWidePlace) ∈ TB := tb_in (List.mem_append_right _ (List.mem_append_left _ (List.mem_of_getElem? (i := 5) rfl))) rfl
theorem tb_246 : (Cond.code yX0_isWidePlace cX0_isWidePlace 2 (some FieldType.boolean)) ∈ TB := tb_in (List.mem_append_right _ (List.mem_append_left _ (List.mem_of_getElem? (i := 6) rfl))) rfl
theorem tb_247 : (Cond.methodLink RX0 185 yX0_widePlace) ∈ TB := tb_in (List.mem_append_right _ (List.mem_append_left _ (List.mem_of_getElem? (i := 7) rfl))) rfl
theorem tb_248 : (Cond.static yX0_widePlace) ∈ TB := tb_in (List.mem_append_right _ (List.mem_append_left _ (List.mem_of_getElem? (i := 8) rfl))) rfl
theorem tb_249 : (Cond.code yX0_widePlace cX0_widePlace 2 (some FieldType.int)) ∈ TB := tb_in (List.mem_append_right _ (List.mem_append_left _ (List.mem_of_getElem? (i := 9) rfl))) rfl
theorem tb_250 : (Cond.methodLink RX0 66 yX0_productIsTooFar) ∈ TB := tb_in (List.mem_append_right _ (List.mem_append_left _ (List.mem_of_getElem? (i := 10) rfl))) rfl
theorem tq_251 : (Cond.privateMethod yX0_productIsTooFar) ∈ tables_1 := List.mem_append_right _ (List.mem_append_left _ (List.mem_of_getElem? (i := 11) rfl))
theorem tb_252 : (Cond.instanceMethod yX0_productIsTooFar) ∈ TB := tb_in (List.mem_append_right _ (List.mem_append_left _ (List.mem_of_getElem? (i := 12) rfl))) rfl
theorem tb_253 : (Cond.code yX0_productIsTooFar cX0_productIsTooFar 4 (some FieldType.boolean)) ∈ TB := tb_in (List.mem_append_right _ (List.mem_append_left _ (List.mem_of_getElem? (i := 13) rfl))) rfl
theorem tb_254 : (Cond.methodLink RX0 188 yX0_isKnownWideKind) ∈ TB := tb_in (List.mem_append_right _ (List.mem_append_left _ (List.mem_of_getElem? (i := 14) rfl))) rfl
theorem tb_255 : (Cond.static yX0_isKnownWideKind) ∈ TB := tb_in (List.mem_append_right _ (List.mem_append_left _ (List.mem_of_getElem? (i := 15) rfl))) rfl
theorem tb_256 : (Cond.code yX0_isKnownWideKind cX0_isKnownWideKind 2 (some FieldType.boolean)) ∈ TB := tb_in (List.mem_append_right _ (List.mem_append_left _ (List.mem_of_getElem? (i := 16) rfl))) rfl
theorem tb_257 : (Cond.methodLink RX0 191 yX0_wideNumber) ∈ TB := tb_in (List.mem_append_right _ (List.mem_append_left _ (List.mem_of_getElem? (i := 17) rfl))) rfl
theorem tq_258 : (Cond.privateMethod yX0_wideNumber) ∈ tables_1 := List.mem_append_right _ (List.mem_append_left _ (List.mem_of_getElem? (i := 18) rfl))
theorem tb_259 : (Cond.instanceMethod yX0_wideNumber) ∈ TB := tb_in (List.mem_append_right _ (List.mem_append_left _ (List.mem_of_getElem? (i := 19) rfl))) rfl
theorem tb_260 : (Cond.code yX0_wideNumber cX0_wideNumber 3 (some FieldType.int)) ∈ TB := tb_in (List.mem_append_right _ (List.mem_append_left _ (List.mem_of_getElem? (i := 20) rfl))) rfl
theorem tq_261 : (Cond.stringRef RX0 70 "the product is too far") ∈ tables_1 := List.mem_append_right _ (List.mem_append_left _ (List.mem_of_getElem? (i := 21) rfl))
theorem tb_262 : (Cond.methodLink RX0 72 yX0_draftProduct) ∈ TB := tb_in (List.mem_append_right _ (List.mem_append_left _ (List.mem_of_getElem? (i := 22) rfl))) rfl
theorem tq_263 : (Cond.privateMethod yX0_draftProduct) ∈ tables_1 := List.mem_append_right _ (List.mem_append_left _ (List.mem_of_getElem? (i := 23) rfl))
theorem tb_264 : (Cond.instanceMethod yX0_draftProduct) ∈ TB := tb_in (List.mem_append_right _ (List.mem_append_left _ (List.mem_of_getElem? (i := 24) rfl))) rfl
theorem tb_265 : (Cond.code yX0_draftProduct cX0_draftProduct 3 none) ∈ TB := tb_in (List.mem_append_right _ (List.mem_append_left _ (List.mem_of_getElem? (i := 25) rfl))) rfl
theorem tb_266 : (Cond.methodLink RL 83 yL_derive) ∈ TB := tb_in (List.mem_append_right _ (List.mem_append_left _ (List.mem_of_getElem? (i := 26) rfl))) rfl
theorem tb_267 : (Cond.static yL_derive) ∈ TB := tb_in (List.mem_append_right _ (List.mem_append_left _ (List.mem_of_getElem? (i := 27) rfl))) rfl
theorem tb_268 : (Cond.codeWith yL_derive cL_derive 4 (some FieldType.int) [(0, 9, 12, 21), (0, 9, 15, 15)]) ∈ TB := tb_in (List.mem_append_right _ (List.mem_append_left _ (List.mem_of_getElem? (i := 28) rfl))) rfl
theorem tb_269 : (Cond.methodLink RL 29 yX0_derive) ∈ TB := tb_in (List.mem_append_right _ (List.mem_append_left _ (List.mem_of_getElem? (i := 29) rfl))) rfl
theorem tb_270 : (Cond.instanceMethod yX0_derive) ∈ TB := tb_in (List.mem_append_right _ (List.mem_append_left _ (List.mem_of_getElem? (i := 30) rfl))) rfl
theorem tb_271 : (Cond.selects RX0 yX0_derive yX0_derive) ∈ TB := tb_in (List.mem_append_right _ (List.mem_append_left _ (List.mem_of_getElem? (i := 31) rfl))) rfl
theorem tb_272 : (Cond.code yX0_derive cX0_derive 2 (some FieldType.int)) ∈ TB := tb_in (List.mem_append_right _ (List.mem_append_left _ (List.mem_of_getElem? (i := 32) rfl))) rfl
theorem tb_273 : (Cond.methodLink RX0 75 yX0_slopeIsTooFar) ∈ TB := tb_in (List.mem_append_right _ (List.mem_append_left _ (List.mem_of_getElem? (i := 33) rfl))) rfl
theorem tq_274 : (Cond.privateMethod yX0_slopeIsTooFar) ∈ tables_1 := List.mem_append_right _ (List.mem_append_left _ (List.mem_of_getElem? (i := 34) rfl))
theorem tb_275 : (Cond.instanceMethod yX0_slopeIsTooFar) ∈ TB := tb_in (List.mem_append_right _ (List.mem_append_left _ (List.mem_of_getElem? (i := 35) rfl))) rfl
theorem tb_276 : (Cond.code yX0_slopeIsTooFar cX0_slopeIsTooFar 3 (some FieldType.boolean)) ∈ TB := tb_in (List.mem_append_right _ (List.mem_append_left _ (List.mem_of_getElem? (i := 36) rfl))) rfl
theorem tb_277 : (Cond.methodLink RX0 194 yX0_slopeNumber) ∈ TB := tb_in (List.mem_append_right _ (List.mem_append_left _ (List.mem_of_getElem? (i := 37) rfl))) rfl
theorem tq_278 : (Cond.privateMethod yX0_slopeNumber) ∈ tables_1 := List.mem_append_right _ (List.mem_append_left _ (List.mem_of_getElem? (i := 38) rfl))
theorem tb_279 : (Cond.instanceMethod yX0_slopeNumber) ∈ TB := tb_in (List.mem_append_right _ (List.mem_append_left _ (List.mem_of_getElem? (i := 39) rfl))) rfl
theorem tb_280 : (Cond.code yX0_slopeNumber cX0_slopeNumber 6 (some FieldType.int)) ∈ TB := tb_in (List.mem_append_right _ (List.mem_append_left _ (List.mem_of_getElem? (i := 40) rfl))) rfl
theorem tq_281 : (Cond.stringRef RX0 79 "the slope is too far") ∈ tables_1 := List.mem_append_right _ (List.mem_append_left _ (List.mem_of_getElem? (i := 41) rfl))
theorem tb_282 : (Cond.methodLink RX0 81 yX0_draftSlope) ∈ TB := tb_in (List.mem_append_right _ (List.mem_append_left _ (List.mem_of_getElem? (i := 42) rfl))) rfl
theorem tq_283 : (Cond.privateMethod yX0_draftSlope) ∈ tables_1 := List.mem_append_right _ (List.mem_append_left _ (List.mem_of_getElem? (i := 43) rfl))
theorem tb_284 : (Cond.instanceMethod yX0_draftSlope) ∈ TB := tb_in (List.mem_append_right _ (List.mem_append_left _ (List.mem_of_getElem? (i := 44) rfl))) rfl
theorem tb_285 : (Cond.code yX0_draftSlope cX0_draftSlope 4 none) ∈ TB := tb_in (List.mem_append_right _ (List.mem_append_left _ (List.mem_of_getElem? (i := 45) rfl))) rfl
theorem tb_286 : (Cond.methodLink RL 87 yL_integrate) ∈ TB := tb_in (List.mem_append_right _ (List.mem_append_left _ (List.mem_of_getElem? (i := 46) rfl))) rfl
theorem tb_287 : (Cond.static yL_integrate) ∈ TB := tb_in (List.mem_append_right _ (List.mem_append_left _ (List.mem_of_getElem? (i := 47) rfl))) rfl
theorem tb_288 : (Cond.codeWith yL_integrate cL_integrate 4 (some FieldType.int) [(0, 9, 12, 21), (0, 9, 15, 15)]) ∈ TB := tb_in (List.mem_append_right _ (List.mem_append_left _ (List.mem_of_getElem? (i := 48) rfl))) rfl
theorem tb_289 : (Cond.methodLink RL 33 yX0_integrate) ∈ TB := tb_in (List.mem_append_right _ (List.mem_append_left _ (List.mem_of_getElem? (i := 49) rfl))) rfl
theorem tb_290 : (Cond.instanceMethod yX0_integrate) ∈ TB := tb_in (List.mem_append_right _ (List.mem_append_left _ (List.mem_of_getElem? (i := 50) rfl))) rfl
theorem tb_291 : (Cond.selects RX0 yX0_integrate yX0_integrate) ∈ TB := tb_in (List.mem_append_right _ (List.mem_append_left _ (List.mem_of_getElem? (i := 51) rfl))) rfl
theorem tb_292 : (Cond.code yX0_integrate cX0_integrate 2 (some FieldType.int)) ∈ TB := tb_in (List.mem_append_right _ (List.mem_append_left _ (List.mem_of_getElem? (i := 52) rfl))) rfl
theorem tb_293 : (Cond.methodLink RX0 84 yX0_hasRest) ∈ TB := tb_in (List.mem_append_right _ (List.mem_append_left _ (List.mem_of_getElem? (i := 53) rfl))) rfl
theorem tq_294 : (Cond.privateMethod yX0_hasRest) ∈ tables_1 := List.mem_append_right _ (List.mem_append_left _ (List.mem_of_getElem? (i := 54) rfl))
theorem tb_295 : (Cond.instanceMethod yX0_hasRest) ∈ TB := tb_in (List.mem_append_right _ (List.mem_append_left _ (List.mem_of_getElem? (i := 55) rfl))) rfl
theorem tb_296 : (Cond.code yX0_hasRest cX0_hasRest 3 (some FieldType.boolean)) ∈ TB := tb_in (List.mem_append_right _ (List.mem_append_left _ (List.mem_of_getElem? (i := 56) rfl))) rfl
theorem tb_297 : (Cond.methodLink RX0 101 yX0_restOf) ∈ TB := tb_in (List.mem_append_right _ (List.mem_append_left _ (List.mem_of_getElem? (i := 57) rfl))) rfl
theorem tq_298 : (Cond.privateMethod yX0_restOf) ∈ tables_1 := List.mem_append_right _ (List.mem_append_left _ (List.mem_of_getElem? (i := 58) rfl))
theorem tb_299 : (Cond.instanceMethod yX0_restOf) ∈ TB := tb_in (List.mem_append_right _ (List.mem_append_left _ (List.mem_of_getElem? (i := 59) rfl))) rfl
theorem tb_300 : (Cond.code yX0_restOf cX0_restOf 6 (some FieldType.int)) ∈ TB := tb_in (List.mem_append_right _ (List.mem_append_left _ (List.mem_of_getElem? (i := 60) rfl))) rfl
theorem tb_301 : (Cond.methodLink RX0 197 yX0_divide) ∈ TB := tb_in (List.mem_append_right _ (List.mem_append_left _ (List.mem_of_getElem? (i := 61) rfl))) rfl
theorem tb_302 : (Cond.static yX0_divide) ∈ TB := tb_in (List.mem_append_right _ (List.mem_append_left _ (List.mem_of_getElem? (i := 62) rfl))) rfl
theorem tb_303 : (Cond.code yX0_divide cX0_divide 3 (some FieldType.int)) ∈ TB := tb_in (List.mem_append_right _ (List.mem_append_left _ (List.mem_of_getElem? (i := 63) rfl))) rfl
theorem tb_304 : (Cond.methodLink RX0 118 yX0_inverse) ∈ TB := tb_in (List.mem_append_right _ (List.mem_append_left _ (List.mem_of_getElem? (i := 64) rfl))) rfl
theorem tb_305 : (Cond.static yX0_inverse) ∈ TB := tb_in (List.mem_append_right _ (List.mem_append_left _ (List.mem_of_getElem? (i := 65) rfl))) rfl
theorem tb_306 : (Cond.code yX0_inverse cX0_inverse 1 (some FieldType.int)) ∈ TB := tb_in (List.mem_append_right _ (List.mem_append_left _ (List.mem_of_getElem? (i := 66) rfl))) rfl
theorem tb_307 : (Cond.methodLink RX0 125 yX0_power) ∈ TB := tb_in (List.mem_append_right _ (List.mem_append_left _ (List.mem_of_getElem? (i := 67) rfl))) rfl
theorem tb_308 : (Cond.static yX0_power) ∈ TB := tb_in (List.mem_append_right _ (List.mem_append_left _ (List.mem_of_getElem? (i := 68) rfl))) rfl
theorem tb_309 : (Cond.code yX0_power cX0_power 4 (some FieldType.int)) ∈ TB := tb_in (List.mem_append_right _ (List.mem_append_left _ (List.mem_of_getElem? (i := 69) rfl))) rfl
theorem tb_310 : (Cond.methodLink RX0 136 yX0_multiply) ∈ TB := tb_in (List.mem_append_right _ (List.mem_append_left _ (List.mem_of_getElem? (i := 70) rfl))) rfl
theorem tb_311 : (Cond.static yX0_multiply) ∈ TB := tb_in (List.mem_append_right _ (List.mem_append_left _ (List.mem_of_getElem? (i := 71) rfl))) rfl
theorem tb_312 : (Cond.code yX0_multiply cX0_multiply 2 (some FieldType.int)) ∈ TB := tb_in (List.mem_append_right _ (List.mem_append_left _ (List.mem_of_getElem? (i := 72) rfl))) rfl
theorem tb_313 : (Cond.methodLink RX0 87 yX0_integralIsTooFar) ∈ TB := tb_in (List.mem_append_right _ (List.mem_append_left _ (List.mem_of_getElem? (i := 73) rfl))) rfl
theorem tq_314 : (Cond.privateMethod yX0_integralIsTooFar) ∈ tables_1 := List.mem_append_right _ (List.mem_append_left _ (List.mem_of_getElem? (i := 74) rfl))
theorem tb_315 : (Cond.instanceMethod yX0_integralIsTooFar) ∈ TB := tb_in (List.mem_append_right _ (List.mem_append_left _ (List.mem_of_getElem? (i := 75) rfl))) rfl
theorem tb_316 : (Cond.code yX0_integralIsTooFar cX0_integralIsTooFar 3 (some FieldType.boolean)) ∈ TB := tb_in (List.mem_append_right _ (List.mem_append_left _ (List.mem_of_getElem? (i := 76) rfl))) rfl
theorem tq_317 : (Cond.stringRef RX0 90 "the integral is too far") ∈ tables_1 := List.mem_append_right _ (List.mem_append_left _ (List.mem_of_getElem? (i := 77) rfl))
theorem tb_318 : (Cond.methodLink RX0 92 yX0_draftLogIntegral) ∈ TB := tb_in (List.mem_append_right _ (List.mem_append_left _ (List.mem_of_getElem? (i := 78) rfl))) rfl
theorem tq_319 : (Cond.privateMethod yX0_draftLogIntegral) ∈ tables_1 := List.mem_append_right _ (List.mem_append_left _ (List.mem_of_getElem? (i := 79) rfl))
theorem tb_320 : (Cond.instanceMethod yX0_draftLogIntegral) ∈ TB := tb_in (List.mem_append_right _ (List.mem_append_left _ (List.mem_of_getElem? (i := 80) rfl))) rfl
theorem tb_321 : (Cond.code yX0_draftLogIntegral cX0_draftLogIntegral 5 none) ∈ TB := tb_in (List.mem_append_right _ (List.mem_append_left _ (List.mem_of_getElem? (i := 81) rfl))) rfl
theorem tb_322 : (Cond.methodLink RX0 95 yX0_draftConstantPowerIntegral) ∈ TB := tb_in (List.mem_append_right _ (List.mem_append_left _ (List.mem_of_getElem? (i := 82) rfl))) rfl
theorem tq_323 : (Cond.privateMethod yX0_draftConstantPowerIntegral) ∈ tables_1 := List.mem_append_right _ (List.mem_append_left _ (List.mem_of_getElem? (i := 83) rfl))
theorem tb_324 : (Cond.instanceMethod yX0_draftConstantPowerIntegral) ∈ TB := tb_in (List.mem_append_right _ (List.mem_append_left _ (List.mem_of_getElem? (i := 84) rfl))) rfl
theorem tb_325 : (Cond.code yX0_draftConstantPowerIntegral cX0_draftConstantPowerIntegral 3 none) ∈ TB := tb_in (List.mem_append_right _ (List.mem_append_left _ (List.mem_of_getElem? (i := 85) rfl))) rfl
theorem tb_326 : (Cond.methodLink RX0 98 yX0_draftExponentialIntegral) ∈ TB := tb_in (List.mem_append_right _ (List.mem_append_left _ (List.mem_of_getElem? (i := 86) rfl))) rfl
theorem tq_327 : (Cond.privateMethod yX0_draftExponentialIntegral) ∈ tables_1 := List.mem_append_right _ (List.mem_append_left _ (List.mem_of_getElem? (i := 87) rfl))
theorem tb_328 : (Cond.instanceMethod yX0_draftExponentialIntegral) ∈ TB := tb_in (List.mem_append_right _ (List.mem_append_left _ (List.mem_of_getElem? (i := 88) rfl))) rfl
theorem tb_329 : (Cond.code yX0_draftExponentialIntegral cX0_draftExponentialIntegral 5 none) ∈ TB := tb_in (List.mem_append_right _ (List.mem_append_left _ (List.mem_of_getElem? (i := 89) rfl))) rfl
theorem tb_330 : (Cond.methodLink RL 90 yL_rest) ∈ TB := tb_in (List.mem_append_right _ (List.mem_append_left _ (List.mem_of_getElem? (i := 90) rfl))) rfl
theorem tb_331 : (Cond.static yL_rest) ∈ TB := tb_in (List.mem_append_right _ (List.mem_append_left _ (List.mem_of_getElem? (i := 91) rfl))) rfl
theorem tb_332 : (Cond.codeWith yL_rest cL_rest 5 (some FieldType.int) [(0, 10, 13, 21), (0, 10, 17, 13)]) ∈ TB := tb_in (List.mem_append_right _ (List.mem_append_left _ (List.mem_of_getElem? (i := 92) rfl))) rfl
theorem tb_333 : (Cond.methodLink RL 36 yX0_rest) ∈ TB := tb_in (List.mem_append_right _ (List.mem_append_left _ (List.mem_of_getElem? (i := 93) rfl))) rfl
theorem tb_334 : (Cond.instanceMethod yX0_rest) ∈ TB := tb_in (List.mem_append_right _ (List.mem_append_left _ (List.mem_of_getElem? (i := 94) rfl))) rfl
theorem tb_335 : (Cond.selects RX0 yX0_rest yX0_rest) ∈ TB := tb_in (List.mem_append_right _ (List.mem_append_left _ (List.mem_of_getElem? (i := 95) rfl))) rfl
theorem tb_336 : (Cond.code yX0_rest cX0_rest 3 (some FieldType.int)) ∈ TB := tb_in (List.mem_append_right _ (List.mem_append_left _ (List.mem_of_getElem? (i := 96) rfl))) rfl
theorem tb_337 : (Cond.methodLink RL 93 yL_at) ∈ TB := tb_in (List.mem_append_right _ (List.mem_append_left _ (List.mem_of_getElem? (i := 97) rfl))) rfl
theorem tb_338 : (Cond.static yL_at) ∈ TB := tb_in (List.mem_append_right _ (List.mem_append_left _ (List.mem_of_getElem? (i := 98) rfl))) rfl
theorem tb_339 : (Cond.codeWith yL_at cL_at 6 (some FieldType.int) [(0, 12, 15, 21), (0, 12, 19, 13)]) ∈ TB := tb_in (List.mem_append_right _ (List.mem_append_left _ (List.mem_of_getElem? (i := 99) rfl))) rfl
theorem tb_340 : (Cond.methodLink RL 39 yX0_at) ∈ TB := tb_in (List.mem_append_right _ (List.mem_append_left _ (List.mem_of_getElem? (i := 100) rfl))) rfl
theorem tb_341 : (Cond.instanceMethod yX0_at) ∈ TB := tb_in (List.mem_append_right _ (List.mem_append_left _ (List.mem_of_getElem? (i := 101) rfl))) rfl
theorem tb_342 : (Cond.selects RX0 yX0_at yX0_at) ∈ TB := tb_in (List.mem_append_right _ (List.mem_append_left _ (List.mem_of_getElem? (i := 102) rfl))) rfl
theorem tb_343 : (Cond.code yX0_at cX0_at 4 (some FieldType.int)) ∈ TB := tb_in (List.mem_append_right _ (List.mem_append_left _ (List.mem_of_getElem? (i := 103) rfl))) rfl
theorem tb_344 : (Cond.methodLink RL 97 yL_terms) ∈ TB := tb_in (List.mem_append_right _ (List.mem_append_left _ (List.mem_of_getElem? (i := 104) rfl))) rfl
theorem tb_345 : (Cond.static yL_terms) ∈ TB := tb_in (List.mem_append_right _ (List.mem_append_left _ (List.mem_of_getElem? (i := 105) rfl))) rfl
theorem tb_346 : (Cond.codeWith yL_terms cL_terms 5 (some FieldType.int) [(0, 10, 13, 21), (0, 10, 17, 13)]) ∈ TB := tb_in (List.mem_append_right _ (List.mem_append_left _ (List.mem_of_getElem? (i := 106) rfl))) rfl
theorem tb_347 : (Cond.methodLink RL 43 yX0_terms) ∈ TB := tb_in (List.mem_append_right _ (List.mem_append_left _ (List.mem_of_getElem? (i := 107) rfl))) rfl
theorem tb_348 : (Cond.instanceMethod yX0_terms) ∈ TB := tb_in (List.mem_append_right _ (List.mem_append_left _ (List.mem_of_getElem? (i := 108) rfl))) rfl
theorem tb_349 : (Cond.selects RX0 yX0_terms yX0_terms) ∈ TB := tb_in (List.mem_append_right _ (List.mem_append_left _ (List.mem_of_getElem? (i := 109) rfl))) rfl
theorem tb_350 : (Cond.code yX0_terms cX0_terms 3 (some FieldType.int)) ∈ TB := tb_in (List.mem_append_right _ (List.mem_append_left _ (List.mem_of_getElem? (i := 110) rfl))) rfl
theorem tb_351 : (Cond.methodLink RL 100 yL_degree) ∈ TB := tb_in (List.mem_append_right _ (List.mem_append_left _ (List.mem_of_getElem? (i := 111) rfl))) rfl
theorem tb_352 : (Cond.static yL_degree) ∈ TB := tb_in (List.mem_append_right _ (List.mem_append_left _ (List.mem_of_getElem? (i := 112) rfl))) rfl
theorem tb_353 : (Cond.codeWith yL_degree cL_degree 5 (some FieldType.int) [(0, 10, 13, 21), (0, 10, 17, 13)]) ∈ TB := tb_in (List.mem_append_right _ (List.mem_append_left _ (List.mem_of_getElem? (i := 113) rfl))) rfl
theorem tb_354 : (Cond.methodLink RL 46 yX0_degree) ∈ TB := tb_in (List.mem_append_right _ (List.mem_append_left _ (List.mem_of_getElem? (i := 114) rfl))) rfl
theorem tb_355 : (Cond.instanceMethod yX0_degree) ∈ TB := tb_in (List.mem_append_right _ (List.mem_append_left _ (List.mem_of_getElem? (i := 115) rfl))) rfl
theorem tb_356 : (Cond.selects RX0 yX0_degree yX0_degree) ∈ TB := tb_in (List.mem_append_right _ (List.mem_append_left _ (List.mem_of_getElem? (i := 116) rfl))) rfl
theorem tb_357 : (Cond.code yX0_degree cX0_degree 4 (some FieldType.int)) ∈ TB := tb_in (List.mem_append_right _ (List.mem_append_left _ (List.mem_of_getElem? (i := 117) rfl))) rfl
theorem tb_358 : (Cond.methodLink RL 103 yL_value) ∈ TB := tb_in (List.mem_append_right _ (List.mem_append_left _ (List.mem_of_getElem? (i := 118) rfl))) rfl
theorem tb_359 : (Cond.static yL_value) ∈ TB := tb_in (List.mem_append_right _ (List.mem_append_left _ (List.mem_of_getElem? (i := 119) rfl))) rfl
theorem tb_360 : (Cond.codeWith yL_value cL_value 10 (some FieldType.int) [(0, 15, 18, 21)]) ∈ TB := tb_in (List.mem_append_right _ (List.mem_append_left _ (List.mem_of_getElem? (i := 120) rfl))) rfl
theorem tb_361 : (Cond.methodLink RL 49 yX0_value) ∈ TB := tb_in (List.mem_append_right _ (List.mem_append_left _ (List.mem_of_getElem? (i := 121) rfl))) rfl
theorem tb_362 : (Cond.instanceMethod yX0_value) ∈ TB := tb_in (List.mem_append_right _ (List.mem_append_left _ (List.mem_of_getElem? (i := 122) rfl))) rfl
theorem tb_363 : (Cond.selects RX0 yX0_value yX0_value) ∈ TB := tb_in (List.mem_append_right _ (List.mem_append_left _ (List.mem_of_getElem? (i := 123) rfl))) rfl
theorem tb_364 : (Cond.code yX0_value cX0_value 16 (some FieldType.int)) ∈ TB := tb_in (List.mem_append_right _ (List.mem_append_left _ (List.mem_of_getElem? (i := 124) rfl))) rfl
theorem tb_365 : (Cond.methodLink RX0 112 yX0_dividesByX) ∈ TB := tb_in (List.mem_append_right _ (List.mem_append_left _ (List.mem_of_getElem? (i := 125) rfl))) rfl
theorem tq_366 : (Cond.privateMethod yX0_dividesByX) ∈ tables_1 := List.mem_append_right _ (List.mem_append_left _ (List.mem_of_getElem? (i := 126) rfl))
theorem tb_367 : (Cond.instanceMethod yX0_dividesByX) ∈ TB := tb_in (List.mem_append_right _ (List.mem_append_left _ (List.mem_of_getElem? (i := 127) rfl))) rfl
theorem tb_368 : (Cond.code yX0_dividesByX cX0_dividesByX 4 (some FieldType.boolean)) ∈ TB := tb_in (List.mem_append_right _ (List.mem_append_left _ (List.mem_of_getElem? (i := 128) rfl))) rfl
theorem tb_369 : (Cond.methodLink RX0 115 yX0_dividesByE) ∈ TB := tb_in (List.mem_append_right _ (List.mem_append_left _ (List.mem_of_getElem? (i := 129) rfl))) rfl
theorem tq_370 : (Cond.privateMethod yX0_dividesByE) ∈ tables_1 := List.mem_append_right _ (List.mem_append_left _ (List.mem_of_getElem? (i := 130) rfl))
theorem tb_371 : (Cond.instanceMethod yX0_dividesByE) ∈ TB := tb_in (List.mem_append_right _ (List.mem_append_left _ (List.mem_of_getElem? (i := 131) rfl))) rfl
theorem tb_372 : (Cond.code yX0_dividesByE cX0_dividesByE 2 (some FieldType.boolean)) ∈ TB := tb_in (List.mem_append_right _ (List.mem_append_left _ (List.mem_of_getElem? (i := 132) rfl))) rfl
theorem tb_373 : (Cond.methodLink RX0 131 (⟨"java/lang/Math", "abs", "(I)I"⟩ : MethodName)) ∈ TB := tb_in (List.mem_append_right _ (List.mem_append_left _ (List.mem_of_getElem? (i := 133) rfl))) rfl
theorem tb_374 : (Cond.static (⟨"java/lang/Math", "abs", "(I)I"⟩ : MethodName)) ∈ TB := tb_in (List.mem_append_right _ (List.mem_append_left _ (List.mem_of_getElem? (i := 134) rfl))) rfl
theorem tb_375 : (Cond.code (⟨"java/lang/Math", "abs", "(I)I"⟩ : MethodName) prog_8_method_59_code 1 (some FieldType.int)) ∈ TB := tb_in (List.mem_append_right _ (List.mem_append_left _ (List.mem_of_getElem? (i := 135) rfl))) rfl
theorem tb_376 : (Cond.methodLink RX0 139 yX0_valueInX) ∈ TB := tb_in (List.mem_append_right _ (List.mem_append_left _ (List.mem_of_getElem? (i := 136) rfl))) rfl
theorem tq_377 : (Cond.privateMethod yX0_valueInX) ∈ tables_1 := List.mem_append_right _ (List.mem_append_left _ (List.mem_of_getElem? (i := 137) rfl))
theorem tb_378 : (Cond.instanceMethod yX0_valueInX) ∈ TB := tb_in (List.mem_append_right _ (List.mem_append_left _ (List.mem_of_getElem? (i := 138) rfl))) rfl
theorem tb_379 : (Cond.code yX0_valueInX cX0_valueInX 8 (some FieldType.int)) ∈ TB := tb_in (List.mem_append_right _ (List.mem_append_left _ (List.mem_of_getElem? (i := 139) rfl))) rfl
theorem tb_380 : (Cond.methodLink RL 107 yL_same) ∈ TB := tb_in (List.mem_append_right _ (List.mem_append_left _ (List.mem_of_getElem? (i := 140) rfl))) rfl
theorem tb_381 : (Cond.static yL_same) ∈ TB := tb_in (List.mem_append_right _ (List.mem_append_left _ (List.mem_of_getElem? (i := 141) rfl))) rfl
theorem tb_382 : (Cond.codeWith yL_same cL_same 5 (some FieldType.int) [(0, 17, 20, 21)]) ∈ TB := tb_in (List.mem_append_right _ (List.mem_append_left _ (List.mem_of_getElem? (i := 142) rfl))) rfl
theorem tb_383 : (Cond.methodLink RL 53 yX0_same) ∈ TB := tb_in (List.mem_append_right _ (List.mem_append_left _ (List.mem_of_getElem? (i := 143) rfl))) rfl
theorem tb_384 : (Cond.instanceMethod yX0_same) ∈ TB := tb_in (List.mem_append_right _ (List.mem_append_left _ (List.mem_of_getElem? (i := 144) rfl))) rfl
theorem tb_385 : (Cond.selects RX0 yX0_same yX0_same) ∈ TB := tb_in (List.mem_append_right _ (List.mem_append_left _ (List.mem_of_getElem? (i := 145) rfl))) rfl
theorem tb_386 : (Cond.code yX0_same cX0_same 5 (some FieldType.boolean)) ∈ TB := tb_in (List.mem_append_right _ (List.mem_append_left _ (List.mem_of_getElem? (i := 146) rfl))) rfl
theorem tb_387 : (Cond.classLink RL 58 RX1) ∈ TB := tb_in (List.mem_append_right _ (List.mem_append_left _ (List.mem_of_getElem? (i := 147) rfl))) rfl
theorem tb_388 : (Cond.instantiable RX1 8) ∈ TB := tb_in (List.mem_append_right _ (List.mem_append_left _ (List.mem_of_getElem? (i := 148) rfl))) rfl
theorem tb_389 : (Cond.methodLink RL 60 yX1_init) ∈ TB := tb_in (List.mem_append_right _ (List.mem_append_left _ (List.mem_of_getElem? (i := 149) rfl))) rfl
theorem tb_390 : (Cond.instanceMethod yX1_init) ∈ TB := tb_in (List.mem_append_right _ (List.mem_append_left _ (List.mem_of_getElem? (i := 150) rfl))) rfl
theorem tb_391 : (Cond.code yX1_init cX1_init 1 none) ∈ TB := tb_in (List.mem_append_right _ (List.mem_append_left _ (List.mem_of_getElem? (i := 151) rfl))) rfl
theorem tb_392 : (Cond.methodLink RX1 1 (⟨"java/lang/Object", "<init>", "()V"⟩ : MethodName)) ∈ TB := tb_in (List.mem_append_right _ (List.mem_append_left _ (List.mem_of_getElem? (i := 152) rfl))) rfl
theorem tb_393 : (Cond.fieldLink RX1 29 RX1 "code" "I") ∈ TB := tb_in (List.mem_append_right _ (List.mem_append_left _ (List.mem_of_getElem? (i := 153) rfl))) rfl
theorem tb_394 : (Cond.fieldLink RX1 39 RX1 "many" "I") ∈ TB := tb_in (List.mem_append_right _ (List.mem_append_left _ (List.mem_of_getElem? (i := 154) rfl))) rfl
theorem tb_395 : (Cond.fieldLink RX1 7 RX1 "numbers" "[I") ∈ TB := tb_in (List.mem_append_right _ (List.mem_append_left _ (List.mem_of_getElem? (i := 155) rfl))) rfl
theorem tb_396 : (Cond.fieldLink RX1 13 RX1 "made" "[J") ∈ TB := tb_in (List.mem_append_right _ (List.mem_append_left _ (List.mem_of_getElem? (i := 156) rfl))) rfl
theorem tb_397 : (Cond.fieldLink RX1 17 RX1 "p" "[J") ∈ TB := tb_in (List.mem_append_right _ (List.mem_append_left _ (List.mem_of_getElem? (i := 157) rfl))) rfl
theorem tb_398 : (Cond.fieldLink RX1 20 RX1 "q" "[J") ∈ TB := tb_in (List.mem_append_right _ (List.mem_append_left _ (List.mem_of_getElem? (i := 158) rfl))) rfl
theorem tb_399 : (Cond.fieldLink RX1 23 RX1 "wide" "[J") ∈ TB := tb_in (List.mem_append_right _ (List.mem_append_left _ (List.mem_of_getElem? (i := 159) rfl))) rfl
theorem tb_400 : (Cond.fieldLink RX1 26 RX1 "sums" "[J") ∈ TB := tb_in (List.mem_append_right _ (List.mem_append_left _ (List.mem_of_getElem? (i := 160) rfl))) rfl
theorem tb_401 : (Cond.lays RX1 RX1 "code" "I") ∈ TB := tb_in (List.mem_append_right _ (List.mem_append_left _ (List.mem_of_getElem? (i := 161) rfl))) rfl
theorem tb_402 : (Cond.soleField RX1 "code") ∈ TB := tb_in (List.mem_append_right _ (List.mem_append_left _ (List.mem_of_getElem? (i := 162) rfl))) rfl
theorem tb_403 : (Cond.lays RX1 RX1 "many" "I") ∈ TB := tb_in (List.mem_append_right _ (List.mem_append_left _ (List.mem_of_getElem? (i := 163) rfl))) rfl
theorem tb_404 : (Cond.soleField RX1 "many") ∈ TB := tb_in (List.mem_append_right _ (List.mem_append_left _ (List.mem_of_getElem? (i := 164) rfl))) rfl
theorem tb_405 : (Cond.laysFinal RX1 RX1 "numbers" "[I") ∈ TB := tb_in (List.mem_append_right _ (List.mem_append_left _ (List.mem_of_getElem? (i := 165) rfl))) rfl
theorem tb_406 : (Cond.soleField RX1 "numbers") ∈ TB := tb_in (List.mem_append_right _ (List.mem_append_left _ (List.mem_of_getElem? (i := 166) rfl))) rfl
theorem tb_407 : (Cond.laysFinal RX1 RX1 "made" "[J") ∈ TB := tb_in (List.mem_append_right _ (List.mem_append_left _ (List.mem_of_getElem? (i := 167) rfl))) rfl
theorem tb_408 : (Cond.soleField RX1 "made") ∈ TB := tb_in (List.mem_append_right _ (List.mem_append_left _ (List.mem_of_getElem? (i := 168) rfl))) rfl
theorem tb_409 : (Cond.laysFinal RX1 RX1 "p" "[J") ∈ TB := tb_in (List.mem_append_right _ (List.mem_append_left _ (List.mem_of_getElem? (i := 169) rfl))) rfl
theorem tb_410 : (Cond.soleField RX1 "p") ∈ TB := tb_in (List.mem_append_right _ (List.mem_append_left _ (List.mem_of_getElem? (i := 170) rfl))) rfl
theorem tb_411 : (Cond.laysFinal RX1 RX1 "q" "[J") ∈ TB := tb_in (List.mem_append_right _ (List.mem_append_left _ (List.mem_of_getElem? (i := 171) rfl))) rfl
theorem tb_412 : (Cond.soleField RX1 "q") ∈ TB := tb_in (List.mem_append_right _ (List.mem_append_left _ (List.mem_of_getElem? (i := 172) rfl))) rfl
theorem tb_413 : (Cond.laysFinal RX1 RX1 "wide" "[J") ∈ TB := tb_in (List.mem_append_right _ (List.mem_append_left _ (List.mem_of_getElem? (i := 173) rfl))) rfl
theorem tb_414 : (Cond.soleField RX1 "wide") ∈ TB := tb_in (List.mem_append_right _ (List.mem_append_left _ (List.mem_of_getElem? (i := 174) rfl))) rfl
theorem tb_415 : (Cond.laysFinal RX1 RX1 "sums" "[J") ∈ TB := tb_in (List.mem_append_right _ (List.mem_append_left _ (List.mem_of_getElem? (i := 175) rfl))) rfl
theorem tb_416 : (Cond.soleField RX1 "sums") ∈ TB := tb_in (List.mem_append_right _ (List.mem_append_left _ (List.mem_of_getElem? (i := 176) rfl))) rfl
theorem tb_417 : (Cond.superclass RX1 "java/lang/Object") ∈ TB := tb_in (List.mem_append_right _ (List.mem_append_left _ (List.mem_of_getElem? (i := 177) rfl))) rfl
theorem tb_418 : (Cond.arrayClass FieldType.long) ∈ TB := tb_in (List.mem_append_right _ (List.mem_append_left _ (List.mem_of_getElem? (i := 178) rfl))) rfl
theorem tb_419 : (Cond.methodLink RL 69 yX1_thrown) ∈ TB := tb_in (List.mem_append_right _ (List.mem_append_left _ (List.mem_of_getElem? (i := 179) rfl))) rfl
theorem tb_420 : (Cond.instanceMethod yX1_thrown) ∈ TB := tb_in (List.mem_append_right _ (List.mem_append_left _ (List.mem_of_getElem? (i := 180) rfl))) rfl
theorem tb_421 : (Cond.selects RX1 yX1_thrown yX1_thrown) ∈ TB := tb_in (List.mem_append_right _ (List.mem_append_left _ (List.mem_of_getElem? (i := 181) rfl))) rfl
theorem tb_422 : (Cond.code yX1_thrown cX1_thrown 1 (some FieldType.int)) ∈ TB := tb_in (List.mem_append_right _ (List.mem_append_left _ (List.mem_of_getElem? (i := 182) rfl))) rfl
theorem tb_423 : (Cond.methodLink RL 68 yX1_term) ∈ TB := tb_in (List.mem_append_right _ (List.mem_append_left _ (List.mem_of_getElem? (i := 183) rfl))) rfl
theorem tb_424 : (Cond.instanceMethod yX1_term) ∈ TB := tb_in (List.mem_append_right _ (List.mem_append_left _ (List.mem_of_getElem? (i := 184) rfl))) rfl
theorem tb_425 : (Cond.selects RX1 yX1_term yX1_term) ∈ TB := tb_in (List.mem_append_right _ (List.mem_append_left _ (List.mem_of_getElem? (i := 185) rfl))) rfl
theorem tb_426 : (Cond.code yX1_term cX1_term 6 (some FieldType.int)) ∈ TB := tb_in (List.mem_append_right _ (List.mem_append_left _ (List.mem_of_getElem? (i := 186) rfl))) rfl
theorem tb_427 : (Cond.constantLong RX1 54 (7 : Int64)) ∈ TB := tb_in (List.mem_append_right _ (List.mem_append_left _ (List.mem_of_getElem? (i := 187) rfl))) rfl
theorem tb_428 : (Cond.methodLink RX1 42 yX1_in) ∈ TB := tb_in (List.mem_append_right _ (List.mem_append_left _ (List.mem_of_getElem? (i := 188) rfl))) rfl
theorem tb_429 : (Cond.static yX1_in) ∈ TB := tb_in (List.mem_append_right _ (List.mem_append_left _ (List.mem_of_getElem? (i := 189) rfl))) rfl
theorem tb_430 : (Cond.code yX1_in cX1_in 6 (some FieldType.boolean)) ∈ TB := tb_in (List.mem_append_right _ (List.mem_append_left _ (List.mem_of_getElem? (i := 190) rfl))) rfl
theorem tb_431 : (Cond.constantLong RX1 56 (-4 : Int64)) ∈ TB := tb_in (List.mem_append_right _ (List.mem_append_left _ (List.mem_of_getElem? (i := 191) rfl))) rfl
theorem tb_432 : (Cond.constantLong RX1 58 (4 : Int64)) ∈ TB := tb_in (List.mem_append_right _ (List.mem_append_left _ (List.mem_of_getElem? (i := 192) rfl))) rfl
theorem tb_433 : (Cond.methodLink RX1 60 yX1_place) ∈ TB := tb_in (List.mem_append_right _ (List.mem_append_left _ (List.mem_of_getElem? (i := 193) rfl))) rfl
theorem tb_434 : (Cond.static yX1_place) ∈ TB := tb_in (List.mem_append_right _ (List.mem_append_left _ (List.mem_of_getElem? (i := 194) rfl))) rfl
theorem tb_435 : (Cond.code yX1_place cX1_place 2 (some FieldType.int)) ∈ TB := tb_in (List.mem_append_right _ (List.mem_append_left _ (List.mem_of_getElem? (i := 195) rfl))) rfl
theorem tb_436 : (Cond.methodLink RX1 35 yX1_modulo) ∈ TB := tb_in (List.mem_append_right _ (List.mem_append_left _ (List.mem_of_getElem? (i := 196) rfl))) rfl
theorem tb_437 : (Cond.static yX1_modulo) ∈ TB := tb_in (List.mem_append_right _ (List.mem_append_left _ (List.mem_of_getElem? (i := 197) rfl))) rfl
theorem tb_438 : (Cond.code yX1_modulo cX1_modulo 4 (some FieldType.long)) ∈ TB := tb_in (List.mem_append_right _ (List.mem_append_left _ (List.mem_of_getElem? (i := 198) rfl))) rfl
theorem tb_439 : (Cond.constantLong RX1 33 (32003 : Int64)) ∈ TB := tb_in (List.mem_append_right _ (List.mem_append_left _ (List.mem_of_getElem? (i := 199) rfl))) rfl
theorem tb_440 : (Cond.methodLink RX1 64 yX1_keep) ∈ TB := tb_in (List.mem_append_right _ (List.mem_append_left _ (List.mem_of_getElem? (i := 200) rfl))) rfl
theorem tq_441 : (Cond.privateMethod yX1_keep) ∈ tables_1 := List.mem_append_right _ (List.mem_append_left _ (List.mem_of_getElem? (i := 201) rfl))
theorem tb_442 : (Cond.instanceMethod yX1_keep) ∈ TB := tb_in (List.mem_append_right _ (List.mem_append_left _ (List.mem_of_getElem? (i := 202) rfl))) rfl
theorem tb_443 : (Cond.code yX1_keep cX1_keep 2 (some FieldType.int)) ∈ TB := tb_in (List.mem_append_right _ (List.mem_append_left _ (List.mem_of_getElem? (i := 203) rfl))) rfl
theorem tb_444 : (Cond.methodLink RL 76 yX1_add) ∈ TB := tb_in (List.mem_append_right _ (List.mem_append_left _ (List.mem_of_getElem? (i := 204) rfl))) rfl
theorem tb_445 : (Cond.instanceMethod yX1_add) ∈ TB := tb_in (List.mem_append_right _ (List.mem_append_left _ (List.mem_of_getElem? (i := 205) rfl))) rfl
theorem tb_446 : (Cond.selects RX1 yX1_add yX1_add) ∈ TB := tb_in (List.mem_append_right _ (List.mem_append_left _ (List.mem_of_getElem? (i := 206) rfl))) rfl
theorem tb_447 : (Cond.code yX1_add cX1_add 3 (some FieldType.int)) ∈ TB := tb_in (List.mem_append_right _ (List.mem_append_left _ (List.mem_of_getElem? (i := 207) rfl))) rfl
theorem tb_448 : (Cond.constantLong RX1 68 (-1 : Int64)) ∈ TB := tb_in (List.mem_append_right _ (List.mem_append_left _ (List.mem_of_getElem? (i := 208) rfl))) rfl
theorem tb_449 : (Cond.methodLink RX1 70 yX1_less) ∈ TB := tb_in (List.mem_append_right _ (List.mem_append_left _ (List.mem_of_getElem? (i := 209) rfl))) rfl
theorem tb_450 : (Cond.instanceMethod yX1_less) ∈ TB := tb_in (List.mem_append_right _ (List.mem_append_left _ (List.mem_of_getElem? (i := 210) rfl))) rfl
theorem tb_451 : (Cond.selects RX1 yX1_less yX1_less) ∈ TB := tb_in (List.mem_append_right _ (List.mem_append_left _ (List.mem_of_getElem? (i := 211) rfl))) rfl
theorem tb_452 : (Cond.code yX1_less cX1_less 6 (some FieldType.int)) ∈ TB := tb_in (List.mem_append_right _ (List.mem_append_left _ (List.mem_of_getElem? (i := 212) rfl))) rfl
theorem tb_453 : (Cond.methodLink RX1 74 yX1_may) ∈ TB := tb_in (List.mem_append_right _ (List.mem_append_left _ (List.mem_of_getElem? (i := 213) rfl))) rfl
theorem tq_454 : (Cond.privateMethod yX1_may) ∈ tables_1 := List.mem_append_right _ (List.mem_append_left _ (List.mem_of_getElem? (i := 214) rfl))
theorem tb_455 : (Cond.instanceMethod yX1_may) ∈ TB := tb_in (List.mem_append_right _ (List.mem_append_left _ (List.mem_of_getElem? (i := 215) rfl))) rfl
theorem tb_456 : (Cond.code yX1_may cX1_may 3 (some FieldType.boolean)) ∈ TB := tb_in (List.mem_append_right _ (List.mem_append_left _ (List.mem_of_getElem? (i := 216) rfl))) rfl
theorem tb_457 : (Cond.methodLink RX1 46 yX1_isThere) ∈ TB := tb_in (List.mem_append_right _ (List.mem_append_left _ (List.mem_of_getElem? (i := 217) rfl))) rfl
theorem tq_458 : (Cond.privateMethod yX1_isThere) ∈ tables_1 := List.mem_append_right _ (List.mem_append_left _ (List.mem_of_getElem? (i := 218) rfl))
theorem tb_459 : (Cond.instanceMethod yX1_isThere) ∈ TB := tb_in (List.mem_append_right _ (List.mem_append_left _ (List.mem_of_getElem? (i := 219) rfl))) rfl
theorem tb_460 : (Cond.code yX1_isThere cX1_isThere 2 (some FieldType.boolean)) ∈ TB := tb_in (List.mem_append_right _ (List.mem_append_left _ (List.mem_of_getElem? (i := 220) rfl))) rfl
theorem tb_461 : (Cond.methodLink RX1 50 yX1_load) ∈ TB := tb_in (List.mem_append_right _ (List.mem_append_left _ (List.mem_of_getElem? (i := 221) rfl))) rfl
theorem tq_462 : (Cond.privateMethod yX1_load) ∈ tables_1 := List.mem_append_right _ (List.mem_append_left _ (List.mem_of_getElem? (i := 222) rfl))
theorem tb_463 : (Cond.instanceMethod yX1_load) ∈ TB := tb_in (List.mem_append_right _ (List.mem_append_left _ (List.mem_of_getElem? (i := 223) rfl))) rfl
theorem tb_464 : (Cond.code yX1_load cX1_load 4 none) ∈ TB := tb_in (List.mem_append_right _ (List.mem_append_left _ (List.mem_of_getElem? (i := 224) rfl))) rfl
theorem tb_465 : (Cond.methodLink RL 79 yX1_less) ∈ TB := tb_in (List.mem_append_right _ (List.mem_append_left _ (List.mem_of_getElem? (i := 225) rfl))) rfl
theorem tb_466 : (Cond.methodLink RL 82 yX1_times) ∈ TB := tb_in (List.mem_append_right _ (List.mem_append_left _ (List.mem_of_getElem? (i := 226) rfl))) rfl
theorem tb_467 : (Cond.instanceMethod yX1_times) ∈ TB := tb_in (List.mem_append_right _ (List.mem_append_left _ (List.mem_of_getElem? (i := 227) rfl))) rfl
theorem tb_468 : (Cond.selects RX1 yX1_times yX1_times) ∈ TB := tb_in (List.mem_append_right _ (List.mem_append_left _ (List.mem_of_getElem? (i := 228) rfl))) rfl
theorem tb_469 : (Cond.code yX1_times cX1_times 9 (some FieldType.int)) ∈ TB := tb_in (List.mem_append_right _ (List.mem_append_left _ (List.mem_of_getElem? (i := 229) rfl))) rfl
theorem tb_470 : (Cond.methodLink RX1 88 yX1_has) ∈ TB := tb_in (List.mem_append_right _ (List.mem_append_left _ (List.mem_of_getElem? (i := 230) rfl))) rfl
theorem tq_471 : (Cond.privateMethod yX1_has) ∈ tables_1 := List.mem_append_right _ (List.mem_append_left _ (List.mem_of_getElem? (i := 231) rfl))
theorem tb_472 : (Cond.instanceMethod yX1_has) ∈ TB := tb_in (List.mem_append_right _ (List.mem_append_left _ (List.mem_of_getElem? (i := 232) rfl))) rfl
theorem tb_473 : (Cond.code yX1_has cX1_has 5 (some FieldType.boolean)) ∈ TB := tb_in (List.mem_append_right _ (List.mem_append_left _ (List.mem_of_getElem? (i := 233) rfl))) rfl
theorem tb_474 : (Cond.methodLink RX1 82 yX1_raise) ∈ TB := tb_in (List.mem_append_right _ (List.mem_append_left _ (List.mem_of_getElem? (i := 234) rfl))) rfl
theorem tq_475 : (Cond.privateMethod yX1_raise) ∈ tables_1 := List.mem_append_right _ (List.mem_append_left _ (List.mem_of_getElem? (i := 235) rfl))
theorem tb_476 : (Cond.instanceMethod yX1_raise) ∈ TB := tb_in (List.mem_append_right _ (List.mem_append_left _ (List.mem_of_getElem? (i := 236) rfl))) rfl
theorem tb_477 : (Cond.code yX1_raise cX1_raise 2 (some FieldType.int)) ∈ TB := tb_in (List.mem_append_right _ (List.mem_append_left _ (List.mem_of_getElem? (i := 237) rfl))) rfl
theorem tb_478 : (Cond.methodLink RX1 92 yX1_start) ∈ TB := tb_in (List.mem_append_right _ (List.mem_append_left _ (List.mem_of_getElem? (i := 238) rfl))) rfl
theorem tq_479 : (Cond.privateMethod yX1_start) ∈ tables_1 := List.mem_append_right _ (List.mem_append_left _ (List.mem_of_getElem? (i := 239) rfl))
theorem tb_480 : (Cond.instanceMethod yX1_start) ∈ TB := tb_in (List.mem_append_right _ (List.mem_append_right _ (List.mem_of_getElem? (i := 0) rfl))) rfl
theorem tb_481 : (Cond.code yX1_start cX1_start 2 none) ∈ TB := tb_in (List.mem_append_right _ (List.mem_append_right _ (List.mem_of_getElem? (i := 1) rfl))) rfl
theorem tb_482 : (Cond.methodLink RX1 78 yX1_exponent) ∈ TB := tb_in (List.mem_append_right _ (List.mem_append_right _ (List.mem_of_getElem? (i := 2) rfl))) rfl
theorem tb_483 : (Cond.static yX1_exponent) ∈ TB := tb_in (List.mem_append_right _ (List.mem_append_right _ (List.mem_of_getElem? (i := 3) rfl))) rfl
theorem tb_484 : (Cond.code yX1_exponent cX1_exponent 1 (some FieldType.int)) ∈ TB := tb_in (List.mem_append_right _ (List.mem_append_right _ (List.mem_of_getElem? (i := 4) rfl))) rfl
theorem tb_485 : (Cond.methodLink RX1 95 yX1_narrow) ∈ TB := tb_in (List.mem_append_right _ (List.mem_append_right _ (List.mem_of_getElem? (i := 5) rfl))) rfl
theorem tq_486 : (Cond.privateMethod yX1_narrow) ∈ tables_1 := List.mem_append_right _ (List.mem_append_right _ (List.mem_of_getElem? (i := 6) rfl))
theorem tb_487 : (Cond.instanceMethod yX1_narrow) ∈ TB := tb_in (List.mem_append_right _ (List.mem_append_right _ (List.mem_of_getElem? (i := 7) rfl))) rfl
theorem tb_488 : (Cond.code yX1_narrow cX1_narrow 4 (some FieldType.int)) ∈ TB := tb_in (List.mem_append_right _ (List.mem_append_right _ (List.mem_of_getElem? (i := 8) rfl))) rfl
theorem tb_489 : (Cond.methodLink RX1 85 yX1_rowOf) ∈ TB := tb_in (List.mem_append_right _ (List.mem_append_right _ (List.mem_of_getElem? (i := 9) rfl))) rfl
theorem tb_490 : (Cond.static yX1_rowOf) ∈ TB := tb_in (List.mem_append_right _ (List.mem_append_right _ (List.mem_of_getElem? (i := 10) rfl))) rfl
theorem tb_491 : (Cond.code yX1_rowOf cX1_rowOf 1 (some FieldType.int)) ∈ TB := tb_in (List.mem_append_right _ (List.mem_append_right _ (List.mem_of_getElem? (i := 11) rfl))) rfl
theorem tb_492 : (Cond.methodLink RL 86 yX1_derive) ∈ TB := tb_in (List.mem_append_right _ (List.mem_append_right _ (List.mem_of_getElem? (i := 12) rfl))) rfl
theorem tb_493 : (Cond.instanceMethod yX1_derive) ∈ TB := tb_in (List.mem_append_right _ (List.mem_append_right _ (List.mem_of_getElem? (i := 13) rfl))) rfl
theorem tb_494 : (Cond.selects RX1 yX1_derive yX1_derive) ∈ TB := tb_in (List.mem_append_right _ (List.mem_append_right _ (List.mem_of_getElem? (i := 14) rfl))) rfl
theorem tb_495 : (Cond.code yX1_derive cX1_derive 7 (some FieldType.int)) ∈ TB := tb_in (List.mem_append_right _ (List.mem_append_right _ (List.mem_of_getElem? (i := 15) rfl))) rfl
theorem tb_496 : (Cond.methodLink RL 92 yX1_rest) ∈ TB := tb_in (List.mem_append_right _ (List.mem_append_right _ (List.mem_of_getElem? (i := 16) rfl))) rfl
theorem tb_497 : (Cond.instanceMethod yX1_rest) ∈ TB := tb_in (List.mem_append_right _ (List.mem_append_right _ (List.mem_of_getElem? (i := 17) rfl))) rfl
theorem tb_498 : (Cond.selects RX1 yX1_rest yX1_rest) ∈ TB := tb_in (List.mem_append_right _ (List.mem_append_right _ (List.mem_of_getElem? (i := 18) rfl))) rfl
theorem tb_499 : (Cond.code yX1_rest cX1_rest 3 (some FieldType.int)) ∈ TB := tb_in (List.mem_append_right _ (List.mem_append_right _ (List.mem_of_getElem? (i := 19) rfl))) rfl
theorem tb_500 : (Cond.methodLink RX1 101 yX1_restOf) ∈ TB := tb_in (List.mem_append_right _ (List.mem_append_right _ (List.mem_of_getElem? (i := 20) rfl))) rfl
theorem tq_501 : (Cond.privateMethod yX1_restOf) ∈ tables_1 := List.mem_append_right _ (List.mem_append_right _ (List.mem_of_getElem? (i := 21) rfl))
theorem tb_502 : (Cond.instanceMethod yX1_restOf) ∈ TB := tb_in (List.mem_append_right _ (List.mem_append_right _ (List.mem_of_getElem? (i := 22) rfl))) rfl
theorem tb_503 : (Cond.code yX1_restOf cX1_restOf 6 (some FieldType.long)) ∈ TB := tb_in (List.mem_append_right _ (List.mem_append_right _ (List.mem_of_getElem? (i := 23) rfl))) rfl
theorem tb_504 : (Cond.methodLink RX1 98 yX1_inverse) ∈ TB := tb_in (List.mem_append_right _ (List.mem_append_right _ (List.mem_of_getElem? (i := 24) rfl))) rfl
theorem tb_505 : (Cond.static yX1_inverse) ∈ TB := tb_in (List.mem_append_right _ (List.mem_append_right _ (List.mem_of_getElem? (i := 25) rfl))) rfl
theorem tb_506 : (Cond.code yX1_inverse cX1_inverse 7 (some FieldType.long)) ∈ TB := tb_in (List.mem_append_right _ (List.mem_append_right _ (List.mem_of_getElem? (i := 26) rfl))) rfl
theorem tb_507 : (Cond.methodLink RL 89 yX1_integrate) ∈ TB := tb_in (List.mem_append_right _ (List.mem_append_right _ (List.mem_of_getElem? (i := 27) rfl))) rfl
theorem tb_508 : (Cond.instanceMethod yX1_integrate) ∈ TB := tb_in (List.mem_append_right _ (List.mem_append_right _ (List.mem_of_getElem? (i := 28) rfl))) rfl
theorem tb_509 : (Cond.selects RX1 yX1_integrate yX1_integrate) ∈ TB := tb_in (List.mem_append_right _ (List.mem_append_right _ (List.mem_of_getElem? (i := 29) rfl))) rfl
theorem tb_510 : (Cond.code yX1_integrate cX1_integrate 6 (some FieldType.int)) ∈ TB := tb_in (List.mem_append_right _ (List.mem_append_right _ (List.mem_of_getElem? (i := 30) rfl))) rfl
theorem tb_511 : (Cond.methodLink RL 96 yX1_at) ∈ TB := tb_in (List.mem_append_right _ (List.mem_append_right _ (List.mem_of_getElem? (i := 31) rfl))) rfl
theorem tb_512 : (Cond.instanceMethod yX1_at) ∈ TB := tb_in (List.mem_append_right _ (List.mem_append_right _ (List.mem_of_getElem? (i := 32) rfl))) rfl
theorem tb_513 : (Cond.selects RX1 yX1_at yX1_at) ∈ TB := tb_in (List.mem_append_right _ (List.mem_append_right _ (List.mem_of_getElem? (i := 33) rfl))) rfl
theorem tb_514 : (Cond.code yX1_at cX1_at 4 (some FieldType.int)) ∈ TB := tb_in (List.mem_append_right _ (List.mem_append_right _ (List.mem_of_getElem? (i := 34) rfl))) rfl
theorem tb_515 : (Cond.methodLink RL 99 yX1_terms) ∈ TB := tb_in (List.mem_append_right _ (List.mem_append_right _ (List.mem_of_getElem? (i := 35) rfl))) rfl
theorem tb_516 : (Cond.instanceMethod yX1_terms) ∈ TB := tb_in (List.mem_append_right _ (List.mem_append_right _ (List.mem_of_getElem? (i := 36) rfl))) rfl
theorem tb_517 : (Cond.selects RX1 yX1_terms yX1_terms) ∈ TB := tb_in (List.mem_append_right _ (List.mem_append_right _ (List.mem_of_getElem? (i := 37) rfl))) rfl
theorem tb_518 : (Cond.code yX1_terms cX1_terms 5 (some FieldType.int)) ∈ TB := tb_in (List.mem_append_right _ (List.mem_append_right _ (List.mem_of_getElem? (i := 38) rfl))) rfl
theorem tb_519 : (Cond.methodLink RL 102 yX1_degree) ∈ TB := tb_in (List.mem_append_right _ (List.mem_append_right _ (List.mem_of_getElem? (i := 39) rfl))) rfl
theorem tb_520 : (Cond.instanceMethod yX1_degree) ∈ TB := tb_in (List.mem_append_right _ (List.mem_append_right _ (List.mem_of_getElem? (i := 40) rfl))) rfl
theorem tb_521 : (Cond.selects RX1 yX1_degree yX1_degree) ∈ TB := tb_in (List.mem_append_right _ (List.mem_append_right _ (List.mem_of_getElem? (i := 41) rfl))) rfl
theorem tb_522 : (Cond.code yX1_degree cX1_degree 4 (some FieldType.int)) ∈ TB := tb_in (List.mem_append_right _ (List.mem_append_right _ (List.mem_of_getElem? (i := 42) rfl))) rfl
theorem tb_523 : (Cond.methodLink RL 106 yX1_value) ∈ TB := tb_in (List.mem_append_right _ (List.mem_append_right _ (List.mem_of_getElem? (i := 43) rfl))) rfl
theorem tb_524 : (Cond.instanceMethod yX1_value) ∈ TB := tb_in (List.mem_append_right _ (List.mem_append_right _ (List.mem_of_getElem? (i := 44) rfl))) rfl
theorem tb_525 : (Cond.selects RX1 yX1_value yX1_value) ∈ TB := tb_in (List.mem_append_right _ (List.mem_append_right _ (List.mem_of_getElem? (i := 45) rfl))) rfl
theorem tb_526 : (Cond.code yX1_value cX1_value 20 (some FieldType.int)) ∈ TB := tb_in (List.mem_append_right _ (List.mem_append_right _ (List.mem_of_getElem? (i := 46) rfl))) rfl
theorem tb_527 : (Cond.methodLink RX1 105 yX1_power) ∈ TB := tb_in (List.mem_append_right _ (List.mem_append_right _ (List.mem_of_getElem? (i := 47) rfl))) rfl
theorem tb_528 : (Cond.static yX1_power) ∈ TB := tb_in (List.mem_append_right _ (List.mem_append_right _ (List.mem_of_getElem? (i := 48) rfl))) rfl
theorem tb_529 : (Cond.code yX1_power cX1_power 8 (some FieldType.long)) ∈ TB := tb_in (List.mem_append_right _ (List.mem_append_right _ (List.mem_of_getElem? (i := 49) rfl))) rfl
theorem tb_530 : (Cond.methodLink RL 109 yX1_same) ∈ TB := tb_in (List.mem_append_right _ (List.mem_append_right _ (List.mem_of_getElem? (i := 50) rfl))) rfl
theorem tb_531 : (Cond.instanceMethod yX1_same) ∈ TB := tb_in (List.mem_append_right _ (List.mem_append_right _ (List.mem_of_getElem? (i := 51) rfl))) rfl
theorem tb_532 : (Cond.selects RX1 yX1_same yX1_same) ∈ TB := tb_in (List.mem_append_right _ (List.mem_append_right _ (List.mem_of_getElem? (i := 52) rfl))) rfl
theorem tb_533 : (Cond.code yX1_same cX1_same 4 (some FieldType.boolean)) ∈ TB := tb_in (List.mem_append_right _ (List.mem_append_right _ (List.mem_of_getElem? (i := 53) rfl))) rfl
theorem tb_534 : (Cond.methodLink RL 113 yX1_count) ∈ TB := tb_in (List.mem_append_right _ (List.mem_append_right _ (List.mem_of_getElem? (i := 54) rfl))) rfl
theorem tb_535 : (Cond.instanceMethod yX1_count) ∈ TB := tb_in (List.mem_append_right _ (List.mem_append_right _ (List.mem_of_getElem? (i := 55) rfl))) rfl
theorem tb_536 : (Cond.selects RX1 yX1_count yX1_count) ∈ TB := tb_in (List.mem_append_right _ (List.mem_append_right _ (List.mem_of_getElem? (i := 56) rfl))) rfl
theorem tb_537 : (Cond.code yX1_count cX1_count 1 (some FieldType.int)) ∈ TB := tb_in (List.mem_append_right _ (List.mem_append_right _ (List.mem_of_getElem? (i := 57) rfl))) rfl
theorem tb_538 : (Cond.constantLong RL 61 (4294967295 : Int64)) ∈ TB := tb_in (List.mem_append_right _ (List.mem_append_right _ (List.mem_of_getElem? (i := 58) rfl))) rfl
theorem tq_539 : (Cond.sameMethod "java/lang/Throwable" "java/lang/Throwable" "fillInStackTrace" "(I)Ljava/lang/Throwable;") ∈ tables_1 := List.mem_append_right _ (List.mem_append_right _ (List.mem_of_getElem? (i := 59) rfl))
theorem ts_X0_needRoom : Cond.selects RX0 yX0_needRoom yX0_needRoom ∈ TB := tb_in0 (List.mem_of_getElem? (i := 1) rfl) rfl
theorem ts_X0_clearDraft : Cond.selects RX0 yX0_clearDraft yX0_clearDraft ∈ TB := tb_in0 (List.mem_of_getElem? (i := 2) rfl) rfl
theorem ts_X0_setDraft : Cond.selects RX0 yX0_setDraft yX0_setDraft ∈ TB := tb_in0 (List.mem_of_getElem? (i := 3) rfl) rfl
theorem ts_X0_keepDraft : Cond.selects RX0 yX0_keepDraft yX0_keepDraft ∈ TB := tb_in0 (List.mem_of_getElem? (i := 4) rfl) rfl
theorem ts_X0_needElement : Cond.selects RX0 yX0_needElement yX0_needElement ∈ TB := tb_in0 (List.mem_of_getElem? (i := 5) rfl) rfl
theorem ts_X0_draftSum : Cond.selects RX0 yX0_draftSum yX0_draftSum ∈ TB := tb_in0 (List.mem_of_getElem? (i := 6) rfl) rfl
theorem ts_X0_number : Cond.selects RX0 yX0_number yX0_number ∈ TB := tb_in0 (List.mem_of_getElem? (i := 7) rfl) rfl
theorem ts_X0_logMeetsExponential : Cond.selects RX0 yX0_logMeetsExponential yX0_logMeetsExponential ∈ TB := tb_in0 (List.mem_of_getElem? (i := 8) rfl) rfl
theorem ts_X0_countTerms : Cond.selects RX0 yX0_countTerms yX0_countTerms ∈ TB := tb_in0 (List.mem_of_getElem? (i := 9) rfl) rfl
theorem ts_X0_sumUpProduct : Cond.selects RX0 yX0_sumUpProduct yX0_sumUpProduct ∈ TB := tb_in0 (List.mem_of_getElem? (i := 10) rfl) rfl
theorem ts_X0_clearWide : Cond.selects RX0 yX0_clearWide yX0_clearWide ∈ TB := tb_in0 (List.mem_of_getElem? (i := 11) rfl) rfl
theorem ts_X0_addMultiple : Cond.selects RX0 yX0_addMultiple yX0_addMultiple ∈ TB := tb_in0 (List.mem_of_getElem? (i := 12) rfl) rfl
theorem ts_X0_addWide : Cond.selects RX0 yX0_addWide yX0_addWide ∈ TB := tb_in0 (List.mem_of_getElem? (i := 13) rfl) rfl
theorem ts_X0_productIsTooFar : Cond.selects RX0 yX0_productIsTooFar yX0_productIsTooFar ∈ TB := tb_in0 (List.mem_of_getElem? (i := 14) rfl) rfl
theorem ts_X0_wideNumber : Cond.selects RX0 yX0_wideNumber yX0_wideNumber ∈ TB := tb_in0 (List.mem_of_getElem? (i := 15) rfl) rfl
theorem ts_X0_draftProduct : Cond.selects RX0 yX0_draftProduct yX0_draftProduct ∈ TB := tb_in0 (List.mem_of_getElem? (i := 16) rfl) rfl
theorem ts_X0_slopeIsTooFar : Cond.selects RX0 yX0_slopeIsTooFar yX0_slopeIsTooFar ∈ TB := tb_in0 (List.mem_of_getElem? (i := 17) rfl) rfl
theorem ts_X0_slopeNumber : Cond.selects RX0 yX0_slopeNumber yX0_slopeNumber ∈ TB := tb_in0 (List.mem_of_getElem? (i := 18) rfl) rfl
theorem ts_X0_draftSlope : Cond.selects RX0 yX0_draftSlope yX0_draftSlope ∈ TB := tb_in0 (List.mem_of_getElem? (i := 19) rfl) rfl
theorem ts_X0_hasRest : Cond.selects RX0 yX0_hasRest yX0_hasRest ∈ TB := tb_in0 (List.mem_of_getElem? (i := 20) rfl) rfl
theorem ts_X0_restOf : Cond.selects RX0 yX0_restOf yX0_restOf ∈ TB := tb_in0 (List.mem_of_getElem? (i := 21) rfl) rfl
theorem ts_X0_integralIsTooFar : Cond.selects RX0 yX0_integralIsTooFar yX0_integralIsTooFar ∈ TB := tb_in0 (List.mem_of_getElem? (i := 22) rfl) rfl
theorem ts_X0_draftLogIntegral : Cond.selects RX0 yX0_draftLogIntegral yX0_draftLogIntegral ∈ TB := tb_in0 (List.mem_of_getElem? (i := 23) rfl) rfl
theorem ts_X0_draftConstantPowerIntegral : Cond.selects RX0 yX0_draftConstantPowerIntegral yX0_draftConstantPowerIntegral ∈ TB := tb_in0 (List.mem_of_getElem? (i := 24) rfl) rfl
theorem ts_X0_draftExponentialIntegral : Cond.selects RX0 yX0_draftExponentialIntegral yX0_draftExponentialIntegral ∈ TB := tb_in0 (List.mem_of_getElem? (i := 25) rfl) rfl
theorem ts_X0_dividesByX : Cond.selects RX0 yX0_dividesByX yX0_dividesByX ∈ TB := tb_in0 (List.mem_of_getElem? (i := 26) rfl) rfl
theorem ts_X0_dividesByE : Cond.selects RX0 yX0_dividesByE yX0_dividesByE ∈ TB := tb_in0 (List.mem_of_getElem? (i := 27) rfl) rfl
theorem ts_X0_valueInX : Cond.selects RX0 yX0_valueInX yX0_valueInX ∈ TB := tb_in0 (List.mem_of_getElem? (i := 28) rfl) rfl
theorem ts_X1_keep : Cond.selects RX1 yX1_keep yX1_keep ∈ TB := tb_in0 (List.mem_of_getElem? (i := 29) rfl) rfl
theorem ts_X1_may : Cond.selects RX1 yX1_may yX1_may ∈ TB := tb_in0 (List.mem_of_getElem? (i := 30) rfl) rfl
theorem ts_X1_isThere : Cond.selects RX1 yX1_isThere yX1_isThere ∈ TB := tb_in0 (List.mem_of_getElem? (i := 31) rfl) rfl
theorem ts_X1_load : Cond.selects RX1 yX1_load yX1_load ∈ TB := tb_in0 (List.mem_of_getElem? (i := 32) rfl) rfl
theorem ts_X1_has : Cond.selects RX1 yX1_has yX1_has ∈ TB := tb_in0 (List.mem_of_getElem? (i := 33) rfl) rfl
theorem ts_X1_raise : Cond.selects RX1 yX1_raise yX1_raise ∈ TB := tb_in0 (List.mem_of_getElem? (i := 34) rfl) rfl
theorem ts_X1_start : Cond.selects RX1 yX1_start yX1_start ∈ TB := tb_in0 (List.mem_of_getElem? (i := 35) rfl) rfl
theorem ts_X1_narrow : Cond.selects RX1 yX1_narrow yX1_narrow ∈ TB := tb_in0 (List.mem_of_getElem? (i := 36) rfl) rfl
theorem ts_X1_restOf : Cond.selects RX1 yX1_restOf yX1_restOf ∈ TB := tb_in0 (List.mem_of_getElem? (i := 37) rfl) rfl
theorem inX0 : ∀ w ∈ u_ws RX0 TX0 3, w ∈ TB := by
  intro w h
  simp only [u_ws, List.range, List.range.loop, List.map, List.mem_cons, List.not_mem_nil, or_false] at h
  rcases h with rfl | rfl | rfl
  · exact tb_21
  · exact tb_23
  · exact tb_25
theorem inX1 : ∀ w ∈ u_ws RX1 TX1 8, w ∈ TB := by
  intro w h
  simp only [u_ws, List.range, List.range.loop, List.map, List.mem_cons, List.not_mem_nil, or_false] at h
  rcases h with rfl | rfl | rfl | rfl | rfl | rfl | rfl | rfl
  · exact tb_401
  · exact tb_403
  · exact tb_405
  · exact tb_407
  · exact tb_409
  · exact tb_411
  · exact tb_413
  · exact tb_415
/-- a callee's words among a caller's -/
theorem gd_tb {w : Cond} (h : w ∈ TB) : w ∈ TB ∧ ((w.onTables && w.keeps) = true ∨ ∃ ty, w = .arrayClass ty) := ⟨h, good_of_word (List.mem_filter.mp h).2⟩
theorem gd_all {c : Cond} (h : c ∈ TB) : GoodIn TB (c :: TB) := fun w hw => (List.mem_cons.mp hw).elim (fun e => e ▸ gd_tb h) gd_tb
theorem gd_V {own C : String} {i : Nat} {y : MethodName} {c : Cond} (h1 : Cond.methodLink own i y ∈ TB) (h2 : Cond.instanceMethod y ∈ TB) (h3 : Cond.selects C y y ∈ TB) (h4 : Cond.initialized C ∈ TB) (h : c ∈ TB) : GoodIn TB (wsV own i C y (c :: TB)) := fun w hw => by
  rcases List.mem_append.mp hw with hw | hw
  · simp only [List.mem_cons, List.not_mem_nil, or_false] at hw
    rcases hw with rfl | rfl | rfl | rfl
    · exact gd_tb h1
    · exact gd_tb h2
    · exact gd_tb h3
    · exact gd_tb h4
  · exact gd_all h w hw
theorem gd_S {own : String} {i : Nat} {y : MethodName} {c : Cond} (h1 : Cond.methodLink own i y ∈ TB) (h2 : Cond.static y ∈ TB) (h4 : Cond.initialized own ∈ TB) (h : c ∈ TB) : GoodIn TB (wsS own i y (c :: TB)) := fun w hw => by
  rcases List.mem_append.mp hw with hw | hw
  · simp only [List.mem_cons, List.not_mem_nil, or_false] at hw
    rcases hw with rfl | rfl | rfl
    · exact gd_tb h1
    · exact gd_tb h2
    · exact gd_tb h4
  · exact gd_all h w hw
theorem gd_vS {own : String} {i : Nat} {y : MethodName} {c : Cond} (h1 : Cond.methodLink own i y ∈ TB) (h2 : Cond.static y ∈ TB) (h4 : Cond.initialized y.cls ∈ TB) (h : c ∈ TB) : GoodIn TB (va_wsS own i y (c :: TB)) := fun w hw => by
  rcases List.mem_append.mp hw with hw | hw
  · simp only [List.mem_cons, List.not_mem_nil, or_false] at hw
    rcases hw with rfl | rfl | rfl
    · exact gd_tb h1
    · exact gd_tb h2
    · exact gd_tb h4
  · exact gd_all h w hw
abbrev vwCl : List vw_C := [(RX0, TX0, 3), (RX1, TX1, 8)]
end
section
theorem dX0_init_0 : decode cX0_init 0 = .ok (.aload_n 0, 1) := by decide +kernel
theorem dX0_init_1 : decode cX0_init 1 = .ok (.invokespecial 3, 3) := by decide +kernel
theorem dX0_init_4 : decode cX0_init 4 = .ok (.aload_n 0, 1) := by decide +kernel
theorem dX0_init_5 : decode cX0_init 5 = .ok (.sipush 4320, 3) := by decide +kernel
theorem dX0_init_8 : decode cX0_init 8 = .ok (.newarray .int, 2) := by decide +kernel
theorem dX0_init_10 : decode cX0_init 10 = .ok (.putfield 9, 3) := by decide +kernel
theorem dX0_init_13 : decode cX0_init 13 = .ok (.aload_n 0, 1) := by decide +kernel
theorem dX0_init_14 : decode cX0_init 14 = .ok (.sipush 255, 3) := by decide +kernel
theorem dX0_init_17 : decode cX0_init 17 = .ok (.newarray .int, 2) := by decide +kernel
theorem dX0_init_19 : decode cX0_init 19 = .ok (.putfield 13, 3) := by decide +kernel
theorem dX0_init_22 : decode cX0_init 22 = .ok (.aload_n 0, 1) := by decide +kernel
theorem dX0_init_23 : decode cX0_init 23 = .ok (.iconst 0, 1) := by decide +kernel
theorem dX0_init_24 : decode cX0_init 24 = .ok (.putfield 16, 3) := by decide +kernel
theorem dX0_init_27 : decode cX0_init 27 = .ok (.return_, 1) := by decide +kernel
theorem dX0_term_0 : decode cX0_term 0 = .ok (.iload_n 1, 1) := by decide +kernel
theorem dX0_term_1 : decode cX0_term 1 = .ok (.invokestatic 20, 3) := by decide +kernel
theorem dX0_term_4 : decode cX0_term 4 = .ok (.iload_n 2, 1) := by decide +kernel
theorem dX0_term_5 : decode cX0_term 5 = .ok (.invokestatic 24, 3) := by decide +kernel
theorem dX0_term_8 : decode cX0_term 8 = .ok (.aload_n 0, 1) := by decide +kernel
theorem dX0_term_9 : decode cX0_term 9 = .ok (.invokevirtual 27, 3) := by decide +kernel
theorem dX0_term_12 : decode cX0_term 12 = .ok (.aload_n 0, 1) := by decide +kernel
theorem dX0_term_13 : decode cX0_term 13 = .ok (.invokevirtual 30, 3) := by decide +kernel
theorem dX0_term_16 : decode cX0_term 16 = .ok (.aload_n 0, 1) := by decide +kernel
theorem dX0_term_17 : decode cX0_term 17 = .ok (.iload_n 1, 1) := by decide +kernel
theorem dX0_term_18 : decode cX0_term 18 = .ok (.iload_n 2, 1) := by decide +kernel
theorem dX0_term_19 : decode cX0_term 19 = .ok (.lload_n 3, 1) := by decide +kernel
theorem dX0_term_20 : decode cX0_term 20 = .ok (.invokestatic 33, 3) := by decide +kernel
theorem dX0_term_23 : decode cX0_term 23 = .ok (.invokevirtual 37, 3) := by decide +kernel
theorem dX0_term_26 : decode cX0_term 26 = .ok (.aload_n 0, 1) := by decide +kernel
theorem dX0_term_27 : decode cX0_term 27 = .ok (.invokevirtual 41, 3) := by decide +kernel
theorem dX0_term_30 : decode cX0_term 30 = .ok (.ireturn, 1) := by decide +kernel
theorem dX0_add_0 : decode cX0_add 0 = .ok (.aload_n 0, 1) := by decide +kernel
theorem dX0_add_1 : decode cX0_add 1 = .ok (.iload_n 1, 1) := by decide +kernel
theorem dX0_add_2 : decode cX0_add 2 = .ok (.invokevirtual 45, 3) := by decide +kernel
theorem dX0_add_5 : decode cX0_add 5 = .ok (.aload_n 0, 1) := by decide +kernel
theorem dX0_add_6 : decode cX0_add 6 = .ok (.iload_n 2, 1) := by decide +kernel
theorem dX0_add_7 : decode cX0_add 7 = .ok (.invokevirtual 45, 3) := by decide +kernel
theorem dX0_add_10 : decode cX0_add 10 = .ok (.aload_n 0, 1) := by decide +kernel
theorem dX0_add_11 : decode cX0_add 11 = .ok (.invokevirtual 27, 3) := by decide +kernel
theorem dX0_add_14 : decode cX0_add 14 = .ok (.aload_n 0, 1) := by decide +kernel
theorem dX0_add_15 : decode cX0_add 15 = .ok (.iload_n 1, 1) := by decide +kernel
theorem dX0_add_16 : decode cX0_add 16 = .ok (.iload_n 2, 1) := by decide +kernel
theorem dX0_add_17 : decode cX0_add 17 = .ok (.iconst 1, 1) := by decide +kernel
theorem dX0_add_18 : decode cX0_add 18 = .ok (.invokevirtual 48, 3) := by decide +kernel
theorem dX0_add_21 : decode cX0_add 21 = .ok (.aload_n 0, 1) := by decide +kernel
theorem dX0_add_22 : decode cX0_add 22 = .ok (.invokevirtual 41, 3) := by decide +kernel
theorem dX0_add_25 : decode cX0_add 25 = .ok (.ireturn, 1) := by decide +kernel
theorem dX0_less_0 : decode cX0_less 0 = .ok (.aload_n 0, 1) := by decide +kernel
theorem dX0_less_1 : decode cX0_less 1 = .ok (.iload_n 1, 1) := by decide +kernel
theorem dX0_less_2 : decode cX0_less 2 = .ok (.invokevirtual 45, 3) := by decide +kernel
theorem dX0_less_5 : decode cX0_less 5 = .ok (.aload_n 0, 1) := by decide +kernel
theorem dX0_less_6 : decode cX0_less 6 = .ok (.iload_n 2, 1) := by decide +kernel
theorem dX0_less_7 : decode cX0_less 7 = .ok (.invokevirtual 45, 3) := by decide +kernel
theorem dX0_less_10 : decode cX0_less 10 = .ok (.aload_n 0, 1) := by decide +kernel
theorem dX0_less_11 : decode cX0_less 11 = .ok (.invokevirtual 27, 3) := by decide +kernel
theorem dX0_less_14 : decode cX0_less 14 = .ok (.aload_n 0, 1) := by decide +kernel
theorem dX0_less_15 : decode cX0_less 15 = .ok (.iload_n 1, 1) := by decide +kernel
theorem dX0_less_16 : decode cX0_less 16 = .ok (.iload_n 2, 1) := by decide +kernel
theorem dX0_less_17 : decode cX0_less 17 = .ok (.lload_n 3, 1) := by decide +kernel
theorem dX0_less_18 : decode cX0_less 18 = .ok (.invokestatic 33, 3) := by decide +kernel
theorem dX0_less_21 : decode cX0_less 21 = .ok (.i2l, 1) := by decide +kernel
theorem dX0_less_22 : decode cX0_less 22 = .ok (.lneg, 1) := by decide +kernel
theorem dX0_less_23 : decode cX0_less 23 = .ok (.invokestatic 33, 3) := by decide +kernel
theorem dX0_less_26 : decode cX0_less 26 = .ok (.invokevirtual 48, 3) := by decide +kernel
theorem dX0_less_29 : decode cX0_less 29 = .ok (.aload_n 0, 1) := by decide +kernel
theorem dX0_less_30 : decode cX0_less 30 = .ok (.invokevirtual 41, 3) := by decide +kernel
theorem dX0_less_33 : decode cX0_less 33 = .ok (.ireturn, 1) := by decide +kernel
theorem dX0_times_0 : decode cX0_times 0 = .ok (.aload_n 0, 1) := by decide +kernel
theorem dX0_times_1 : decode cX0_times 1 = .ok (.iload_n 1, 1) := by decide +kernel
theorem dX0_times_2 : decode cX0_times 2 = .ok (.invokevirtual 45, 3) := by decide +kernel
theorem dX0_times_5 : decode cX0_times 5 = .ok (.aload_n 0, 1) := by decide +kernel
theorem dX0_times_6 : decode cX0_times 6 = .ok (.iload_n 2, 1) := by decide +kernel
theorem dX0_times_7 : decode cX0_times 7 = .ok (.invokevirtual 45, 3) := by decide +kernel
theorem dX0_times_10 : decode cX0_times 10 = .ok (.aload_n 0, 1) := by decide +kernel
theorem dX0_times_11 : decode cX0_times 11 = .ok (.invokevirtual 27, 3) := by decide +kernel
theorem dX0_times_14 : decode cX0_times 14 = .ok (.aload_n 0, 1) := by decide +kernel
theorem dX0_times_15 : decode cX0_times 15 = .ok (.iload_n 1, 1) := by decide +kernel
theorem dX0_times_16 : decode cX0_times 16 = .ok (.iload_n 2, 1) := by decide +kernel
theorem dX0_times_17 : decode cX0_times 17 = .ok (.invokevirtual 51, 3) := by decide +kernel
theorem dX0_times_20 : decode cX0_times 20 = .ok (.ifCond .ne 12, 3) := by decide +kernel
theorem dX0_times_23 : decode cX0_times 23 = .ok (.aload_n 0, 1) := by decide +kernel
theorem dX0_times_24 : decode cX0_times 24 = .ok (.iload_n 2, 1) := by decide +kernel
theorem dX0_times_25 : decode cX0_times 25 = .ok (.iload_n 1, 1) := by decide +kernel
theorem dX0_times_26 : decode cX0_times 26 = .ok (.invokevirtual 51, 3) := by decide +kernel
theorem dX0_times_29 : decode cX0_times 29 = .ok (.ifCond .eq 13, 3) := by decide +kernel
theorem dX0_times_32 : decode cX0_times 32 = .ok (.new 55, 3) := by decide +kernel
theorem dX0_times_35 : decode cX0_times 35 = .ok (.dup, 1) := by decide +kernel
theorem dX0_times_36 : decode cX0_times 36 = .ok (.ldc 57, 2) := by decide +kernel
theorem dX0_times_38 : decode cX0_times 38 = .ok (.invokespecial 59, 3) := by decide +kernel
theorem dX0_times_41 : decode cX0_times 41 = .ok (.athrow, 1) := by decide +kernel
theorem dX0_times_42 : decode cX0_times 42 = .ok (.aload_n 0, 1) := by decide +kernel
theorem dX0_times_43 : decode cX0_times 43 = .ok (.iload_n 1, 1) := by decide +kernel
theorem dX0_times_44 : decode cX0_times 44 = .ok (.iload_n 2, 1) := by decide +kernel
theorem dX0_times_45 : decode cX0_times 45 = .ok (.invokevirtual 62, 3) := by decide +kernel
theorem dX0_times_48 : decode cX0_times 48 = .ok (.aload_n 0, 1) := by decide +kernel
theorem dX0_times_49 : decode cX0_times 49 = .ok (.invokevirtual 66, 3) := by decide +kernel
theorem dX0_times_52 : decode cX0_times 52 = .ok (.ifCond .eq 13, 3) := by decide +kernel
theorem dX0_times_55 : decode cX0_times 55 = .ok (.new 55, 3) := by decide +kernel
theorem dX0_times_58 : decode cX0_times 58 = .ok (.dup, 1) := by decide +kernel
theorem dX0_times_59 : decode cX0_times 59 = .ok (.ldc 70, 2) := by decide +kernel
theorem dX0_times_61 : decode cX0_times 61 = .ok (.invokespecial 59, 3) := by decide +kernel
theorem dX0_times_64 : decode cX0_times 64 = .ok (.athrow, 1) := by decide +kernel
theorem dX0_times_65 : decode cX0_times 65 = .ok (.aload_n 0, 1) := by decide +kernel
theorem dX0_times_66 : decode cX0_times 66 = .ok (.invokevirtual 72, 3) := by decide +kernel
theorem dX0_times_69 : decode cX0_times 69 = .ok (.aload_n 0, 1) := by decide +kernel
theorem dX0_times_70 : decode cX0_times 70 = .ok (.invokevirtual 41, 3) := by decide +kernel
theorem dX0_times_73 : decode cX0_times 73 = .ok (.ireturn, 1) := by decide +kernel
theorem dX0_derive_0 : decode cX0_derive 0 = .ok (.aload_n 0, 1) := by decide +kernel
theorem dX0_derive_1 : decode cX0_derive 1 = .ok (.iload_n 1, 1) := by decide +kernel
theorem dX0_derive_2 : decode cX0_derive 2 = .ok (.invokevirtual 45, 3) := by decide +kernel
theorem dX0_derive_5 : decode cX0_derive 5 = .ok (.aload_n 0, 1) := by decide +kernel
theorem dX0_derive_6 : decode cX0_derive 6 = .ok (.invokevirtual 27, 3) := by decide +kernel
theorem dX0_derive_9 : decode cX0_derive 9 = .ok (.aload_n 0, 1) := by decide +kernel
theorem dX0_derive_10 : decode cX0_derive 10 = .ok (.iload_n 1, 1) := by decide +kernel
theorem dX0_derive_11 : decode cX0_derive 11 = .ok (.invokevirtual 75, 3) := by decide +kernel
theorem dX0_derive_14 : decode cX0_derive 14 = .ok (.ifCond .eq 13, 3) := by decide +kernel
theorem dX0_derive_17 : decode cX0_derive 17 = .ok (.new 55, 3) := by decide +kernel
theorem dX0_derive_20 : decode cX0_derive 20 = .ok (.dup, 1) := by decide +kernel
theorem dX0_derive_21 : decode cX0_derive 21 = .ok (.ldc 79, 2) := by decide +kernel
theorem dX0_derive_23 : decode cX0_derive 23 = .ok (.invokespecial 59, 3) := by decide +kernel
theorem dX0_derive_26 : decode cX0_derive 26 = .ok (.athrow, 1) := by decide +kernel
theorem dX0_derive_27 : decode cX0_derive 27 = .ok (.aload_n 0, 1) := by decide +kernel
theorem dX0_derive_28 : decode cX0_derive 28 = .ok (.iload_n 1, 1) := by decide +kernel
theorem dX0_derive_29 : decode cX0_derive 29 = .ok (.invokevirtual 81, 3) := by decide +kernel
theorem dX0_derive_32 : decode cX0_derive 32 = .ok (.aload_n 0, 1) := by decide +kernel
theorem dX0_derive_33 : decode cX0_derive 33 = .ok (.invokevirtual 41, 3) := by decide +kernel
theorem dX0_derive_36 : decode cX0_derive 36 = .ok (.ireturn, 1) := by decide +kernel
theorem dX0_integrate_0 : decode cX0_integrate 0 = .ok (.aload_n 0, 1) := by decide +kernel
theorem dX0_integrate_1 : decode cX0_integrate 1 = .ok (.iload_n 1, 1) := by decide +kernel
theorem dX0_integrate_2 : decode cX0_integrate 2 = .ok (.invokevirtual 45, 3) := by decide +kernel
theorem dX0_integrate_5 : decode cX0_integrate 5 = .ok (.aload_n 0, 1) := by decide +kernel
theorem dX0_integrate_6 : decode cX0_integrate 6 = .ok (.invokevirtual 27, 3) := by decide +kernel
theorem dX0_integrate_9 : decode cX0_integrate 9 = .ok (.aload_n 0, 1) := by decide +kernel
theorem dX0_integrate_10 : decode cX0_integrate 10 = .ok (.iload_n 1, 1) := by decide +kernel
theorem dX0_integrate_11 : decode cX0_integrate 11 = .ok (.invokevirtual 84, 3) := by decide +kernel
theorem dX0_integrate_14 : decode cX0_integrate 14 = .ok (.ifCond .eq 5, 3) := by decide +kernel
theorem dX0_integrate_17 : decode cX0_integrate 17 = .ok (.iconst (-1), 1) := by decide +kernel
theorem dX0_integrate_18 : decode cX0_integrate 18 = .ok (.ireturn, 1) := by decide +kernel
theorem dX0_integrate_19 : decode cX0_integrate 19 = .ok (.aload_n 0, 1) := by decide +kernel
theorem dX0_integrate_20 : decode cX0_integrate 20 = .ok (.iload_n 1, 1) := by decide +kernel
theorem dX0_integrate_21 : decode cX0_integrate 21 = .ok (.invokevirtual 87, 3) := by decide +kernel
theorem dX0_integrate_24 : decode cX0_integrate 24 = .ok (.ifCond .eq 13, 3) := by decide +kernel
theorem dX0_integrate_27 : decode cX0_integrate 27 = .ok (.new 55, 3) := by decide +kernel
theorem dX0_integrate_30 : decode cX0_integrate 30 = .ok (.dup, 1) := by decide +kernel
theorem dX0_integrate_31 : decode cX0_integrate 31 = .ok (.ldc 90, 2) := by decide +kernel
theorem dX0_integrate_33 : decode cX0_integrate 33 = .ok (.invokespecial 59, 3) := by decide +kernel
theorem dX0_integrate_36 : decode cX0_integrate 36 = .ok (.athrow, 1) := by decide +kernel
theorem dX0_integrate_37 : decode cX0_integrate 37 = .ok (.aload_n 0, 1) := by decide +kernel
theorem dX0_integrate_38 : decode cX0_integrate 38 = .ok (.invokevirtual 30, 3) := by decide +kernel
theorem dX0_integrate_41 : decode cX0_integrate 41 = .ok (.aload_n 0, 1) := by decide +kernel
theorem dX0_integrate_42 : decode cX0_integrate 42 = .ok (.iload_n 1, 1) := by decide +kernel
theorem dX0_integrate_43 : decode cX0_integrate 43 = .ok (.invokevirtual 92, 3) := by decide +kernel
theorem dX0_integrate_46 : decode cX0_integrate 46 = .ok (.aload_n 0, 1) := by decide +kernel
theorem dX0_integrate_47 : decode cX0_integrate 47 = .ok (.iload_n 1, 1) := by decide +kernel
theorem dX0_integrate_48 : decode cX0_integrate 48 = .ok (.invokevirtual 95, 3) := by decide +kernel
theorem dX0_integrate_51 : decode cX0_integrate 51 = .ok (.aload_n 0, 1) := by decide +kernel
theorem dX0_integrate_52 : decode cX0_integrate 52 = .ok (.iload_n 1, 1) := by decide +kernel
theorem dX0_integrate_53 : decode cX0_integrate 53 = .ok (.invokevirtual 98, 3) := by decide +kernel
theorem dX0_integrate_56 : decode cX0_integrate 56 = .ok (.aload_n 0, 1) := by decide +kernel
theorem dX0_integrate_57 : decode cX0_integrate 57 = .ok (.invokevirtual 41, 3) := by decide +kernel
theorem dX0_integrate_60 : decode cX0_integrate 60 = .ok (.ireturn, 1) := by decide +kernel
theorem dX0_rest_0 : decode cX0_rest 0 = .ok (.aload_n 0, 1) := by decide +kernel
theorem dX0_rest_1 : decode cX0_rest 1 = .ok (.iload_n 1, 1) := by decide +kernel
theorem dX0_rest_2 : decode cX0_rest 2 = .ok (.invokevirtual 45, 3) := by decide +kernel
theorem dX0_rest_5 : decode cX0_rest 5 = .ok (.iload_n 2, 1) := by decide +kernel
theorem dX0_rest_6 : decode cX0_rest 6 = .ok (.invokestatic 20, 3) := by decide +kernel
theorem dX0_rest_9 : decode cX0_rest 9 = .ok (.aload_n 0, 1) := by decide +kernel
theorem dX0_rest_10 : decode cX0_rest 10 = .ok (.iload_n 1, 1) := by decide +kernel
theorem dX0_rest_11 : decode cX0_rest 11 = .ok (.iload_n 2, 1) := by decide +kernel
theorem dX0_rest_12 : decode cX0_rest 12 = .ok (.invokevirtual 101, 3) := by decide +kernel
theorem dX0_rest_15 : decode cX0_rest 15 = .ok (.ireturn, 1) := by decide +kernel
theorem dX0_at_0 : decode cX0_at 0 = .ok (.aload_n 0, 1) := by decide +kernel
theorem dX0_at_1 : decode cX0_at 1 = .ok (.iload_n 1, 1) := by decide +kernel
theorem dX0_at_2 : decode cX0_at 2 = .ok (.invokevirtual 45, 3) := by decide +kernel
theorem dX0_at_5 : decode cX0_at 5 = .ok (.iload_n 2, 1) := by decide +kernel
theorem dX0_at_6 : decode cX0_at 6 = .ok (.invokestatic 20, 3) := by decide +kernel
theorem dX0_at_9 : decode cX0_at 9 = .ok (.iload_n 3, 1) := by decide +kernel
theorem dX0_at_10 : decode cX0_at 10 = .ok (.invokestatic 24, 3) := by decide +kernel
theorem dX0_at_13 : decode cX0_at 13 = .ok (.aload_n 0, 1) := by decide +kernel
theorem dX0_at_14 : decode cX0_at 14 = .ok (.iload_n 1, 1) := by decide +kernel
theorem dX0_at_15 : decode cX0_at 15 = .ok (.iload_n 2, 1) := by decide +kernel
theorem dX0_at_16 : decode cX0_at 16 = .ok (.iload_n 3, 1) := by decide +kernel
theorem dX0_at_17 : decode cX0_at 17 = .ok (.invokevirtual 105, 3) := by decide +kernel
theorem dX0_at_20 : decode cX0_at 20 = .ok (.ireturn, 1) := by decide +kernel
theorem dX0_terms_0 : decode cX0_terms 0 = .ok (.aload_n 0, 1) := by decide +kernel
theorem dX0_terms_1 : decode cX0_terms 1 = .ok (.iload_n 1, 1) := by decide +kernel
theorem dX0_terms_2 : decode cX0_terms 2 = .ok (.invokevirtual 45, 3) := by decide +kernel
theorem dX0_terms_5 : decode cX0_terms 5 = .ok (.iload_n 2, 1) := by decide +kernel
theorem dX0_terms_6 : decode cX0_terms 6 = .ok (.iconst (-1), 1) := by decide +kernel
theorem dX0_terms_7 : decode cX0_terms 7 = .ok (.if_icmp .ne 12, 3) := by decide +kernel
theorem dX0_terms_10 : decode cX0_terms 10 = .ok (.aload_n 0, 1) := by decide +kernel
theorem dX0_terms_11 : decode cX0_terms 11 = .ok (.iload_n 1, 1) := by decide +kernel
theorem dX0_terms_12 : decode cX0_terms 12 = .ok (.iconst 0, 1) := by decide +kernel
theorem dX0_terms_13 : decode cX0_terms 13 = .ok (.bipush 7, 2) := by decide +kernel
theorem dX0_terms_15 : decode cX0_terms 15 = .ok (.invokevirtual 109, 3) := by decide +kernel
theorem dX0_terms_18 : decode cX0_terms 18 = .ok (.ireturn, 1) := by decide +kernel
theorem dX0_terms_19 : decode cX0_terms 19 = .ok (.iload_n 2, 1) := by decide +kernel
theorem dX0_terms_20 : decode cX0_terms 20 = .ok (.invokestatic 20, 3) := by decide +kernel
theorem dX0_terms_23 : decode cX0_terms 23 = .ok (.aload_n 0, 1) := by decide +kernel
theorem dX0_terms_24 : decode cX0_terms 24 = .ok (.iload_n 1, 1) := by decide +kernel
theorem dX0_terms_25 : decode cX0_terms 25 = .ok (.iload_n 2, 1) := by decide +kernel
theorem dX0_terms_26 : decode cX0_terms 26 = .ok (.iload_n 2, 1) := by decide +kernel
theorem dX0_terms_27 : decode cX0_terms 27 = .ok (.invokevirtual 109, 3) := by decide +kernel
theorem dX0_terms_30 : decode cX0_terms 30 = .ok (.ireturn, 1) := by decide +kernel
theorem dX0_degree_0 : decode cX0_degree 0 = .ok (.aload_n 0, 1) := by decide +kernel
theorem dX0_degree_1 : decode cX0_degree 1 = .ok (.iload_n 1, 1) := by decide +kernel
theorem dX0_degree_2 : decode cX0_degree 2 = .ok (.invokevirtual 45, 3) := by decide +kernel
theorem dX0_degree_5 : decode cX0_degree 5 = .ok (.iload_n 2, 1) := by decide +kernel
theorem dX0_degree_6 : decode cX0_degree 6 = .ok (.invokestatic 20, 3) := by decide +kernel
theorem dX0_degree_9 : decode cX0_degree 9 = .ok (.iconst 4, 1) := by decide +kernel
theorem dX0_degree_10 : decode cX0_degree 10 = .ok (.istore_n 3, 1) := by decide +kernel
theorem dX0_degree_11 : decode cX0_degree 11 = .ok (.iload_n 3, 1) := by decide +kernel
theorem dX0_degree_12 : decode cX0_degree 12 = .ok (.bipush (-4), 2) := by decide +kernel
theorem dX0_degree_14 : decode cX0_degree 14 = .ok (.if_icmp .lt 21, 3) := by decide +kernel
theorem dX0_degree_17 : decode cX0_degree 17 = .ok (.aload_n 0, 1) := by decide +kernel
theorem dX0_degree_18 : decode cX0_degree 18 = .ok (.iload_n 1, 1) := by decide +kernel
theorem dX0_degree_19 : decode cX0_degree 19 = .ok (.iload_n 2, 1) := by decide +kernel
theorem dX0_degree_20 : decode cX0_degree 20 = .ok (.iload_n 3, 1) := by decide +kernel
theorem dX0_degree_21 : decode cX0_degree 21 = .ok (.invokevirtual 105, 3) := by decide +kernel
theorem dX0_degree_24 : decode cX0_degree 24 = .ok (.ifCond .eq 5, 3) := by decide +kernel
theorem dX0_degree_27 : decode cX0_degree 27 = .ok (.iload_n 3, 1) := by decide +kernel
theorem dX0_degree_28 : decode cX0_degree 28 = .ok (.ireturn, 1) := by decide +kernel
theorem dX0_degree_29 : decode cX0_degree 29 = .ok (.iinc 3 (-1), 3) := by decide +kernel
theorem dX0_degree_32 : decode cX0_degree 32 = .ok (.goto (-21), 3) := by decide +kernel
theorem dX0_degree_35 : decode cX0_degree 35 = .ok (.bipush (-5), 2) := by decide +kernel
theorem dX0_degree_37 : decode cX0_degree 37 = .ok (.ireturn, 1) := by decide +kernel
theorem dX0_value_0 : decode cX0_value 0 = .ok (.aload_n 0, 1) := by decide +kernel
theorem dX0_value_1 : decode cX0_value 1 = .ok (.iload_n 1, 1) := by decide +kernel
theorem dX0_value_2 : decode cX0_value 2 = .ok (.invokevirtual 45, 3) := by decide +kernel
theorem dX0_value_5 : decode cX0_value 5 = .ok (.lload_n 2, 1) := by decide +kernel
theorem dX0_value_6 : decode cX0_value 6 = .ok (.invokestatic 33, 3) := by decide +kernel
theorem dX0_value_9 : decode cX0_value 9 = .ok (.istore 8, 2) := by decide +kernel
theorem dX0_value_11 : decode cX0_value 11 = .ok (.lload 4, 2) := by decide +kernel
theorem dX0_value_13 : decode cX0_value 13 = .ok (.invokestatic 33, 3) := by decide +kernel
theorem dX0_value_16 : decode cX0_value 16 = .ok (.istore 9, 2) := by decide +kernel
theorem dX0_value_18 : decode cX0_value 18 = .ok (.lload 6, 2) := by decide +kernel
theorem dX0_value_20 : decode cX0_value 20 = .ok (.invokestatic 33, 3) := by decide +kernel
theorem dX0_value_23 : decode cX0_value 23 = .ok (.istore 10, 2) := by decide +kernel
theorem dX0_value_25 : decode cX0_value 25 = .ok (.iload 8, 2) := by decide +kernel
theorem dX0_value_27 : decode cX0_value 27 = .ok (.ifCond .ne 11, 3) := by decide +kernel
theorem dX0_value_30 : decode cX0_value 30 = .ok (.aload_n 0, 1) := by decide +kernel
theorem dX0_value_31 : decode cX0_value 31 = .ok (.iload_n 1, 1) := by decide +kernel
theorem dX0_value_32 : decode cX0_value 32 = .ok (.invokevirtual 112, 3) := by decide +kernel
theorem dX0_value_35 : decode cX0_value 35 = .ok (.ifCond .ne 16, 3) := by decide +kernel
theorem dX0_value_38 : decode cX0_value 38 = .ok (.iload 10, 2) := by decide +kernel
theorem dX0_value_40 : decode cX0_value 40 = .ok (.ifCond .ne 13, 3) := by decide +kernel
theorem dX0_value_43 : decode cX0_value 43 = .ok (.aload_n 0, 1) := by decide +kernel
theorem dX0_value_44 : decode cX0_value 44 = .ok (.iload_n 1, 1) := by decide +kernel
theorem dX0_value_45 : decode cX0_value 45 = .ok (.invokevirtual 115, 3) := by decide +kernel
theorem dX0_value_48 : decode cX0_value 48 = .ok (.ifCond .eq 5, 3) := by decide +kernel
theorem dX0_value_51 : decode cX0_value 51 = .ok (.iconst (-1), 1) := by decide +kernel
theorem dX0_value_52 : decode cX0_value 52 = .ok (.ireturn, 1) := by decide +kernel
theorem dX0_value_53 : decode cX0_value 53 = .ok (.iload 8, 2) := by decide +kernel
theorem dX0_value_55 : decode cX0_value 55 = .ok (.invokestatic 118, 3) := by decide +kernel
theorem dX0_value_58 : decode cX0_value 58 = .ok (.istore 11, 2) := by decide +kernel
theorem dX0_value_60 : decode cX0_value 60 = .ok (.iload 10, 2) := by decide +kernel
theorem dX0_value_62 : decode cX0_value 62 = .ok (.invokestatic 118, 3) := by decide +kernel
theorem dX0_value_65 : decode cX0_value 65 = .ok (.istore 12, 2) := by decide +kernel
theorem dX0_value_67 : decode cX0_value 67 = .ok (.iconst 0, 1) := by decide +kernel
theorem dX0_value_68 : decode cX0_value 68 = .ok (.istore 13, 2) := by decide +kernel
theorem dX0_value_70 : decode cX0_value 70 = .ok (.iconst 0, 1) := by decide +kernel
theorem dX0_value_71 : decode cX0_value 71 = .ok (.istore 14, 2) := by decide +kernel
theorem dX0_value_73 : decode cX0_value 73 = .ok (.iload 14, 2) := by decide +kernel
theorem dX0_value_75 : decode cX0_value 75 = .ok (.bipush 8, 2) := by decide +kernel
theorem dX0_value_77 : decode cX0_value 77 = .ok (.if_icmp .ge 78, 3) := by decide +kernel
theorem dX0_value_80 : decode cX0_value 80 = .ok (.iload 9, 2) := by decide +kernel
theorem dX0_value_82 : decode cX0_value 82 = .ok (.getstatic 122, 3) := by decide +kernel
theorem dX0_value_85 : decode cX0_value 85 = .ok (.iload 14, 2) := by decide +kernel
theorem dX0_value_87 : decode cX0_value 87 = .ok (.iaload, 1) := by decide +kernel
theorem dX0_value_88 : decode cX0_value 88 = .ok (.invokestatic 125, 3) := by decide +kernel
theorem dX0_value_91 : decode cX0_value 91 = .ok (.getstatic 128, 3) := by decide +kernel
theorem dX0_value_94 : decode cX0_value 94 = .ok (.iload 14, 2) := by decide +kernel
theorem dX0_value_96 : decode cX0_value 96 = .ok (.iaload, 1) := by decide +kernel
theorem dX0_value_97 : decode cX0_value 97 = .ok (.ifCond .ge 8, 3) := by decide +kernel
theorem dX0_value_100 : decode cX0_value 100 = .ok (.iload 12, 2) := by decide +kernel
theorem dX0_value_102 : decode cX0_value 102 = .ok (.goto 5, 3) := by decide +kernel
theorem dX0_value_105 : decode cX0_value 105 = .ok (.iload 10, 2) := by decide +kernel
theorem dX0_value_107 : decode cX0_value 107 = .ok (.getstatic 128, 3) := by decide +kernel
theorem dX0_value_110 : decode cX0_value 110 = .ok (.iload 14, 2) := by decide +kernel
theorem dX0_value_112 : decode cX0_value 112 = .ok (.iaload, 1) := by decide +kernel
theorem dX0_value_113 : decode cX0_value 113 = .ok (.invokestatic 131, 3) := by decide +kernel
theorem dX0_value_116 : decode cX0_value 116 = .ok (.invokestatic 125, 3) := by decide +kernel
theorem dX0_value_119 : decode cX0_value 119 = .ok (.invokestatic 136, 3) := by decide +kernel
theorem dX0_value_122 : decode cX0_value 122 = .ok (.istore 15, 2) := by decide +kernel
theorem dX0_value_124 : decode cX0_value 124 = .ok (.iload 13, 2) := by decide +kernel
theorem dX0_value_126 : decode cX0_value 126 = .ok (.i2l, 1) := by decide +kernel
theorem dX0_value_127 : decode cX0_value 127 = .ok (.iload 15, 2) := by decide +kernel
theorem dX0_value_129 : decode cX0_value 129 = .ok (.i2l, 1) := by decide +kernel
theorem dX0_value_130 : decode cX0_value 130 = .ok (.aload_n 0, 1) := by decide +kernel
theorem dX0_value_131 : decode cX0_value 131 = .ok (.iload_n 1, 1) := by decide +kernel
theorem dX0_value_132 : decode cX0_value 132 = .ok (.iload 14, 2) := by decide +kernel
theorem dX0_value_134 : decode cX0_value 134 = .ok (.iload 8, 2) := by decide +kernel
theorem dX0_value_136 : decode cX0_value 136 = .ok (.iload 11, 2) := by decide +kernel
theorem dX0_value_138 : decode cX0_value 138 = .ok (.invokevirtual 139, 3) := by decide +kernel
theorem dX0_value_141 : decode cX0_value 141 = .ok (.i2l, 1) := by decide +kernel
theorem dX0_value_142 : decode cX0_value 142 = .ok (.lmul, 1) := by decide +kernel
theorem dX0_value_143 : decode cX0_value 143 = .ok (.ladd, 1) := by decide +kernel
theorem dX0_value_144 : decode cX0_value 144 = .ok (.invokestatic 33, 3) := by decide +kernel
theorem dX0_value_147 : decode cX0_value 147 = .ok (.istore 13, 2) := by decide +kernel
theorem dX0_value_149 : decode cX0_value 149 = .ok (.iinc 14 1, 3) := by decide +kernel
theorem dX0_value_152 : decode cX0_value 152 = .ok (.goto (-79), 3) := by decide +kernel
theorem dX0_value_155 : decode cX0_value 155 = .ok (.iload 13, 2) := by decide +kernel
theorem dX0_value_157 : decode cX0_value 157 = .ok (.ireturn, 1) := by decide +kernel
theorem dX0_same_0 : decode cX0_same 0 = .ok (.aload_n 0, 1) := by decide +kernel
theorem dX0_same_1 : decode cX0_same 1 = .ok (.iload_n 1, 1) := by decide +kernel
theorem dX0_same_2 : decode cX0_same 2 = .ok (.invokevirtual 45, 3) := by decide +kernel
theorem dX0_same_5 : decode cX0_same 5 = .ok (.aload_n 0, 1) := by decide +kernel
theorem dX0_same_6 : decode cX0_same 6 = .ok (.iload_n 2, 1) := by decide +kernel
theorem dX0_same_7 : decode cX0_same 7 = .ok (.invokevirtual 45, 3) := by decide +kernel
theorem dX0_same_10 : decode cX0_same 10 = .ok (.iconst 0, 1) := by decide +kernel
theorem dX0_same_11 : decode cX0_same 11 = .ok (.istore_n 3, 1) := by decide +kernel
theorem dX0_same_12 : decode cX0_same 12 = .ok (.iload_n 3, 1) := by decide +kernel
theorem dX0_same_13 : decode cX0_same 13 = .ok (.bipush 8, 2) := by decide +kernel
theorem dX0_same_15 : decode cX0_same 15 = .ok (.if_icmp .ge 46, 3) := by decide +kernel
theorem dX0_same_18 : decode cX0_same 18 = .ok (.bipush (-4), 2) := by decide +kernel
theorem dX0_same_20 : decode cX0_same 20 = .ok (.istore 4, 2) := by decide +kernel
theorem dX0_same_22 : decode cX0_same 22 = .ok (.iload 4, 2) := by decide +kernel
theorem dX0_same_24 : decode cX0_same 24 = .ok (.iconst 4, 1) := by decide +kernel
theorem dX0_same_25 : decode cX0_same 25 = .ok (.if_icmp .gt 30, 3) := by decide +kernel
theorem dX0_same_28 : decode cX0_same 28 = .ok (.aload_n 0, 1) := by decide +kernel
theorem dX0_same_29 : decode cX0_same 29 = .ok (.iload_n 1, 1) := by decide +kernel
theorem dX0_same_30 : decode cX0_same 30 = .ok (.iload_n 3, 1) := by decide +kernel
theorem dX0_same_31 : decode cX0_same 31 = .ok (.iload 4, 2) := by decide +kernel
theorem dX0_same_33 : decode cX0_same 33 = .ok (.invokevirtual 105, 3) := by decide +kernel
theorem dX0_same_36 : decode cX0_same 36 = .ok (.aload_n 0, 1) := by decide +kernel
theorem dX0_same_37 : decode cX0_same 37 = .ok (.iload_n 2, 1) := by decide +kernel
theorem dX0_same_38 : decode cX0_same 38 = .ok (.iload_n 3, 1) := by decide +kernel
theorem dX0_same_39 : decode cX0_same 39 = .ok (.iload 4, 2) := by decide +kernel
theorem dX0_same_41 : decode cX0_same 41 = .ok (.invokevirtual 105, 3) := by decide +kernel
theorem dX0_same_44 : decode cX0_same 44 = .ok (.if_icmp .eq 5, 3) := by decide +kernel
theorem dX0_same_47 : decode cX0_same 47 = .ok (.iconst 0, 1) := by decide +kernel
theorem dX0_same_48 : decode cX0_same 48 = .ok (.ireturn, 1) := by decide +kernel
theorem dX0_same_49 : decode cX0_same 49 = .ok (.iinc 4 1, 3) := by decide +kernel
theorem dX0_same_52 : decode cX0_same 52 = .ok (.goto (-30), 3) := by decide +kernel
theorem dX0_same_55 : decode cX0_same 55 = .ok (.iinc 3 1, 3) := by decide +kernel
theorem dX0_same_58 : decode cX0_same 58 = .ok (.goto (-46), 3) := by decide +kernel
theorem dX0_same_61 : decode cX0_same 61 = .ok (.iconst 1, 1) := by decide +kernel
theorem dX0_same_62 : decode cX0_same 62 = .ok (.ireturn, 1) := by decide +kernel
theorem dX0_count_0 : decode cX0_count 0 = .ok (.aload_n 0, 1) := by decide +kernel
theorem dX0_count_1 : decode cX0_count 1 = .ok (.getfield 16, 3) := by decide +kernel
theorem dX0_count_4 : decode cX0_count 4 = .ok (.ireturn, 1) := by decide +kernel
theorem dX0_needElement_0 : decode cX0_needElement 0 = .ok (.iload_n 1, 1) := by decide +kernel
theorem dX0_needElement_1 : decode cX0_needElement 1 = .ok (.ifCond .lt 11, 3) := by decide +kernel
theorem dX0_needElement_4 : decode cX0_needElement 4 = .ok (.iload_n 1, 1) := by decide +kernel
theorem dX0_needElement_5 : decode cX0_needElement 5 = .ok (.aload_n 0, 1) := by decide +kernel
theorem dX0_needElement_6 : decode cX0_needElement 6 = .ok (.getfield 16, 3) := by decide +kernel
theorem dX0_needElement_9 : decode cX0_needElement 9 = .ok (.if_icmp .lt 13, 3) := by decide +kernel
theorem dX0_needElement_12 : decode cX0_needElement 12 = .ok (.new 143, 3) := by decide +kernel
theorem dX0_needElement_15 : decode cX0_needElement 15 = .ok (.dup, 1) := by decide +kernel
theorem dX0_needElement_16 : decode cX0_needElement 16 = .ok (.ldc 145, 2) := by decide +kernel
theorem dX0_needElement_18 : decode cX0_needElement 18 = .ok (.invokespecial 147, 3) := by decide +kernel
theorem dX0_needElement_21 : decode cX0_needElement 21 = .ok (.athrow, 1) := by decide +kernel
theorem dX0_needElement_22 : decode cX0_needElement 22 = .ok (.return_, 1) := by decide +kernel
theorem dX0_needRoom_0 : decode cX0_needRoom 0 = .ok (.aload_n 0, 1) := by decide +kernel
theorem dX0_needRoom_1 : decode cX0_needRoom 1 = .ok (.getfield 16, 3) := by decide +kernel
theorem dX0_needRoom_4 : decode cX0_needRoom 4 = .ok (.bipush 60, 2) := by decide +kernel
theorem dX0_needRoom_6 : decode cX0_needRoom 6 = .ok (.if_icmp .lt 13, 3) := by decide +kernel
theorem dX0_needRoom_9 : decode cX0_needRoom 9 = .ok (.new 55, 3) := by decide +kernel
theorem dX0_needRoom_12 : decode cX0_needRoom 12 = .ok (.dup, 1) := by decide +kernel
theorem dX0_needRoom_13 : decode cX0_needRoom 13 = .ok (.ldc 148, 2) := by decide +kernel
theorem dX0_needRoom_15 : decode cX0_needRoom 15 = .ok (.invokespecial 59, 3) := by decide +kernel
theorem dX0_needRoom_18 : decode cX0_needRoom 18 = .ok (.athrow, 1) := by decide +kernel
theorem dX0_needRoom_19 : decode cX0_needRoom 19 = .ok (.return_, 1) := by decide +kernel
theorem dX0_needKind_0 : decode cX0_needKind 0 = .ok (.iload_n 0, 1) := by decide +kernel
theorem dX0_needKind_1 : decode cX0_needKind 1 = .ok (.invokestatic 150, 3) := by decide +kernel
theorem dX0_needKind_4 : decode cX0_needKind 4 = .ok (.ifCond .ne 13, 3) := by decide +kernel
theorem dX0_needKind_7 : decode cX0_needKind 7 = .ok (.new 153, 3) := by decide +kernel
theorem dX0_needKind_10 : decode cX0_needKind 10 = .ok (.dup, 1) := by decide +kernel
theorem dX0_needKind_11 : decode cX0_needKind 11 = .ok (.ldc 155, 2) := by decide +kernel
theorem dX0_needKind_13 : decode cX0_needKind 13 = .ok (.invokespecial 157, 3) := by decide +kernel
theorem dX0_needKind_16 : decode cX0_needKind 16 = .ok (.athrow, 1) := by decide +kernel
theorem dX0_needKind_17 : decode cX0_needKind 17 = .ok (.return_, 1) := by decide +kernel
theorem dX0_needPower_0 : decode cX0_needPower 0 = .ok (.iload_n 0, 1) := by decide +kernel
theorem dX0_needPower_1 : decode cX0_needPower 1 = .ok (.invokestatic 158, 3) := by decide +kernel
theorem dX0_needPower_4 : decode cX0_needPower 4 = .ok (.ifCond .ne 13, 3) := by decide +kernel
theorem dX0_needPower_7 : decode cX0_needPower 7 = .ok (.new 153, 3) := by decide +kernel
theorem dX0_needPower_10 : decode cX0_needPower 10 = .ok (.dup, 1) := by decide +kernel
theorem dX0_needPower_11 : decode cX0_needPower 11 = .ok (.ldc 161, 2) := by decide +kernel
theorem dX0_needPower_13 : decode cX0_needPower 13 = .ok (.invokespecial 157, 3) := by decide +kernel
theorem dX0_needPower_16 : decode cX0_needPower 16 = .ok (.athrow, 1) := by decide +kernel
theorem dX0_needPower_17 : decode cX0_needPower 17 = .ok (.return_, 1) := by decide +kernel
theorem dX0_isKind_0 : decode cX0_isKind 0 = .ok (.iload_n 0, 1) := by decide +kernel
theorem dX0_isKind_1 : decode cX0_isKind 1 = .ok (.ifCond .lt 13, 3) := by decide +kernel
theorem dX0_isKind_4 : decode cX0_isKind 4 = .ok (.iload_n 0, 1) := by decide +kernel
theorem dX0_isKind_5 : decode cX0_isKind 5 = .ok (.bipush 8, 2) := by decide +kernel
theorem dX0_isKind_7 : decode cX0_isKind 7 = .ok (.if_icmp .ge 7, 3) := by decide +kernel
theorem dX0_isKind_10 : decode cX0_isKind 10 = .ok (.iconst 1, 1) := by decide +kernel
theorem dX0_isKind_11 : decode cX0_isKind 11 = .ok (.goto 4, 3) := by decide +kernel
theorem dX0_isKind_14 : decode cX0_isKind 14 = .ok (.iconst 0, 1) := by decide +kernel
theorem dX0_isKind_15 : decode cX0_isKind 15 = .ok (.ireturn, 1) := by decide +kernel
theorem dX0_isPower_0 : decode cX0_isPower 0 = .ok (.iload_n 0, 1) := by decide +kernel
theorem dX0_isPower_1 : decode cX0_isPower 1 = .ok (.bipush (-4), 2) := by decide +kernel
theorem dX0_isPower_3 : decode cX0_isPower 3 = .ok (.if_icmp .lt 12, 3) := by decide +kernel
theorem dX0_isPower_6 : decode cX0_isPower 6 = .ok (.iload_n 0, 1) := by decide +kernel
theorem dX0_isPower_7 : decode cX0_isPower 7 = .ok (.iconst 4, 1) := by decide +kernel
theorem dX0_isPower_8 : decode cX0_isPower 8 = .ok (.if_icmp .gt 7, 3) := by decide +kernel
theorem dX0_isPower_11 : decode cX0_isPower 11 = .ok (.iconst 1, 1) := by decide +kernel
theorem dX0_isPower_12 : decode cX0_isPower 12 = .ok (.goto 4, 3) := by decide +kernel
theorem dX0_isPower_15 : decode cX0_isPower 15 = .ok (.iconst 0, 1) := by decide +kernel
theorem dX0_isPower_16 : decode cX0_isPower 16 = .ok (.ireturn, 1) := by decide +kernel
theorem dX0_reduce_0 : decode cX0_reduce 0 = .ok (.lload_n 0, 1) := by decide +kernel
theorem dX0_reduce_1 : decode cX0_reduce 1 = .ok (.ldc2_w 163, 3) := by decide +kernel
theorem dX0_reduce_4 : decode cX0_reduce 4 = .ok (.lrem, 1) := by decide +kernel
theorem dX0_reduce_5 : decode cX0_reduce 5 = .ok (.lstore_n 2, 1) := by decide +kernel
theorem dX0_reduce_6 : decode cX0_reduce 6 = .ok (.lload_n 2, 1) := by decide +kernel
theorem dX0_reduce_7 : decode cX0_reduce 7 = .ok (.lconst 0, 1) := by decide +kernel
theorem dX0_reduce_8 : decode cX0_reduce 8 = .ok (.lcmp, 1) := by decide +kernel
theorem dX0_reduce_9 : decode cX0_reduce 9 = .ok (.ifCond .ge 11, 3) := by decide +kernel
theorem dX0_reduce_12 : decode cX0_reduce 12 = .ok (.lload_n 2, 1) := by decide +kernel
theorem dX0_reduce_13 : decode cX0_reduce 13 = .ok (.ldc2_w 163, 3) := by decide +kernel
theorem dX0_reduce_16 : decode cX0_reduce 16 = .ok (.ladd, 1) := by decide +kernel
theorem dX0_reduce_17 : decode cX0_reduce 17 = .ok (.goto 4, 3) := by decide +kernel
theorem dX0_reduce_20 : decode cX0_reduce 20 = .ok (.lload_n 2, 1) := by decide +kernel
theorem dX0_reduce_21 : decode cX0_reduce 21 = .ok (.l2i, 1) := by decide +kernel
theorem dX0_reduce_22 : decode cX0_reduce 22 = .ok (.ireturn, 1) := by decide +kernel
theorem dX0_multiply_0 : decode cX0_multiply 0 = .ok (.iload_n 0, 1) := by decide +kernel
theorem dX0_multiply_1 : decode cX0_multiply 1 = .ok (.i2l, 1) := by decide +kernel
theorem dX0_multiply_2 : decode cX0_multiply 2 = .ok (.iload_n 1, 1) := by decide +kernel
theorem dX0_multiply_3 : decode cX0_multiply 3 = .ok (.i2l, 1) := by decide +kernel
theorem dX0_multiply_4 : decode cX0_multiply 4 = .ok (.lmul, 1) := by decide +kernel
theorem dX0_multiply_5 : decode cX0_multiply 5 = .ok (.invokestatic 33, 3) := by decide +kernel
theorem dX0_multiply_8 : decode cX0_multiply 8 = .ok (.ireturn, 1) := by decide +kernel
theorem dX0_power_0 : decode cX0_power 0 = .ok (.iconst 1, 1) := by decide +kernel
theorem dX0_power_1 : decode cX0_power 1 = .ok (.istore_n 2, 1) := by decide +kernel
theorem dX0_power_2 : decode cX0_power 2 = .ok (.bipush 14, 2) := by decide +kernel
theorem dX0_power_4 : decode cX0_power 4 = .ok (.istore_n 3, 1) := by decide +kernel
theorem dX0_power_5 : decode cX0_power 5 = .ok (.iload_n 3, 1) := by decide +kernel
theorem dX0_power_6 : decode cX0_power 6 = .ok (.ifCond .lt 36, 3) := by decide +kernel
theorem dX0_power_9 : decode cX0_power 9 = .ok (.iload_n 2, 1) := by decide +kernel
theorem dX0_power_10 : decode cX0_power 10 = .ok (.i2l, 1) := by decide +kernel
theorem dX0_power_11 : decode cX0_power 11 = .ok (.iload_n 2, 1) := by decide +kernel
theorem dX0_power_12 : decode cX0_power 12 = .ok (.i2l, 1) := by decide +kernel
theorem dX0_power_13 : decode cX0_power 13 = .ok (.lmul, 1) := by decide +kernel
theorem dX0_power_14 : decode cX0_power 14 = .ok (.invokestatic 33, 3) := by decide +kernel
theorem dX0_power_17 : decode cX0_power 17 = .ok (.istore_n 2, 1) := by decide +kernel
theorem dX0_power_18 : decode cX0_power 18 = .ok (.iload_n 1, 1) := by decide +kernel
theorem dX0_power_19 : decode cX0_power 19 = .ok (.iload_n 3, 1) := by decide +kernel
theorem dX0_power_20 : decode cX0_power 20 = .ok (.ishr, 1) := by decide +kernel
theorem dX0_power_21 : decode cX0_power 21 = .ok (.iconst 1, 1) := by decide +kernel
theorem dX0_power_22 : decode cX0_power 22 = .ok (.iand, 1) := by decide +kernel
theorem dX0_power_23 : decode cX0_power 23 = .ok (.iconst 1, 1) := by decide +kernel
theorem dX0_power_24 : decode cX0_power 24 = .ok (.if_icmp .ne 12, 3) := by decide +kernel
theorem dX0_power_27 : decode cX0_power 27 = .ok (.iload_n 2, 1) := by decide +kernel
theorem dX0_power_28 : decode cX0_power 28 = .ok (.i2l, 1) := by decide +kernel
theorem dX0_power_29 : decode cX0_power 29 = .ok (.iload_n 0, 1) := by decide +kernel
theorem dX0_power_30 : decode cX0_power 30 = .ok (.i2l, 1) := by decide +kernel
theorem dX0_power_31 : decode cX0_power 31 = .ok (.lmul, 1) := by decide +kernel
theorem dX0_power_32 : decode cX0_power 32 = .ok (.invokestatic 33, 3) := by decide +kernel
theorem dX0_power_35 : decode cX0_power 35 = .ok (.istore_n 2, 1) := by decide +kernel
theorem dX0_power_36 : decode cX0_power 36 = .ok (.iinc 3 (-1), 3) := by decide +kernel
end
section
theorem dX0_power_39 : decode cX0_power 39 = .ok (.goto (-34), 3) := by decide +kernel
theorem dX0_power_42 : decode cX0_power 42 = .ok (.iload_n 2, 1) := by decide +kernel
theorem dX0_power_43 : decode cX0_power 43 = .ok (.ireturn, 1) := by decide +kernel
theorem dX0_inverse_0 : decode cX0_inverse 0 = .ok (.iload_n 0, 1) := by decide +kernel
theorem dX0_inverse_1 : decode cX0_inverse 1 = .ok (.sipush 32001, 3) := by decide +kernel
theorem dX0_inverse_4 : decode cX0_inverse 4 = .ok (.invokestatic 125, 3) := by decide +kernel
theorem dX0_inverse_7 : decode cX0_inverse 7 = .ok (.ireturn, 1) := by decide +kernel
theorem dX0_divide_0 : decode cX0_divide 0 = .ok (.lload_n 0, 1) := by decide +kernel
theorem dX0_divide_1 : decode cX0_divide 1 = .ok (.invokestatic 33, 3) := by decide +kernel
theorem dX0_divide_4 : decode cX0_divide 4 = .ok (.iload_n 2, 1) := by decide +kernel
theorem dX0_divide_5 : decode cX0_divide 5 = .ok (.i2l, 1) := by decide +kernel
theorem dX0_divide_6 : decode cX0_divide 6 = .ok (.invokestatic 33, 3) := by decide +kernel
theorem dX0_divide_9 : decode cX0_divide 9 = .ok (.invokestatic 118, 3) := by decide +kernel
theorem dX0_divide_12 : decode cX0_divide 12 = .ok (.invokestatic 136, 3) := by decide +kernel
theorem dX0_divide_15 : decode cX0_divide 15 = .ok (.ireturn, 1) := by decide +kernel
theorem dX0_place_0 : decode cX0_place 0 = .ok (.iload_n 0, 1) := by decide +kernel
theorem dX0_place_1 : decode cX0_place 1 = .ok (.bipush 72, 2) := by decide +kernel
theorem dX0_place_3 : decode cX0_place 3 = .ok (.imul, 1) := by decide +kernel
theorem dX0_place_4 : decode cX0_place 4 = .ok (.iload_n 1, 1) := by decide +kernel
theorem dX0_place_5 : decode cX0_place 5 = .ok (.bipush 9, 2) := by decide +kernel
theorem dX0_place_7 : decode cX0_place 7 = .ok (.imul, 1) := by decide +kernel
theorem dX0_place_8 : decode cX0_place 8 = .ok (.iadd, 1) := by decide +kernel
theorem dX0_place_9 : decode cX0_place 9 = .ok (.iload_n 2, 1) := by decide +kernel
theorem dX0_place_10 : decode cX0_place 10 = .ok (.iadd, 1) := by decide +kernel
theorem dX0_place_11 : decode cX0_place 11 = .ok (.bipush (-4), 2) := by decide +kernel
theorem dX0_place_13 : decode cX0_place 13 = .ok (.isub, 1) := by decide +kernel
theorem dX0_place_14 : decode cX0_place 14 = .ok (.ireturn, 1) := by decide +kernel
theorem dX0_number_0 : decode cX0_number 0 = .ok (.iload_n 1, 1) := by decide +kernel
theorem dX0_number_1 : decode cX0_number 1 = .ok (.ifCond .lt 23, 3) := by decide +kernel
theorem dX0_number_4 : decode cX0_number 4 = .ok (.iload_n 1, 1) := by decide +kernel
theorem dX0_number_5 : decode cX0_number 5 = .ok (.bipush 60, 2) := by decide +kernel
theorem dX0_number_7 : decode cX0_number 7 = .ok (.if_icmp .ge 17, 3) := by decide +kernel
theorem dX0_number_10 : decode cX0_number 10 = .ok (.iload_n 2, 1) := by decide +kernel
theorem dX0_number_11 : decode cX0_number 11 = .ok (.invokestatic 150, 3) := by decide +kernel
theorem dX0_number_14 : decode cX0_number 14 = .ok (.ifCond .eq 10, 3) := by decide +kernel
theorem dX0_number_17 : decode cX0_number 17 = .ok (.iload_n 3, 1) := by decide +kernel
theorem dX0_number_18 : decode cX0_number 18 = .ok (.invokestatic 158, 3) := by decide +kernel
theorem dX0_number_21 : decode cX0_number 21 = .ok (.ifCond .ne 5, 3) := by decide +kernel
theorem dX0_number_24 : decode cX0_number 24 = .ok (.iconst 0, 1) := by decide +kernel
theorem dX0_number_25 : decode cX0_number 25 = .ok (.ireturn, 1) := by decide +kernel
theorem dX0_number_26 : decode cX0_number 26 = .ok (.aload_n 0, 1) := by decide +kernel
theorem dX0_number_27 : decode cX0_number 27 = .ok (.getfield 9, 3) := by decide +kernel
theorem dX0_number_30 : decode cX0_number 30 = .ok (.iload_n 1, 1) := by decide +kernel
theorem dX0_number_31 : decode cX0_number 31 = .ok (.iload_n 2, 1) := by decide +kernel
theorem dX0_number_32 : decode cX0_number 32 = .ok (.iload_n 3, 1) := by decide +kernel
theorem dX0_number_33 : decode cX0_number 33 = .ok (.invokestatic 165, 3) := by decide +kernel
theorem dX0_number_36 : decode cX0_number 36 = .ok (.iaload, 1) := by decide +kernel
theorem dX0_number_37 : decode cX0_number 37 = .ok (.ireturn, 1) := by decide +kernel
theorem dX0_setDraft_0 : decode cX0_setDraft 0 = .ok (.aload_n 0, 1) := by decide +kernel
theorem dX0_setDraft_1 : decode cX0_setDraft 1 = .ok (.getfield 16, 3) := by decide +kernel
theorem dX0_setDraft_4 : decode cX0_setDraft 4 = .ok (.bipush 60, 2) := by decide +kernel
theorem dX0_setDraft_6 : decode cX0_setDraft 6 = .ok (.if_icmp .ge 32, 3) := by decide +kernel
theorem dX0_setDraft_9 : decode cX0_setDraft 9 = .ok (.iload_n 1, 1) := by decide +kernel
theorem dX0_setDraft_10 : decode cX0_setDraft 10 = .ok (.invokestatic 150, 3) := by decide +kernel
theorem dX0_setDraft_13 : decode cX0_setDraft 13 = .ok (.ifCond .eq 25, 3) := by decide +kernel
theorem dX0_setDraft_16 : decode cX0_setDraft 16 = .ok (.iload_n 2, 1) := by decide +kernel
theorem dX0_setDraft_17 : decode cX0_setDraft 17 = .ok (.invokestatic 158, 3) := by decide +kernel
theorem dX0_setDraft_20 : decode cX0_setDraft 20 = .ok (.ifCond .eq 18, 3) := by decide +kernel
theorem dX0_setDraft_23 : decode cX0_setDraft 23 = .ok (.aload_n 0, 1) := by decide +kernel
theorem dX0_setDraft_24 : decode cX0_setDraft 24 = .ok (.getfield 9, 3) := by decide +kernel
theorem dX0_setDraft_27 : decode cX0_setDraft 27 = .ok (.aload_n 0, 1) := by decide +kernel
theorem dX0_setDraft_28 : decode cX0_setDraft 28 = .ok (.getfield 16, 3) := by decide +kernel
theorem dX0_setDraft_31 : decode cX0_setDraft 31 = .ok (.iload_n 1, 1) := by decide +kernel
theorem dX0_setDraft_32 : decode cX0_setDraft 32 = .ok (.iload_n 2, 1) := by decide +kernel
theorem dX0_setDraft_33 : decode cX0_setDraft 33 = .ok (.invokestatic 165, 3) := by decide +kernel
theorem dX0_setDraft_36 : decode cX0_setDraft 36 = .ok (.iload_n 3, 1) := by decide +kernel
theorem dX0_setDraft_37 : decode cX0_setDraft 37 = .ok (.iastore, 1) := by decide +kernel
theorem dX0_setDraft_38 : decode cX0_setDraft 38 = .ok (.return_, 1) := by decide +kernel
theorem dX0_clearDraft_0 : decode cX0_clearDraft 0 = .ok (.iconst 0, 1) := by decide +kernel
theorem dX0_clearDraft_1 : decode cX0_clearDraft 1 = .ok (.istore_n 1, 1) := by decide +kernel
theorem dX0_clearDraft_2 : decode cX0_clearDraft 2 = .ok (.iload_n 1, 1) := by decide +kernel
theorem dX0_clearDraft_3 : decode cX0_clearDraft 3 = .ok (.bipush 8, 2) := by decide +kernel
theorem dX0_clearDraft_5 : decode cX0_clearDraft 5 = .ok (.if_icmp .ge 30, 3) := by decide +kernel
theorem dX0_clearDraft_8 : decode cX0_clearDraft 8 = .ok (.bipush (-4), 2) := by decide +kernel
theorem dX0_clearDraft_10 : decode cX0_clearDraft 10 = .ok (.istore_n 2, 1) := by decide +kernel
theorem dX0_clearDraft_11 : decode cX0_clearDraft 11 = .ok (.iload_n 2, 1) := by decide +kernel
theorem dX0_clearDraft_12 : decode cX0_clearDraft 12 = .ok (.iconst 4, 1) := by decide +kernel
theorem dX0_clearDraft_13 : decode cX0_clearDraft 13 = .ok (.if_icmp .gt 16, 3) := by decide +kernel
theorem dX0_clearDraft_16 : decode cX0_clearDraft 16 = .ok (.aload_n 0, 1) := by decide +kernel
theorem dX0_clearDraft_17 : decode cX0_clearDraft 17 = .ok (.iload_n 1, 1) := by decide +kernel
theorem dX0_clearDraft_18 : decode cX0_clearDraft 18 = .ok (.iload_n 2, 1) := by decide +kernel
theorem dX0_clearDraft_19 : decode cX0_clearDraft 19 = .ok (.iconst 0, 1) := by decide +kernel
theorem dX0_clearDraft_20 : decode cX0_clearDraft 20 = .ok (.invokevirtual 37, 3) := by decide +kernel
theorem dX0_clearDraft_23 : decode cX0_clearDraft 23 = .ok (.iinc 2 1, 3) := by decide +kernel
theorem dX0_clearDraft_26 : decode cX0_clearDraft 26 = .ok (.goto (-15), 3) := by decide +kernel
theorem dX0_clearDraft_29 : decode cX0_clearDraft 29 = .ok (.iinc 1 1, 3) := by decide +kernel
theorem dX0_clearDraft_32 : decode cX0_clearDraft 32 = .ok (.goto (-30), 3) := by decide +kernel
theorem dX0_clearDraft_35 : decode cX0_clearDraft 35 = .ok (.return_, 1) := by decide +kernel
theorem dX0_keepDraft_0 : decode cX0_keepDraft 0 = .ok (.aload_n 0, 1) := by decide +kernel
theorem dX0_keepDraft_1 : decode cX0_keepDraft 1 = .ok (.getfield 16, 3) := by decide +kernel
theorem dX0_keepDraft_4 : decode cX0_keepDraft 4 = .ok (.istore_n 1, 1) := by decide +kernel
theorem dX0_keepDraft_5 : decode cX0_keepDraft 5 = .ok (.aload_n 0, 1) := by decide +kernel
theorem dX0_keepDraft_6 : decode cX0_keepDraft 6 = .ok (.aload_n 0, 1) := by decide +kernel
theorem dX0_keepDraft_7 : decode cX0_keepDraft 7 = .ok (.getfield 16, 3) := by decide +kernel
theorem dX0_keepDraft_10 : decode cX0_keepDraft 10 = .ok (.iconst 1, 1) := by decide +kernel
theorem dX0_keepDraft_11 : decode cX0_keepDraft 11 = .ok (.iadd, 1) := by decide +kernel
theorem dX0_keepDraft_12 : decode cX0_keepDraft 12 = .ok (.putfield 16, 3) := by decide +kernel
theorem dX0_keepDraft_15 : decode cX0_keepDraft 15 = .ok (.iload_n 1, 1) := by decide +kernel
theorem dX0_keepDraft_16 : decode cX0_keepDraft 16 = .ok (.ireturn, 1) := by decide +kernel
theorem dX0_countTerms_0 : decode cX0_countTerms 0 = .ok (.iconst 0, 1) := by decide +kernel
theorem dX0_countTerms_1 : decode cX0_countTerms 1 = .ok (.istore 4, 2) := by decide +kernel
theorem dX0_countTerms_3 : decode cX0_countTerms 3 = .ok (.iload_n 2, 1) := by decide +kernel
theorem dX0_countTerms_4 : decode cX0_countTerms 4 = .ok (.istore 5, 2) := by decide +kernel
theorem dX0_countTerms_6 : decode cX0_countTerms 6 = .ok (.iload 5, 2) := by decide +kernel
theorem dX0_countTerms_8 : decode cX0_countTerms 8 = .ok (.iload_n 3, 1) := by decide +kernel
theorem dX0_countTerms_9 : decode cX0_countTerms 9 = .ok (.if_icmp .gt 40, 3) := by decide +kernel
theorem dX0_countTerms_12 : decode cX0_countTerms 12 = .ok (.bipush (-4), 2) := by decide +kernel
theorem dX0_countTerms_14 : decode cX0_countTerms 14 = .ok (.istore 6, 2) := by decide +kernel
theorem dX0_countTerms_16 : decode cX0_countTerms 16 = .ok (.iload 6, 2) := by decide +kernel
theorem dX0_countTerms_18 : decode cX0_countTerms 18 = .ok (.iconst 4, 1) := by decide +kernel
theorem dX0_countTerms_19 : decode cX0_countTerms 19 = .ok (.if_icmp .gt 24, 3) := by decide +kernel
theorem dX0_countTerms_22 : decode cX0_countTerms 22 = .ok (.aload_n 0, 1) := by decide +kernel
theorem dX0_countTerms_23 : decode cX0_countTerms 23 = .ok (.iload_n 1, 1) := by decide +kernel
theorem dX0_countTerms_24 : decode cX0_countTerms 24 = .ok (.iload 5, 2) := by decide +kernel
theorem dX0_countTerms_26 : decode cX0_countTerms 26 = .ok (.iload 6, 2) := by decide +kernel
theorem dX0_countTerms_28 : decode cX0_countTerms 28 = .ok (.invokevirtual 105, 3) := by decide +kernel
theorem dX0_countTerms_31 : decode cX0_countTerms 31 = .ok (.ifCond .eq 6, 3) := by decide +kernel
theorem dX0_countTerms_34 : decode cX0_countTerms 34 = .ok (.iinc 4 1, 3) := by decide +kernel
theorem dX0_countTerms_37 : decode cX0_countTerms 37 = .ok (.iinc 6 1, 3) := by decide +kernel
theorem dX0_countTerms_40 : decode cX0_countTerms 40 = .ok (.goto (-24), 3) := by decide +kernel
theorem dX0_countTerms_43 : decode cX0_countTerms 43 = .ok (.iinc 5 1, 3) := by decide +kernel
theorem dX0_countTerms_46 : decode cX0_countTerms 46 = .ok (.goto (-40), 3) := by decide +kernel
theorem dX0_countTerms_49 : decode cX0_countTerms 49 = .ok (.iload 4, 2) := by decide +kernel
theorem dX0_countTerms_51 : decode cX0_countTerms 51 = .ok (.ireturn, 1) := by decide +kernel
theorem dX0_draftSum_0 : decode cX0_draftSum 0 = .ok (.iconst 0, 1) := by decide +kernel
theorem dX0_draftSum_1 : decode cX0_draftSum 1 = .ok (.istore 4, 2) := by decide +kernel
theorem dX0_draftSum_3 : decode cX0_draftSum 3 = .ok (.iload 4, 2) := by decide +kernel
theorem dX0_draftSum_5 : decode cX0_draftSum 5 = .ok (.bipush 8, 2) := by decide +kernel
theorem dX0_draftSum_7 : decode cX0_draftSum 7 = .ok (.if_icmp .ge 60, 3) := by decide +kernel
theorem dX0_draftSum_10 : decode cX0_draftSum 10 = .ok (.bipush (-4), 2) := by decide +kernel
theorem dX0_draftSum_12 : decode cX0_draftSum 12 = .ok (.istore 5, 2) := by decide +kernel
theorem dX0_draftSum_14 : decode cX0_draftSum 14 = .ok (.iload 5, 2) := by decide +kernel
theorem dX0_draftSum_16 : decode cX0_draftSum 16 = .ok (.iconst 4, 1) := by decide +kernel
theorem dX0_draftSum_17 : decode cX0_draftSum 17 = .ok (.if_icmp .gt 44, 3) := by decide +kernel
theorem dX0_draftSum_20 : decode cX0_draftSum 20 = .ok (.aload_n 0, 1) := by decide +kernel
theorem dX0_draftSum_21 : decode cX0_draftSum 21 = .ok (.iload 4, 2) := by decide +kernel
theorem dX0_draftSum_23 : decode cX0_draftSum 23 = .ok (.iload 5, 2) := by decide +kernel
theorem dX0_draftSum_25 : decode cX0_draftSum 25 = .ok (.aload_n 0, 1) := by decide +kernel
theorem dX0_draftSum_26 : decode cX0_draftSum 26 = .ok (.iload_n 1, 1) := by decide +kernel
theorem dX0_draftSum_27 : decode cX0_draftSum 27 = .ok (.iload 4, 2) := by decide +kernel
theorem dX0_draftSum_29 : decode cX0_draftSum 29 = .ok (.iload 5, 2) := by decide +kernel
theorem dX0_draftSum_31 : decode cX0_draftSum 31 = .ok (.invokevirtual 105, 3) := by decide +kernel
theorem dX0_draftSum_34 : decode cX0_draftSum 34 = .ok (.i2l, 1) := by decide +kernel
theorem dX0_draftSum_35 : decode cX0_draftSum 35 = .ok (.iload_n 3, 1) := by decide +kernel
theorem dX0_draftSum_36 : decode cX0_draftSum 36 = .ok (.i2l, 1) := by decide +kernel
theorem dX0_draftSum_37 : decode cX0_draftSum 37 = .ok (.aload_n 0, 1) := by decide +kernel
theorem dX0_draftSum_38 : decode cX0_draftSum 38 = .ok (.iload_n 2, 1) := by decide +kernel
theorem dX0_draftSum_39 : decode cX0_draftSum 39 = .ok (.iload 4, 2) := by decide +kernel
theorem dX0_draftSum_41 : decode cX0_draftSum 41 = .ok (.iload 5, 2) := by decide +kernel
theorem dX0_draftSum_43 : decode cX0_draftSum 43 = .ok (.invokevirtual 105, 3) := by decide +kernel
theorem dX0_draftSum_46 : decode cX0_draftSum 46 = .ok (.i2l, 1) := by decide +kernel
theorem dX0_draftSum_47 : decode cX0_draftSum 47 = .ok (.lmul, 1) := by decide +kernel
theorem dX0_draftSum_48 : decode cX0_draftSum 48 = .ok (.ladd, 1) := by decide +kernel
theorem dX0_draftSum_49 : decode cX0_draftSum 49 = .ok (.invokestatic 33, 3) := by decide +kernel
theorem dX0_draftSum_52 : decode cX0_draftSum 52 = .ok (.invokevirtual 37, 3) := by decide +kernel
theorem dX0_draftSum_55 : decode cX0_draftSum 55 = .ok (.iinc 5 1, 3) := by decide +kernel
theorem dX0_draftSum_58 : decode cX0_draftSum 58 = .ok (.goto (-44), 3) := by decide +kernel
theorem dX0_draftSum_61 : decode cX0_draftSum 61 = .ok (.iinc 4 1, 3) := by decide +kernel
theorem dX0_draftSum_64 : decode cX0_draftSum 64 = .ok (.goto (-61), 3) := by decide +kernel
theorem dX0_draftSum_67 : decode cX0_draftSum 67 = .ok (.return_, 1) := by decide +kernel
theorem dX0_logMeetsExponential_0 : decode cX0_logMeetsExponential 0 = .ok (.aload_n 0, 1) := by decide +kernel
theorem dX0_logMeetsExponential_1 : decode cX0_logMeetsExponential 1 = .ok (.iload_n 1, 1) := by decide +kernel
theorem dX0_logMeetsExponential_2 : decode cX0_logMeetsExponential 2 = .ok (.iconst 1, 1) := by decide +kernel
theorem dX0_logMeetsExponential_3 : decode cX0_logMeetsExponential 3 = .ok (.iconst 3, 1) := by decide +kernel
theorem dX0_logMeetsExponential_4 : decode cX0_logMeetsExponential 4 = .ok (.invokevirtual 109, 3) := by decide +kernel
theorem dX0_logMeetsExponential_7 : decode cX0_logMeetsExponential 7 = .ok (.ifCond .le 18, 3) := by decide +kernel
theorem dX0_logMeetsExponential_10 : decode cX0_logMeetsExponential 10 = .ok (.aload_n 0, 1) := by decide +kernel
theorem dX0_logMeetsExponential_11 : decode cX0_logMeetsExponential 11 = .ok (.iload_n 2, 1) := by decide +kernel
theorem dX0_logMeetsExponential_12 : decode cX0_logMeetsExponential 12 = .ok (.iconst 4, 1) := by decide +kernel
theorem dX0_logMeetsExponential_13 : decode cX0_logMeetsExponential 13 = .ok (.bipush 7, 2) := by decide +kernel
theorem dX0_logMeetsExponential_15 : decode cX0_logMeetsExponential 15 = .ok (.invokevirtual 109, 3) := by decide +kernel
theorem dX0_logMeetsExponential_18 : decode cX0_logMeetsExponential 18 = .ok (.ifCond .le 7, 3) := by decide +kernel
theorem dX0_logMeetsExponential_21 : decode cX0_logMeetsExponential 21 = .ok (.iconst 1, 1) := by decide +kernel
theorem dX0_logMeetsExponential_22 : decode cX0_logMeetsExponential 22 = .ok (.goto 4, 3) := by decide +kernel
theorem dX0_logMeetsExponential_25 : decode cX0_logMeetsExponential 25 = .ok (.iconst 0, 1) := by decide +kernel
theorem dX0_logMeetsExponential_26 : decode cX0_logMeetsExponential 26 = .ok (.ireturn, 1) := by decide +kernel
theorem dX0_sumUpProduct_0 : decode cX0_sumUpProduct 0 = .ok (.aload_n 0, 1) := by decide +kernel
theorem dX0_sumUpProduct_1 : decode cX0_sumUpProduct 1 = .ok (.invokevirtual 168, 3) := by decide +kernel
theorem dX0_sumUpProduct_4 : decode cX0_sumUpProduct 4 = .ok (.iconst 0, 1) := by decide +kernel
theorem dX0_sumUpProduct_5 : decode cX0_sumUpProduct 5 = .ok (.istore_n 3, 1) := by decide +kernel
theorem dX0_sumUpProduct_6 : decode cX0_sumUpProduct 6 = .ok (.iload_n 3, 1) := by decide +kernel
theorem dX0_sumUpProduct_7 : decode cX0_sumUpProduct 7 = .ok (.bipush 8, 2) := by decide +kernel
theorem dX0_sumUpProduct_9 : decode cX0_sumUpProduct 9 = .ok (.if_icmp .ge 50, 3) := by decide +kernel
theorem dX0_sumUpProduct_12 : decode cX0_sumUpProduct 12 = .ok (.bipush (-4), 2) := by decide +kernel
theorem dX0_sumUpProduct_14 : decode cX0_sumUpProduct 14 = .ok (.istore 4, 2) := by decide +kernel
theorem dX0_sumUpProduct_16 : decode cX0_sumUpProduct 16 = .ok (.iload 4, 2) := by decide +kernel
theorem dX0_sumUpProduct_18 : decode cX0_sumUpProduct 18 = .ok (.iconst 4, 1) := by decide +kernel
theorem dX0_sumUpProduct_19 : decode cX0_sumUpProduct 19 = .ok (.if_icmp .gt 34, 3) := by decide +kernel
theorem dX0_sumUpProduct_22 : decode cX0_sumUpProduct 22 = .ok (.aload_n 0, 1) := by decide +kernel
theorem dX0_sumUpProduct_23 : decode cX0_sumUpProduct 23 = .ok (.iload_n 1, 1) := by decide +kernel
theorem dX0_sumUpProduct_24 : decode cX0_sumUpProduct 24 = .ok (.iload_n 3, 1) := by decide +kernel
theorem dX0_sumUpProduct_25 : decode cX0_sumUpProduct 25 = .ok (.iload 4, 2) := by decide +kernel
theorem dX0_sumUpProduct_27 : decode cX0_sumUpProduct 27 = .ok (.invokevirtual 105, 3) := by decide +kernel
theorem dX0_sumUpProduct_30 : decode cX0_sumUpProduct 30 = .ok (.istore 5, 2) := by decide +kernel
theorem dX0_sumUpProduct_32 : decode cX0_sumUpProduct 32 = .ok (.iload 5, 2) := by decide +kernel
theorem dX0_sumUpProduct_34 : decode cX0_sumUpProduct 34 = .ok (.ifCond .eq 13, 3) := by decide +kernel
theorem dX0_sumUpProduct_37 : decode cX0_sumUpProduct 37 = .ok (.aload_n 0, 1) := by decide +kernel
theorem dX0_sumUpProduct_38 : decode cX0_sumUpProduct 38 = .ok (.iload_n 2, 1) := by decide +kernel
theorem dX0_sumUpProduct_39 : decode cX0_sumUpProduct 39 = .ok (.iload_n 3, 1) := by decide +kernel
theorem dX0_sumUpProduct_40 : decode cX0_sumUpProduct 40 = .ok (.iload 4, 2) := by decide +kernel
theorem dX0_sumUpProduct_42 : decode cX0_sumUpProduct 42 = .ok (.iload 5, 2) := by decide +kernel
theorem dX0_sumUpProduct_44 : decode cX0_sumUpProduct 44 = .ok (.invokevirtual 171, 3) := by decide +kernel
theorem dX0_sumUpProduct_47 : decode cX0_sumUpProduct 47 = .ok (.iinc 4 1, 3) := by decide +kernel
theorem dX0_sumUpProduct_50 : decode cX0_sumUpProduct 50 = .ok (.goto (-34), 3) := by decide +kernel
theorem dX0_sumUpProduct_53 : decode cX0_sumUpProduct 53 = .ok (.iinc 3 1, 3) := by decide +kernel
theorem dX0_sumUpProduct_56 : decode cX0_sumUpProduct 56 = .ok (.goto (-50), 3) := by decide +kernel
theorem dX0_sumUpProduct_59 : decode cX0_sumUpProduct 59 = .ok (.return_, 1) := by decide +kernel
theorem dX0_addMultiple_0 : decode cX0_addMultiple 0 = .ok (.iconst 0, 1) := by decide +kernel
theorem dX0_addMultiple_1 : decode cX0_addMultiple 1 = .ok (.istore 5, 2) := by decide +kernel
theorem dX0_addMultiple_3 : decode cX0_addMultiple 3 = .ok (.iload 5, 2) := by decide +kernel
theorem dX0_addMultiple_5 : decode cX0_addMultiple 5 = .ok (.bipush 8, 2) := by decide +kernel
theorem dX0_addMultiple_7 : decode cX0_addMultiple 7 = .ok (.if_icmp .ge 57, 3) := by decide +kernel
theorem dX0_addMultiple_10 : decode cX0_addMultiple 10 = .ok (.iload 5, 2) := by decide +kernel
theorem dX0_addMultiple_12 : decode cX0_addMultiple 12 = .ok (.iload_n 2, 1) := by decide +kernel
theorem dX0_addMultiple_13 : decode cX0_addMultiple 13 = .ok (.invokestatic 175, 3) := by decide +kernel
theorem dX0_addMultiple_16 : decode cX0_addMultiple 16 = .ok (.istore 6, 2) := by decide +kernel
theorem dX0_addMultiple_18 : decode cX0_addMultiple 18 = .ok (.bipush (-4), 2) := by decide +kernel
theorem dX0_addMultiple_20 : decode cX0_addMultiple 20 = .ok (.istore 7, 2) := by decide +kernel
theorem dX0_addMultiple_22 : decode cX0_addMultiple 22 = .ok (.iload 7, 2) := by decide +kernel
theorem dX0_addMultiple_24 : decode cX0_addMultiple 24 = .ok (.iconst 4, 1) := by decide +kernel
theorem dX0_addMultiple_25 : decode cX0_addMultiple 25 = .ok (.if_icmp .gt 33, 3) := by decide +kernel
theorem dX0_addMultiple_28 : decode cX0_addMultiple 28 = .ok (.aload_n 0, 1) := by decide +kernel
theorem dX0_addMultiple_29 : decode cX0_addMultiple 29 = .ok (.iload 6, 2) := by decide +kernel
theorem dX0_addMultiple_31 : decode cX0_addMultiple 31 = .ok (.iload 7, 2) := by decide +kernel
theorem dX0_addMultiple_33 : decode cX0_addMultiple 33 = .ok (.iload_n 3, 1) := by decide +kernel
theorem dX0_addMultiple_34 : decode cX0_addMultiple 34 = .ok (.iadd, 1) := by decide +kernel
theorem dX0_addMultiple_35 : decode cX0_addMultiple 35 = .ok (.iload 4, 2) := by decide +kernel
theorem dX0_addMultiple_37 : decode cX0_addMultiple 37 = .ok (.i2l, 1) := by decide +kernel
theorem dX0_addMultiple_38 : decode cX0_addMultiple 38 = .ok (.aload_n 0, 1) := by decide +kernel
theorem dX0_addMultiple_39 : decode cX0_addMultiple 39 = .ok (.iload_n 1, 1) := by decide +kernel
theorem dX0_addMultiple_40 : decode cX0_addMultiple 40 = .ok (.iload 5, 2) := by decide +kernel
theorem dX0_addMultiple_42 : decode cX0_addMultiple 42 = .ok (.iload 7, 2) := by decide +kernel
theorem dX0_addMultiple_44 : decode cX0_addMultiple 44 = .ok (.invokevirtual 105, 3) := by decide +kernel
theorem dX0_addMultiple_47 : decode cX0_addMultiple 47 = .ok (.i2l, 1) := by decide +kernel
theorem dX0_addMultiple_48 : decode cX0_addMultiple 48 = .ok (.lmul, 1) := by decide +kernel
theorem dX0_addMultiple_49 : decode cX0_addMultiple 49 = .ok (.invokevirtual 178, 3) := by decide +kernel
theorem dX0_addMultiple_52 : decode cX0_addMultiple 52 = .ok (.iinc 7 1, 3) := by decide +kernel
theorem dX0_addMultiple_55 : decode cX0_addMultiple 55 = .ok (.goto (-33), 3) := by decide +kernel
theorem dX0_addMultiple_58 : decode cX0_addMultiple 58 = .ok (.iinc 5 1, 3) := by decide +kernel
theorem dX0_addMultiple_61 : decode cX0_addMultiple 61 = .ok (.goto (-58), 3) := by decide +kernel
theorem dX0_addMultiple_64 : decode cX0_addMultiple 64 = .ok (.return_, 1) := by decide +kernel
theorem dX0_wideKind_0 : decode cX0_wideKind 0 = .ok (.getstatic 128, 3) := by decide +kernel
theorem dX0_wideKind_3 : decode cX0_wideKind 3 = .ok (.iload_n 0, 1) := by decide +kernel
theorem dX0_wideKind_4 : decode cX0_wideKind 4 = .ok (.iaload, 1) := by decide +kernel
theorem dX0_wideKind_5 : decode cX0_wideKind 5 = .ok (.getstatic 128, 3) := by decide +kernel
theorem dX0_wideKind_8 : decode cX0_wideKind 8 = .ok (.iload_n 1, 1) := by decide +kernel
theorem dX0_wideKind_9 : decode cX0_wideKind 9 = .ok (.iaload, 1) := by decide +kernel
theorem dX0_wideKind_10 : decode cX0_wideKind 10 = .ok (.iadd, 1) := by decide +kernel
theorem dX0_wideKind_11 : decode cX0_wideKind 11 = .ok (.istore_n 2, 1) := by decide +kernel
theorem dX0_wideKind_12 : decode cX0_wideKind 12 = .ok (.iload_n 2, 1) := by decide +kernel
theorem dX0_wideKind_13 : decode cX0_wideKind 13 = .ok (.ifCond .ne 15, 3) := by decide +kernel
theorem dX0_wideKind_16 : decode cX0_wideKind 16 = .ok (.getstatic 122, 3) := by decide +kernel
theorem dX0_wideKind_19 : decode cX0_wideKind 19 = .ok (.iload_n 0, 1) := by decide +kernel
theorem dX0_wideKind_20 : decode cX0_wideKind 20 = .ok (.iaload, 1) := by decide +kernel
theorem dX0_wideKind_21 : decode cX0_wideKind 21 = .ok (.getstatic 122, 3) := by decide +kernel
theorem dX0_wideKind_24 : decode cX0_wideKind 24 = .ok (.iload_n 1, 1) := by decide +kernel
theorem dX0_wideKind_25 : decode cX0_wideKind 25 = .ok (.iaload, 1) := by decide +kernel
theorem dX0_wideKind_26 : decode cX0_wideKind 26 = .ok (.iadd, 1) := by decide +kernel
theorem dX0_wideKind_27 : decode cX0_wideKind 27 = .ok (.ireturn, 1) := by decide +kernel
theorem dX0_wideKind_28 : decode cX0_wideKind 28 = .ok (.getstatic 128, 3) := by decide +kernel
theorem dX0_wideKind_31 : decode cX0_wideKind 31 = .ok (.iconst 4, 1) := by decide +kernel
theorem dX0_wideKind_32 : decode cX0_wideKind 32 = .ok (.iaload, 1) := by decide +kernel
theorem dX0_wideKind_33 : decode cX0_wideKind 33 = .ok (.iconst 2, 1) := by decide +kernel
theorem dX0_wideKind_34 : decode cX0_wideKind 34 = .ok (.imul, 1) := by decide +kernel
theorem dX0_wideKind_35 : decode cX0_wideKind 35 = .ok (.istore_n 3, 1) := by decide +kernel
theorem dX0_wideKind_36 : decode cX0_wideKind 36 = .ok (.bipush 7, 2) := by decide +kernel
theorem dX0_wideKind_38 : decode cX0_wideKind 38 = .ok (.iload_n 2, 1) := by decide +kernel
theorem dX0_wideKind_39 : decode cX0_wideKind 39 = .ok (.iadd, 1) := by decide +kernel
theorem dX0_wideKind_40 : decode cX0_wideKind 40 = .ok (.iload_n 3, 1) := by decide +kernel
theorem dX0_wideKind_41 : decode cX0_wideKind 41 = .ok (.isub, 1) := by decide +kernel
theorem dX0_wideKind_42 : decode cX0_wideKind 42 = .ok (.iload_n 2, 1) := by decide +kernel
theorem dX0_wideKind_43 : decode cX0_wideKind 43 = .ok (.ifCond .le 7, 3) := by decide +kernel
theorem dX0_wideKind_46 : decode cX0_wideKind 46 = .ok (.iconst 1, 1) := by decide +kernel
theorem dX0_wideKind_47 : decode cX0_wideKind 47 = .ok (.goto 4, 3) := by decide +kernel
theorem dX0_wideKind_50 : decode cX0_wideKind 50 = .ok (.iconst 0, 1) := by decide +kernel
theorem dX0_wideKind_51 : decode cX0_wideKind 51 = .ok (.isub, 1) := by decide +kernel
theorem dX0_wideKind_52 : decode cX0_wideKind 52 = .ok (.ireturn, 1) := by decide +kernel
theorem dX0_widePlace_0 : decode cX0_widePlace 0 = .ok (.iload_n 0, 1) := by decide +kernel
theorem dX0_widePlace_1 : decode cX0_widePlace 1 = .ok (.bipush 17, 2) := by decide +kernel
theorem dX0_widePlace_3 : decode cX0_widePlace 3 = .ok (.imul, 1) := by decide +kernel
theorem dX0_widePlace_4 : decode cX0_widePlace 4 = .ok (.iload_n 1, 1) := by decide +kernel
theorem dX0_widePlace_5 : decode cX0_widePlace 5 = .ok (.iadd, 1) := by decide +kernel
theorem dX0_widePlace_6 : decode cX0_widePlace 6 = .ok (.bipush (-8), 2) := by decide +kernel
theorem dX0_widePlace_8 : decode cX0_widePlace 8 = .ok (.isub, 1) := by decide +kernel
theorem dX0_widePlace_9 : decode cX0_widePlace 9 = .ok (.ireturn, 1) := by decide +kernel
theorem dX0_isWidePlace_0 : decode cX0_isWidePlace 0 = .ok (.iload_n 0, 1) := by decide +kernel
theorem dX0_isWidePlace_1 : decode cX0_isWidePlace 1 = .ok (.ifCond .lt 25, 3) := by decide +kernel
theorem dX0_isWidePlace_4 : decode cX0_isWidePlace 4 = .ok (.iload_n 0, 1) := by decide +kernel
theorem dX0_isWidePlace_5 : decode cX0_isWidePlace 5 = .ok (.bipush 15, 2) := by decide +kernel
theorem dX0_isWidePlace_7 : decode cX0_isWidePlace 7 = .ok (.if_icmp .ge 19, 3) := by decide +kernel
theorem dX0_isWidePlace_10 : decode cX0_isWidePlace 10 = .ok (.iload_n 1, 1) := by decide +kernel
theorem dX0_isWidePlace_11 : decode cX0_isWidePlace 11 = .ok (.bipush (-8), 2) := by decide +kernel
theorem dX0_isWidePlace_13 : decode cX0_isWidePlace 13 = .ok (.if_icmp .lt 13, 3) := by decide +kernel
theorem dX0_isWidePlace_16 : decode cX0_isWidePlace 16 = .ok (.iload_n 1, 1) := by decide +kernel
theorem dX0_isWidePlace_17 : decode cX0_isWidePlace 17 = .ok (.bipush 8, 2) := by decide +kernel
theorem dX0_isWidePlace_19 : decode cX0_isWidePlace 19 = .ok (.if_icmp .gt 7, 3) := by decide +kernel
theorem dX0_isWidePlace_22 : decode cX0_isWidePlace 22 = .ok (.iconst 1, 1) := by decide +kernel
theorem dX0_isWidePlace_23 : decode cX0_isWidePlace 23 = .ok (.goto 4, 3) := by decide +kernel
theorem dX0_isWidePlace_26 : decode cX0_isWidePlace 26 = .ok (.iconst 0, 1) := by decide +kernel
theorem dX0_isWidePlace_27 : decode cX0_isWidePlace 27 = .ok (.ireturn, 1) := by decide +kernel
theorem dX0_clearWide_0 : decode cX0_clearWide 0 = .ok (.iconst 0, 1) := by decide +kernel
theorem dX0_clearWide_1 : decode cX0_clearWide 1 = .ok (.istore_n 1, 1) := by decide +kernel
theorem dX0_clearWide_2 : decode cX0_clearWide 2 = .ok (.iload_n 1, 1) := by decide +kernel
theorem dX0_clearWide_3 : decode cX0_clearWide 3 = .ok (.sipush 255, 3) := by decide +kernel
theorem dX0_clearWide_6 : decode cX0_clearWide 6 = .ok (.if_icmp .ge 16, 3) := by decide +kernel
theorem dX0_clearWide_9 : decode cX0_clearWide 9 = .ok (.aload_n 0, 1) := by decide +kernel
theorem dX0_clearWide_10 : decode cX0_clearWide 10 = .ok (.getfield 13, 3) := by decide +kernel
theorem dX0_clearWide_13 : decode cX0_clearWide 13 = .ok (.iload_n 1, 1) := by decide +kernel
theorem dX0_clearWide_14 : decode cX0_clearWide 14 = .ok (.iconst 0, 1) := by decide +kernel
theorem dX0_clearWide_15 : decode cX0_clearWide 15 = .ok (.iastore, 1) := by decide +kernel
theorem dX0_clearWide_16 : decode cX0_clearWide 16 = .ok (.iinc 1 1, 3) := by decide +kernel
theorem dX0_clearWide_19 : decode cX0_clearWide 19 = .ok (.goto (-17), 3) := by decide +kernel
theorem dX0_clearWide_22 : decode cX0_clearWide 22 = .ok (.return_, 1) := by decide +kernel
theorem dX0_addWide_0 : decode cX0_addWide 0 = .ok (.lload_n 3, 1) := by decide +kernel
theorem dX0_addWide_1 : decode cX0_addWide 1 = .ok (.lconst 0, 1) := by decide +kernel
theorem dX0_addWide_2 : decode cX0_addWide 2 = .ok (.lcmp, 1) := by decide +kernel
theorem dX0_addWide_3 : decode cX0_addWide 3 = .ok (.ifCond .eq 38, 3) := by decide +kernel
theorem dX0_addWide_6 : decode cX0_addWide 6 = .ok (.iload_n 1, 1) := by decide +kernel
theorem dX0_addWide_7 : decode cX0_addWide 7 = .ok (.iload_n 2, 1) := by decide +kernel
theorem dX0_addWide_8 : decode cX0_addWide 8 = .ok (.invokestatic 182, 3) := by decide +kernel
theorem dX0_addWide_11 : decode cX0_addWide 11 = .ok (.ifCond .eq 30, 3) := by decide +kernel
theorem dX0_addWide_14 : decode cX0_addWide 14 = .ok (.iload_n 1, 1) := by decide +kernel
theorem dX0_addWide_15 : decode cX0_addWide 15 = .ok (.iload_n 2, 1) := by decide +kernel
theorem dX0_addWide_16 : decode cX0_addWide 16 = .ok (.invokestatic 185, 3) := by decide +kernel
theorem dX0_addWide_19 : decode cX0_addWide 19 = .ok (.istore 5, 2) := by decide +kernel
theorem dX0_addWide_21 : decode cX0_addWide 21 = .ok (.aload_n 0, 1) := by decide +kernel
theorem dX0_addWide_22 : decode cX0_addWide 22 = .ok (.getfield 13, 3) := by decide +kernel
theorem dX0_addWide_25 : decode cX0_addWide 25 = .ok (.iload 5, 2) := by decide +kernel
theorem dX0_addWide_27 : decode cX0_addWide 27 = .ok (.aload_n 0, 1) := by decide +kernel
theorem dX0_addWide_28 : decode cX0_addWide 28 = .ok (.getfield 13, 3) := by decide +kernel
theorem dX0_addWide_31 : decode cX0_addWide 31 = .ok (.iload 5, 2) := by decide +kernel
theorem dX0_addWide_33 : decode cX0_addWide 33 = .ok (.iaload, 1) := by decide +kernel
theorem dX0_addWide_34 : decode cX0_addWide 34 = .ok (.i2l, 1) := by decide +kernel
theorem dX0_addWide_35 : decode cX0_addWide 35 = .ok (.lload_n 3, 1) := by decide +kernel
theorem dX0_addWide_36 : decode cX0_addWide 36 = .ok (.ladd, 1) := by decide +kernel
theorem dX0_addWide_37 : decode cX0_addWide 37 = .ok (.invokestatic 33, 3) := by decide +kernel
theorem dX0_addWide_40 : decode cX0_addWide 40 = .ok (.iastore, 1) := by decide +kernel
theorem dX0_addWide_41 : decode cX0_addWide 41 = .ok (.return_, 1) := by decide +kernel
theorem dX0_wideNumber_0 : decode cX0_wideNumber 0 = .ok (.iload_n 1, 1) := by decide +kernel
theorem dX0_wideNumber_1 : decode cX0_wideNumber 1 = .ok (.iload_n 2, 1) := by decide +kernel
theorem dX0_wideNumber_2 : decode cX0_wideNumber 2 = .ok (.invokestatic 182, 3) := by decide +kernel
theorem dX0_wideNumber_5 : decode cX0_wideNumber 5 = .ok (.ifCond .eq 16, 3) := by decide +kernel
theorem dX0_wideNumber_8 : decode cX0_wideNumber 8 = .ok (.aload_n 0, 1) := by decide +kernel
theorem dX0_wideNumber_9 : decode cX0_wideNumber 9 = .ok (.getfield 13, 3) := by decide +kernel
theorem dX0_wideNumber_12 : decode cX0_wideNumber 12 = .ok (.iload_n 1, 1) := by decide +kernel
theorem dX0_wideNumber_13 : decode cX0_wideNumber 13 = .ok (.iload_n 2, 1) := by decide +kernel
theorem dX0_wideNumber_14 : decode cX0_wideNumber 14 = .ok (.invokestatic 185, 3) := by decide +kernel
theorem dX0_wideNumber_17 : decode cX0_wideNumber 17 = .ok (.iaload, 1) := by decide +kernel
theorem dX0_wideNumber_18 : decode cX0_wideNumber 18 = .ok (.goto 4, 3) := by decide +kernel
theorem dX0_wideNumber_21 : decode cX0_wideNumber 21 = .ok (.iconst 0, 1) := by decide +kernel
theorem dX0_wideNumber_22 : decode cX0_wideNumber 22 = .ok (.ireturn, 1) := by decide +kernel
theorem dX0_productIsTooFar_0 : decode cX0_productIsTooFar 0 = .ok (.iconst 0, 1) := by decide +kernel
theorem dX0_productIsTooFar_1 : decode cX0_productIsTooFar 1 = .ok (.istore_n 1, 1) := by decide +kernel
theorem dX0_productIsTooFar_2 : decode cX0_productIsTooFar 2 = .ok (.iload_n 1, 1) := by decide +kernel
theorem dX0_productIsTooFar_3 : decode cX0_productIsTooFar 3 = .ok (.bipush 15, 2) := by decide +kernel
theorem dX0_productIsTooFar_5 : decode cX0_productIsTooFar 5 = .ok (.if_icmp .ge 51, 3) := by decide +kernel
theorem dX0_productIsTooFar_8 : decode cX0_productIsTooFar 8 = .ok (.iload_n 1, 1) := by decide +kernel
theorem dX0_productIsTooFar_9 : decode cX0_productIsTooFar 9 = .ok (.invokestatic 188, 3) := by decide +kernel
theorem dX0_productIsTooFar_12 : decode cX0_productIsTooFar 12 = .ok (.istore_n 2, 1) := by decide +kernel
theorem dX0_productIsTooFar_13 : decode cX0_productIsTooFar 13 = .ok (.bipush (-8), 2) := by decide +kernel
theorem dX0_productIsTooFar_15 : decode cX0_productIsTooFar 15 = .ok (.istore_n 3, 1) := by decide +kernel
theorem dX0_productIsTooFar_16 : decode cX0_productIsTooFar 16 = .ok (.iload_n 3, 1) := by decide +kernel
theorem dX0_productIsTooFar_17 : decode cX0_productIsTooFar 17 = .ok (.bipush 8, 2) := by decide +kernel
theorem dX0_productIsTooFar_19 : decode cX0_productIsTooFar 19 = .ok (.if_icmp .gt 31, 3) := by decide +kernel
theorem dX0_productIsTooFar_22 : decode cX0_productIsTooFar 22 = .ok (.aload_n 0, 1) := by decide +kernel
theorem dX0_productIsTooFar_23 : decode cX0_productIsTooFar 23 = .ok (.iload_n 1, 1) := by decide +kernel
theorem dX0_productIsTooFar_24 : decode cX0_productIsTooFar 24 = .ok (.iload_n 3, 1) := by decide +kernel
theorem dX0_productIsTooFar_25 : decode cX0_productIsTooFar 25 = .ok (.invokevirtual 191, 3) := by decide +kernel
theorem dX0_productIsTooFar_28 : decode cX0_productIsTooFar 28 = .ok (.ifCond .eq 16, 3) := by decide +kernel
theorem dX0_productIsTooFar_31 : decode cX0_productIsTooFar 31 = .ok (.iload_n 2, 1) := by decide +kernel
theorem dX0_productIsTooFar_32 : decode cX0_productIsTooFar 32 = .ok (.ifCond .eq 10, 3) := by decide +kernel
theorem dX0_productIsTooFar_35 : decode cX0_productIsTooFar 35 = .ok (.iload_n 3, 1) := by decide +kernel
theorem dX0_productIsTooFar_36 : decode cX0_productIsTooFar 36 = .ok (.invokestatic 158, 3) := by decide +kernel
theorem dX0_productIsTooFar_39 : decode cX0_productIsTooFar 39 = .ok (.ifCond .ne 5, 3) := by decide +kernel
theorem dX0_productIsTooFar_42 : decode cX0_productIsTooFar 42 = .ok (.iconst 1, 1) := by decide +kernel
theorem dX0_productIsTooFar_43 : decode cX0_productIsTooFar 43 = .ok (.ireturn, 1) := by decide +kernel
theorem dX0_productIsTooFar_44 : decode cX0_productIsTooFar 44 = .ok (.iinc 3 1, 3) := by decide +kernel
theorem dX0_productIsTooFar_47 : decode cX0_productIsTooFar 47 = .ok (.goto (-31), 3) := by decide +kernel
theorem dX0_productIsTooFar_50 : decode cX0_productIsTooFar 50 = .ok (.iinc 1 1, 3) := by decide +kernel
theorem dX0_productIsTooFar_53 : decode cX0_productIsTooFar 53 = .ok (.goto (-51), 3) := by decide +kernel
theorem dX0_productIsTooFar_56 : decode cX0_productIsTooFar 56 = .ok (.iconst 0, 1) := by decide +kernel
theorem dX0_productIsTooFar_57 : decode cX0_productIsTooFar 57 = .ok (.ireturn, 1) := by decide +kernel
theorem dX0_isKnownWideKind_0 : decode cX0_isKnownWideKind 0 = .ok (.iconst 0, 1) := by decide +kernel
theorem dX0_isKnownWideKind_1 : decode cX0_isKnownWideKind 1 = .ok (.istore_n 1, 1) := by decide +kernel
theorem dX0_isKnownWideKind_2 : decode cX0_isKnownWideKind 2 = .ok (.iload_n 1, 1) := by decide +kernel
theorem dX0_isKnownWideKind_3 : decode cX0_isKnownWideKind 3 = .ok (.bipush 8, 2) := by decide +kernel
theorem dX0_isKnownWideKind_5 : decode cX0_isKnownWideKind 5 = .ok (.if_icmp .ge 20, 3) := by decide +kernel
theorem dX0_isKnownWideKind_8 : decode cX0_isKnownWideKind 8 = .ok (.iload_n 1, 1) := by decide +kernel
theorem dX0_isKnownWideKind_9 : decode cX0_isKnownWideKind 9 = .ok (.iconst 0, 1) := by decide +kernel
theorem dX0_isKnownWideKind_10 : decode cX0_isKnownWideKind 10 = .ok (.invokestatic 175, 3) := by decide +kernel
theorem dX0_isKnownWideKind_13 : decode cX0_isKnownWideKind 13 = .ok (.iload_n 0, 1) := by decide +kernel
theorem dX0_isKnownWideKind_14 : decode cX0_isKnownWideKind 14 = .ok (.if_icmp .ne 5, 3) := by decide +kernel
theorem dX0_isKnownWideKind_17 : decode cX0_isKnownWideKind 17 = .ok (.iconst 1, 1) := by decide +kernel
theorem dX0_isKnownWideKind_18 : decode cX0_isKnownWideKind 18 = .ok (.ireturn, 1) := by decide +kernel
theorem dX0_isKnownWideKind_19 : decode cX0_isKnownWideKind 19 = .ok (.iinc 1 1, 3) := by decide +kernel
theorem dX0_isKnownWideKind_22 : decode cX0_isKnownWideKind 22 = .ok (.goto (-20), 3) := by decide +kernel
theorem dX0_isKnownWideKind_25 : decode cX0_isKnownWideKind 25 = .ok (.iconst 0, 1) := by decide +kernel
theorem dX0_isKnownWideKind_26 : decode cX0_isKnownWideKind 26 = .ok (.ireturn, 1) := by decide +kernel
theorem dX0_draftProduct_0 : decode cX0_draftProduct 0 = .ok (.iconst 0, 1) := by decide +kernel
theorem dX0_draftProduct_1 : decode cX0_draftProduct 1 = .ok (.istore_n 1, 1) := by decide +kernel
theorem dX0_draftProduct_2 : decode cX0_draftProduct 2 = .ok (.iload_n 1, 1) := by decide +kernel
theorem dX0_draftProduct_3 : decode cX0_draftProduct 3 = .ok (.bipush 8, 2) := by decide +kernel
theorem dX0_draftProduct_5 : decode cX0_draftProduct 5 = .ok (.if_icmp .ge 39, 3) := by decide +kernel
theorem dX0_draftProduct_8 : decode cX0_draftProduct 8 = .ok (.bipush (-4), 2) := by decide +kernel
theorem dX0_draftProduct_10 : decode cX0_draftProduct 10 = .ok (.istore_n 2, 1) := by decide +kernel
theorem dX0_draftProduct_11 : decode cX0_draftProduct 11 = .ok (.iload_n 2, 1) := by decide +kernel
theorem dX0_draftProduct_12 : decode cX0_draftProduct 12 = .ok (.iconst 4, 1) := by decide +kernel
theorem dX0_draftProduct_13 : decode cX0_draftProduct 13 = .ok (.if_icmp .gt 25, 3) := by decide +kernel
theorem dX0_draftProduct_16 : decode cX0_draftProduct 16 = .ok (.aload_n 0, 1) := by decide +kernel
theorem dX0_draftProduct_17 : decode cX0_draftProduct 17 = .ok (.iload_n 1, 1) := by decide +kernel
theorem dX0_draftProduct_18 : decode cX0_draftProduct 18 = .ok (.iload_n 2, 1) := by decide +kernel
theorem dX0_draftProduct_19 : decode cX0_draftProduct 19 = .ok (.aload_n 0, 1) := by decide +kernel
theorem dX0_draftProduct_20 : decode cX0_draftProduct 20 = .ok (.iload_n 1, 1) := by decide +kernel
theorem dX0_draftProduct_21 : decode cX0_draftProduct 21 = .ok (.iconst 0, 1) := by decide +kernel
theorem dX0_draftProduct_22 : decode cX0_draftProduct 22 = .ok (.invokestatic 175, 3) := by decide +kernel
theorem dX0_draftProduct_25 : decode cX0_draftProduct 25 = .ok (.iload_n 2, 1) := by decide +kernel
theorem dX0_draftProduct_26 : decode cX0_draftProduct 26 = .ok (.invokevirtual 191, 3) := by decide +kernel
theorem dX0_draftProduct_29 : decode cX0_draftProduct 29 = .ok (.invokevirtual 37, 3) := by decide +kernel
theorem dX0_draftProduct_32 : decode cX0_draftProduct 32 = .ok (.iinc 2 1, 3) := by decide +kernel
theorem dX0_draftProduct_35 : decode cX0_draftProduct 35 = .ok (.goto (-24), 3) := by decide +kernel
theorem dX0_draftProduct_38 : decode cX0_draftProduct 38 = .ok (.iinc 1 1, 3) := by decide +kernel
theorem dX0_draftProduct_41 : decode cX0_draftProduct 41 = .ok (.goto (-39), 3) := by decide +kernel
theorem dX0_draftProduct_44 : decode cX0_draftProduct 44 = .ok (.return_, 1) := by decide +kernel
theorem dX0_slopeNumber_0 : decode cX0_slopeNumber 0 = .ok (.iload_n 3, 1) := by decide +kernel
theorem dX0_slopeNumber_1 : decode cX0_slopeNumber 1 = .ok (.iconst 1, 1) := by decide +kernel
theorem dX0_slopeNumber_2 : decode cX0_slopeNumber 2 = .ok (.iadd, 1) := by decide +kernel
theorem dX0_slopeNumber_3 : decode cX0_slopeNumber 3 = .ok (.i2l, 1) := by decide +kernel
theorem dX0_slopeNumber_4 : decode cX0_slopeNumber 4 = .ok (.aload_n 0, 1) := by decide +kernel
theorem dX0_slopeNumber_5 : decode cX0_slopeNumber 5 = .ok (.iload_n 1, 1) := by decide +kernel
theorem dX0_slopeNumber_6 : decode cX0_slopeNumber 6 = .ok (.iload_n 2, 1) := by decide +kernel
theorem dX0_slopeNumber_7 : decode cX0_slopeNumber 7 = .ok (.iload_n 3, 1) := by decide +kernel
theorem dX0_slopeNumber_8 : decode cX0_slopeNumber 8 = .ok (.iconst 1, 1) := by decide +kernel
theorem dX0_slopeNumber_9 : decode cX0_slopeNumber 9 = .ok (.iadd, 1) := by decide +kernel
theorem dX0_slopeNumber_10 : decode cX0_slopeNumber 10 = .ok (.invokevirtual 105, 3) := by decide +kernel
theorem dX0_slopeNumber_13 : decode cX0_slopeNumber 13 = .ok (.i2l, 1) := by decide +kernel
theorem dX0_slopeNumber_14 : decode cX0_slopeNumber 14 = .ok (.lmul, 1) := by decide +kernel
theorem dX0_slopeNumber_15 : decode cX0_slopeNumber 15 = .ok (.lstore 4, 2) := by decide +kernel
theorem dX0_slopeNumber_17 : decode cX0_slopeNumber 17 = .ok (.lload 4, 2) := by decide +kernel
theorem dX0_slopeNumber_19 : decode cX0_slopeNumber 19 = .ok (.getstatic 128, 3) := by decide +kernel
theorem dX0_slopeNumber_22 : decode cX0_slopeNumber 22 = .ok (.iload_n 2, 1) := by decide +kernel
theorem dX0_slopeNumber_23 : decode cX0_slopeNumber 23 = .ok (.iaload, 1) := by decide +kernel
theorem dX0_slopeNumber_24 : decode cX0_slopeNumber 24 = .ok (.i2l, 1) := by decide +kernel
theorem dX0_slopeNumber_25 : decode cX0_slopeNumber 25 = .ok (.aload_n 0, 1) := by decide +kernel
theorem dX0_slopeNumber_26 : decode cX0_slopeNumber 26 = .ok (.iload_n 1, 1) := by decide +kernel
theorem dX0_slopeNumber_27 : decode cX0_slopeNumber 27 = .ok (.iload_n 2, 1) := by decide +kernel
theorem dX0_slopeNumber_28 : decode cX0_slopeNumber 28 = .ok (.iload_n 3, 1) := by decide +kernel
theorem dX0_slopeNumber_29 : decode cX0_slopeNumber 29 = .ok (.invokevirtual 105, 3) := by decide +kernel
theorem dX0_slopeNumber_32 : decode cX0_slopeNumber 32 = .ok (.i2l, 1) := by decide +kernel
theorem dX0_slopeNumber_33 : decode cX0_slopeNumber 33 = .ok (.lmul, 1) := by decide +kernel
theorem dX0_slopeNumber_34 : decode cX0_slopeNumber 34 = .ok (.ladd, 1) := by decide +kernel
end
section
theorem dX0_slopeNumber_35 : decode cX0_slopeNumber 35 = .ok (.lstore 4, 2) := by decide +kernel
theorem dX0_slopeNumber_37 : decode cX0_slopeNumber 37 = .ok (.iload_n 2, 1) := by decide +kernel
theorem dX0_slopeNumber_38 : decode cX0_slopeNumber 38 = .ok (.iconst 3, 1) := by decide +kernel
theorem dX0_slopeNumber_39 : decode cX0_slopeNumber 39 = .ok (.if_icmp .ge 25, 3) := by decide +kernel
theorem dX0_slopeNumber_42 : decode cX0_slopeNumber 42 = .ok (.lload 4, 2) := by decide +kernel
theorem dX0_slopeNumber_44 : decode cX0_slopeNumber 44 = .ok (.iload_n 2, 1) := by decide +kernel
theorem dX0_slopeNumber_45 : decode cX0_slopeNumber 45 = .ok (.iconst 1, 1) := by decide +kernel
theorem dX0_slopeNumber_46 : decode cX0_slopeNumber 46 = .ok (.iadd, 1) := by decide +kernel
theorem dX0_slopeNumber_47 : decode cX0_slopeNumber 47 = .ok (.i2l, 1) := by decide +kernel
theorem dX0_slopeNumber_48 : decode cX0_slopeNumber 48 = .ok (.aload_n 0, 1) := by decide +kernel
theorem dX0_slopeNumber_49 : decode cX0_slopeNumber 49 = .ok (.iload_n 1, 1) := by decide +kernel
theorem dX0_slopeNumber_50 : decode cX0_slopeNumber 50 = .ok (.iload_n 2, 1) := by decide +kernel
theorem dX0_slopeNumber_51 : decode cX0_slopeNumber 51 = .ok (.iconst 1, 1) := by decide +kernel
theorem dX0_slopeNumber_52 : decode cX0_slopeNumber 52 = .ok (.iadd, 1) := by decide +kernel
theorem dX0_slopeNumber_53 : decode cX0_slopeNumber 53 = .ok (.iload_n 3, 1) := by decide +kernel
theorem dX0_slopeNumber_54 : decode cX0_slopeNumber 54 = .ok (.iconst 1, 1) := by decide +kernel
theorem dX0_slopeNumber_55 : decode cX0_slopeNumber 55 = .ok (.iadd, 1) := by decide +kernel
theorem dX0_slopeNumber_56 : decode cX0_slopeNumber 56 = .ok (.invokevirtual 105, 3) := by decide +kernel
theorem dX0_slopeNumber_59 : decode cX0_slopeNumber 59 = .ok (.i2l, 1) := by decide +kernel
theorem dX0_slopeNumber_60 : decode cX0_slopeNumber 60 = .ok (.lmul, 1) := by decide +kernel
theorem dX0_slopeNumber_61 : decode cX0_slopeNumber 61 = .ok (.ladd, 1) := by decide +kernel
theorem dX0_slopeNumber_62 : decode cX0_slopeNumber 62 = .ok (.lstore 4, 2) := by decide +kernel
theorem dX0_slopeNumber_64 : decode cX0_slopeNumber 64 = .ok (.lload 4, 2) := by decide +kernel
theorem dX0_slopeNumber_66 : decode cX0_slopeNumber 66 = .ok (.invokestatic 33, 3) := by decide +kernel
theorem dX0_slopeNumber_69 : decode cX0_slopeNumber 69 = .ok (.ireturn, 1) := by decide +kernel
theorem dX0_slopeIsTooFar_0 : decode cX0_slopeIsTooFar 0 = .ok (.iconst 0, 1) := by decide +kernel
theorem dX0_slopeIsTooFar_1 : decode cX0_slopeIsTooFar 1 = .ok (.istore_n 2, 1) := by decide +kernel
theorem dX0_slopeIsTooFar_2 : decode cX0_slopeIsTooFar 2 = .ok (.iload_n 2, 1) := by decide +kernel
theorem dX0_slopeIsTooFar_3 : decode cX0_slopeIsTooFar 3 = .ok (.bipush 8, 2) := by decide +kernel
theorem dX0_slopeIsTooFar_5 : decode cX0_slopeIsTooFar 5 = .ok (.if_icmp .ge 22, 3) := by decide +kernel
theorem dX0_slopeIsTooFar_8 : decode cX0_slopeIsTooFar 8 = .ok (.aload_n 0, 1) := by decide +kernel
theorem dX0_slopeIsTooFar_9 : decode cX0_slopeIsTooFar 9 = .ok (.iload_n 1, 1) := by decide +kernel
theorem dX0_slopeIsTooFar_10 : decode cX0_slopeIsTooFar 10 = .ok (.iload_n 2, 1) := by decide +kernel
theorem dX0_slopeIsTooFar_11 : decode cX0_slopeIsTooFar 11 = .ok (.bipush (-5), 2) := by decide +kernel
theorem dX0_slopeIsTooFar_13 : decode cX0_slopeIsTooFar 13 = .ok (.invokevirtual 194, 3) := by decide +kernel
theorem dX0_slopeIsTooFar_16 : decode cX0_slopeIsTooFar 16 = .ok (.ifCond .eq 5, 3) := by decide +kernel
theorem dX0_slopeIsTooFar_19 : decode cX0_slopeIsTooFar 19 = .ok (.iconst 1, 1) := by decide +kernel
theorem dX0_slopeIsTooFar_20 : decode cX0_slopeIsTooFar 20 = .ok (.ireturn, 1) := by decide +kernel
theorem dX0_slopeIsTooFar_21 : decode cX0_slopeIsTooFar 21 = .ok (.iinc 2 1, 3) := by decide +kernel
theorem dX0_slopeIsTooFar_24 : decode cX0_slopeIsTooFar 24 = .ok (.goto (-22), 3) := by decide +kernel
theorem dX0_slopeIsTooFar_27 : decode cX0_slopeIsTooFar 27 = .ok (.iconst 0, 1) := by decide +kernel
theorem dX0_slopeIsTooFar_28 : decode cX0_slopeIsTooFar 28 = .ok (.ireturn, 1) := by decide +kernel
theorem dX0_draftSlope_0 : decode cX0_draftSlope 0 = .ok (.iconst 0, 1) := by decide +kernel
theorem dX0_draftSlope_1 : decode cX0_draftSlope 1 = .ok (.istore_n 2, 1) := by decide +kernel
theorem dX0_draftSlope_2 : decode cX0_draftSlope 2 = .ok (.iload_n 2, 1) := by decide +kernel
theorem dX0_draftSlope_3 : decode cX0_draftSlope 3 = .ok (.bipush 8, 2) := by decide +kernel
theorem dX0_draftSlope_5 : decode cX0_draftSlope 5 = .ok (.if_icmp .ge 36, 3) := by decide +kernel
theorem dX0_draftSlope_8 : decode cX0_draftSlope 8 = .ok (.bipush (-4), 2) := by decide +kernel
theorem dX0_draftSlope_10 : decode cX0_draftSlope 10 = .ok (.istore_n 3, 1) := by decide +kernel
theorem dX0_draftSlope_11 : decode cX0_draftSlope 11 = .ok (.iload_n 3, 1) := by decide +kernel
theorem dX0_draftSlope_12 : decode cX0_draftSlope 12 = .ok (.iconst 4, 1) := by decide +kernel
theorem dX0_draftSlope_13 : decode cX0_draftSlope 13 = .ok (.if_icmp .gt 22, 3) := by decide +kernel
theorem dX0_draftSlope_16 : decode cX0_draftSlope 16 = .ok (.aload_n 0, 1) := by decide +kernel
theorem dX0_draftSlope_17 : decode cX0_draftSlope 17 = .ok (.iload_n 2, 1) := by decide +kernel
theorem dX0_draftSlope_18 : decode cX0_draftSlope 18 = .ok (.iload_n 3, 1) := by decide +kernel
theorem dX0_draftSlope_19 : decode cX0_draftSlope 19 = .ok (.aload_n 0, 1) := by decide +kernel
theorem dX0_draftSlope_20 : decode cX0_draftSlope 20 = .ok (.iload_n 1, 1) := by decide +kernel
theorem dX0_draftSlope_21 : decode cX0_draftSlope 21 = .ok (.iload_n 2, 1) := by decide +kernel
theorem dX0_draftSlope_22 : decode cX0_draftSlope 22 = .ok (.iload_n 3, 1) := by decide +kernel
theorem dX0_draftSlope_23 : decode cX0_draftSlope 23 = .ok (.invokevirtual 194, 3) := by decide +kernel
theorem dX0_draftSlope_26 : decode cX0_draftSlope 26 = .ok (.invokevirtual 37, 3) := by decide +kernel
theorem dX0_draftSlope_29 : decode cX0_draftSlope 29 = .ok (.iinc 3 1, 3) := by decide +kernel
theorem dX0_draftSlope_32 : decode cX0_draftSlope 32 = .ok (.goto (-21), 3) := by decide +kernel
theorem dX0_draftSlope_35 : decode cX0_draftSlope 35 = .ok (.iinc 2 1, 3) := by decide +kernel
theorem dX0_draftSlope_38 : decode cX0_draftSlope 38 = .ok (.goto (-36), 3) := by decide +kernel
theorem dX0_draftSlope_41 : decode cX0_draftSlope 41 = .ok (.return_, 1) := by decide +kernel
theorem dX0_restOf_0 : decode cX0_restOf 0 = .ok (.iload_n 2, 1) := by decide +kernel
theorem dX0_restOf_1 : decode cX0_restOf 1 = .ok (.iconst 3, 1) := by decide +kernel
theorem dX0_restOf_2 : decode cX0_restOf 2 = .ok (.if_icmp .gt 5, 3) := by decide +kernel
theorem dX0_restOf_5 : decode cX0_restOf 5 = .ok (.iconst 0, 1) := by decide +kernel
theorem dX0_restOf_6 : decode cX0_restOf 6 = .ok (.ireturn, 1) := by decide +kernel
theorem dX0_restOf_7 : decode cX0_restOf 7 = .ok (.getstatic 128, 3) := by decide +kernel
theorem dX0_restOf_10 : decode cX0_restOf 10 = .ok (.iload_n 2, 1) := by decide +kernel
theorem dX0_restOf_11 : decode cX0_restOf 11 = .ok (.iaload, 1) := by decide +kernel
theorem dX0_restOf_12 : decode cX0_restOf 12 = .ok (.istore_n 3, 1) := by decide +kernel
theorem dX0_restOf_13 : decode cX0_restOf 13 = .ok (.iconst 0, 1) := by decide +kernel
theorem dX0_restOf_14 : decode cX0_restOf 14 = .ok (.istore 4, 2) := by decide +kernel
theorem dX0_restOf_16 : decode cX0_restOf 16 = .ok (.bipush (-4), 2) := by decide +kernel
theorem dX0_restOf_18 : decode cX0_restOf 18 = .ok (.istore 5, 2) := by decide +kernel
theorem dX0_restOf_20 : decode cX0_restOf 20 = .ok (.iload 5, 2) := by decide +kernel
theorem dX0_restOf_22 : decode cX0_restOf 22 = .ok (.iconst (-1), 1) := by decide +kernel
theorem dX0_restOf_23 : decode cX0_restOf 23 = .ok (.if_icmp .ge 34, 3) := by decide +kernel
theorem dX0_restOf_26 : decode cX0_restOf 26 = .ok (.aload_n 0, 1) := by decide +kernel
theorem dX0_restOf_27 : decode cX0_restOf 27 = .ok (.iload_n 1, 1) := by decide +kernel
theorem dX0_restOf_28 : decode cX0_restOf 28 = .ok (.iload_n 2, 1) := by decide +kernel
theorem dX0_restOf_29 : decode cX0_restOf 29 = .ok (.iload 5, 2) := by decide +kernel
theorem dX0_restOf_31 : decode cX0_restOf 31 = .ok (.invokevirtual 105, 3) := by decide +kernel
theorem dX0_restOf_34 : decode cX0_restOf 34 = .ok (.i2l, 1) := by decide +kernel
theorem dX0_restOf_35 : decode cX0_restOf 35 = .ok (.iload_n 3, 1) := by decide +kernel
theorem dX0_restOf_36 : decode cX0_restOf 36 = .ok (.i2l, 1) := by decide +kernel
theorem dX0_restOf_37 : decode cX0_restOf 37 = .ok (.iload 4, 2) := by decide +kernel
theorem dX0_restOf_39 : decode cX0_restOf 39 = .ok (.i2l, 1) := by decide +kernel
theorem dX0_restOf_40 : decode cX0_restOf 40 = .ok (.lmul, 1) := by decide +kernel
theorem dX0_restOf_41 : decode cX0_restOf 41 = .ok (.lsub, 1) := by decide +kernel
theorem dX0_restOf_42 : decode cX0_restOf 42 = .ok (.iload 5, 2) := by decide +kernel
theorem dX0_restOf_44 : decode cX0_restOf 44 = .ok (.iconst 1, 1) := by decide +kernel
theorem dX0_restOf_45 : decode cX0_restOf 45 = .ok (.iadd, 1) := by decide +kernel
theorem dX0_restOf_46 : decode cX0_restOf 46 = .ok (.invokestatic 197, 3) := by decide +kernel
theorem dX0_restOf_49 : decode cX0_restOf 49 = .ok (.istore 4, 2) := by decide +kernel
theorem dX0_restOf_51 : decode cX0_restOf 51 = .ok (.iinc 5 1, 3) := by decide +kernel
theorem dX0_restOf_54 : decode cX0_restOf 54 = .ok (.goto (-34), 3) := by decide +kernel
theorem dX0_restOf_57 : decode cX0_restOf 57 = .ok (.aload_n 0, 1) := by decide +kernel
theorem dX0_restOf_58 : decode cX0_restOf 58 = .ok (.iload_n 1, 1) := by decide +kernel
theorem dX0_restOf_59 : decode cX0_restOf 59 = .ok (.iload_n 2, 1) := by decide +kernel
theorem dX0_restOf_60 : decode cX0_restOf 60 = .ok (.iconst (-1), 1) := by decide +kernel
theorem dX0_restOf_61 : decode cX0_restOf 61 = .ok (.invokevirtual 105, 3) := by decide +kernel
theorem dX0_restOf_64 : decode cX0_restOf 64 = .ok (.i2l, 1) := by decide +kernel
theorem dX0_restOf_65 : decode cX0_restOf 65 = .ok (.iload_n 3, 1) := by decide +kernel
theorem dX0_restOf_66 : decode cX0_restOf 66 = .ok (.i2l, 1) := by decide +kernel
theorem dX0_restOf_67 : decode cX0_restOf 67 = .ok (.iload 4, 2) := by decide +kernel
theorem dX0_restOf_69 : decode cX0_restOf 69 = .ok (.i2l, 1) := by decide +kernel
theorem dX0_restOf_70 : decode cX0_restOf 70 = .ok (.lmul, 1) := by decide +kernel
theorem dX0_restOf_71 : decode cX0_restOf 71 = .ok (.lsub, 1) := by decide +kernel
theorem dX0_restOf_72 : decode cX0_restOf 72 = .ok (.invokestatic 33, 3) := by decide +kernel
theorem dX0_restOf_75 : decode cX0_restOf 75 = .ok (.ireturn, 1) := by decide +kernel
theorem dX0_hasRest_0 : decode cX0_hasRest 0 = .ok (.iconst 4, 1) := by decide +kernel
theorem dX0_hasRest_1 : decode cX0_hasRest 1 = .ok (.istore_n 2, 1) := by decide +kernel
theorem dX0_hasRest_2 : decode cX0_hasRest 2 = .ok (.iload_n 2, 1) := by decide +kernel
theorem dX0_hasRest_3 : decode cX0_hasRest 3 = .ok (.bipush 8, 2) := by decide +kernel
theorem dX0_hasRest_5 : decode cX0_hasRest 5 = .ok (.if_icmp .ge 20, 3) := by decide +kernel
theorem dX0_hasRest_8 : decode cX0_hasRest 8 = .ok (.aload_n 0, 1) := by decide +kernel
theorem dX0_hasRest_9 : decode cX0_hasRest 9 = .ok (.iload_n 1, 1) := by decide +kernel
theorem dX0_hasRest_10 : decode cX0_hasRest 10 = .ok (.iload_n 2, 1) := by decide +kernel
theorem dX0_hasRest_11 : decode cX0_hasRest 11 = .ok (.invokevirtual 101, 3) := by decide +kernel
theorem dX0_hasRest_14 : decode cX0_hasRest 14 = .ok (.ifCond .eq 5, 3) := by decide +kernel
theorem dX0_hasRest_17 : decode cX0_hasRest 17 = .ok (.iconst 1, 1) := by decide +kernel
theorem dX0_hasRest_18 : decode cX0_hasRest 18 = .ok (.ireturn, 1) := by decide +kernel
theorem dX0_hasRest_19 : decode cX0_hasRest 19 = .ok (.iinc 2 1, 3) := by decide +kernel
theorem dX0_hasRest_22 : decode cX0_hasRest 22 = .ok (.goto (-20), 3) := by decide +kernel
theorem dX0_hasRest_25 : decode cX0_hasRest 25 = .ok (.iconst 0, 1) := by decide +kernel
theorem dX0_hasRest_26 : decode cX0_hasRest 26 = .ok (.ireturn, 1) := by decide +kernel
theorem dX0_integralIsTooFar_0 : decode cX0_integralIsTooFar 0 = .ok (.iconst 0, 1) := by decide +kernel
theorem dX0_integralIsTooFar_1 : decode cX0_integralIsTooFar 1 = .ok (.istore_n 2, 1) := by decide +kernel
theorem dX0_integralIsTooFar_2 : decode cX0_integralIsTooFar 2 = .ok (.iload_n 2, 1) := by decide +kernel
theorem dX0_integralIsTooFar_3 : decode cX0_integralIsTooFar 3 = .ok (.iconst 3, 1) := by decide +kernel
theorem dX0_integralIsTooFar_4 : decode cX0_integralIsTooFar 4 = .ok (.if_icmp .gt 21, 3) := by decide +kernel
theorem dX0_integralIsTooFar_7 : decode cX0_integralIsTooFar 7 = .ok (.aload_n 0, 1) := by decide +kernel
theorem dX0_integralIsTooFar_8 : decode cX0_integralIsTooFar 8 = .ok (.iload_n 1, 1) := by decide +kernel
theorem dX0_integralIsTooFar_9 : decode cX0_integralIsTooFar 9 = .ok (.iload_n 2, 1) := by decide +kernel
theorem dX0_integralIsTooFar_10 : decode cX0_integralIsTooFar 10 = .ok (.iconst 4, 1) := by decide +kernel
theorem dX0_integralIsTooFar_11 : decode cX0_integralIsTooFar 11 = .ok (.invokevirtual 105, 3) := by decide +kernel
theorem dX0_integralIsTooFar_14 : decode cX0_integralIsTooFar 14 = .ok (.ifCond .eq 5, 3) := by decide +kernel
theorem dX0_integralIsTooFar_17 : decode cX0_integralIsTooFar 17 = .ok (.iconst 1, 1) := by decide +kernel
theorem dX0_integralIsTooFar_18 : decode cX0_integralIsTooFar 18 = .ok (.ireturn, 1) := by decide +kernel
theorem dX0_integralIsTooFar_19 : decode cX0_integralIsTooFar 19 = .ok (.iinc 2 1, 3) := by decide +kernel
theorem dX0_integralIsTooFar_22 : decode cX0_integralIsTooFar 22 = .ok (.goto (-20), 3) := by decide +kernel
theorem dX0_integralIsTooFar_25 : decode cX0_integralIsTooFar 25 = .ok (.aload_n 0, 1) := by decide +kernel
theorem dX0_integralIsTooFar_26 : decode cX0_integralIsTooFar 26 = .ok (.iload_n 1, 1) := by decide +kernel
theorem dX0_integralIsTooFar_27 : decode cX0_integralIsTooFar 27 = .ok (.iconst 3, 1) := by decide +kernel
theorem dX0_integralIsTooFar_28 : decode cX0_integralIsTooFar 28 = .ok (.iconst (-1), 1) := by decide +kernel
theorem dX0_integralIsTooFar_29 : decode cX0_integralIsTooFar 29 = .ok (.invokevirtual 105, 3) := by decide +kernel
theorem dX0_integralIsTooFar_32 : decode cX0_integralIsTooFar 32 = .ok (.ifCond .eq 7, 3) := by decide +kernel
theorem dX0_integralIsTooFar_35 : decode cX0_integralIsTooFar 35 = .ok (.iconst 1, 1) := by decide +kernel
theorem dX0_integralIsTooFar_36 : decode cX0_integralIsTooFar 36 = .ok (.goto 4, 3) := by decide +kernel
theorem dX0_integralIsTooFar_39 : decode cX0_integralIsTooFar 39 = .ok (.iconst 0, 1) := by decide +kernel
theorem dX0_integralIsTooFar_40 : decode cX0_integralIsTooFar 40 = .ok (.ireturn, 1) := by decide +kernel
theorem dX0_draftLogIntegral_0 : decode cX0_draftLogIntegral 0 = .ok (.bipush (-3), 2) := by decide +kernel
theorem dX0_draftLogIntegral_2 : decode cX0_draftLogIntegral 2 = .ok (.istore_n 2, 1) := by decide +kernel
theorem dX0_draftLogIntegral_3 : decode cX0_draftLogIntegral 3 = .ok (.iload_n 2, 1) := by decide +kernel
theorem dX0_draftLogIntegral_4 : decode cX0_draftLogIntegral 4 = .ok (.iconst 4, 1) := by decide +kernel
theorem dX0_draftLogIntegral_5 : decode cX0_draftLogIntegral 5 = .ok (.if_icmp .gt 62, 3) := by decide +kernel
theorem dX0_draftLogIntegral_8 : decode cX0_draftLogIntegral 8 = .ok (.iload_n 2, 1) := by decide +kernel
theorem dX0_draftLogIntegral_9 : decode cX0_draftLogIntegral 9 = .ok (.ifCond .eq 52, 3) := by decide +kernel
theorem dX0_draftLogIntegral_12 : decode cX0_draftLogIntegral 12 = .ok (.iconst 0, 1) := by decide +kernel
theorem dX0_draftLogIntegral_13 : decode cX0_draftLogIntegral 13 = .ok (.istore_n 3, 1) := by decide +kernel
theorem dX0_draftLogIntegral_14 : decode cX0_draftLogIntegral 14 = .ok (.iconst 3, 1) := by decide +kernel
theorem dX0_draftLogIntegral_15 : decode cX0_draftLogIntegral 15 = .ok (.istore 4, 2) := by decide +kernel
theorem dX0_draftLogIntegral_17 : decode cX0_draftLogIntegral 17 = .ok (.iload 4, 2) := by decide +kernel
theorem dX0_draftLogIntegral_19 : decode cX0_draftLogIntegral 19 = .ok (.ifCond .lt 42, 3) := by decide +kernel
theorem dX0_draftLogIntegral_22 : decode cX0_draftLogIntegral 22 = .ok (.aload_n 0, 1) := by decide +kernel
theorem dX0_draftLogIntegral_23 : decode cX0_draftLogIntegral 23 = .ok (.iload_n 1, 1) := by decide +kernel
theorem dX0_draftLogIntegral_24 : decode cX0_draftLogIntegral 24 = .ok (.iload 4, 2) := by decide +kernel
theorem dX0_draftLogIntegral_26 : decode cX0_draftLogIntegral 26 = .ok (.iload_n 2, 1) := by decide +kernel
theorem dX0_draftLogIntegral_27 : decode cX0_draftLogIntegral 27 = .ok (.iconst 1, 1) := by decide +kernel
theorem dX0_draftLogIntegral_28 : decode cX0_draftLogIntegral 28 = .ok (.isub, 1) := by decide +kernel
theorem dX0_draftLogIntegral_29 : decode cX0_draftLogIntegral 29 = .ok (.invokevirtual 105, 3) := by decide +kernel
theorem dX0_draftLogIntegral_32 : decode cX0_draftLogIntegral 32 = .ok (.i2l, 1) := by decide +kernel
theorem dX0_draftLogIntegral_33 : decode cX0_draftLogIntegral 33 = .ok (.iload 4, 2) := by decide +kernel
theorem dX0_draftLogIntegral_35 : decode cX0_draftLogIntegral 35 = .ok (.iconst 1, 1) := by decide +kernel
theorem dX0_draftLogIntegral_36 : decode cX0_draftLogIntegral 36 = .ok (.iadd, 1) := by decide +kernel
theorem dX0_draftLogIntegral_37 : decode cX0_draftLogIntegral 37 = .ok (.i2l, 1) := by decide +kernel
theorem dX0_draftLogIntegral_38 : decode cX0_draftLogIntegral 38 = .ok (.iload_n 3, 1) := by decide +kernel
theorem dX0_draftLogIntegral_39 : decode cX0_draftLogIntegral 39 = .ok (.i2l, 1) := by decide +kernel
theorem dX0_draftLogIntegral_40 : decode cX0_draftLogIntegral 40 = .ok (.lmul, 1) := by decide +kernel
theorem dX0_draftLogIntegral_41 : decode cX0_draftLogIntegral 41 = .ok (.lsub, 1) := by decide +kernel
theorem dX0_draftLogIntegral_42 : decode cX0_draftLogIntegral 42 = .ok (.iload_n 2, 1) := by decide +kernel
theorem dX0_draftLogIntegral_43 : decode cX0_draftLogIntegral 43 = .ok (.invokestatic 197, 3) := by decide +kernel
theorem dX0_draftLogIntegral_46 : decode cX0_draftLogIntegral 46 = .ok (.istore_n 3, 1) := by decide +kernel
theorem dX0_draftLogIntegral_47 : decode cX0_draftLogIntegral 47 = .ok (.aload_n 0, 1) := by decide +kernel
theorem dX0_draftLogIntegral_48 : decode cX0_draftLogIntegral 48 = .ok (.iload 4, 2) := by decide +kernel
theorem dX0_draftLogIntegral_50 : decode cX0_draftLogIntegral 50 = .ok (.iload_n 2, 1) := by decide +kernel
theorem dX0_draftLogIntegral_51 : decode cX0_draftLogIntegral 51 = .ok (.iload_n 3, 1) := by decide +kernel
theorem dX0_draftLogIntegral_52 : decode cX0_draftLogIntegral 52 = .ok (.invokevirtual 37, 3) := by decide +kernel
theorem dX0_draftLogIntegral_55 : decode cX0_draftLogIntegral 55 = .ok (.iinc 4 (-1), 3) := by decide +kernel
theorem dX0_draftLogIntegral_58 : decode cX0_draftLogIntegral 58 = .ok (.goto (-41), 3) := by decide +kernel
theorem dX0_draftLogIntegral_61 : decode cX0_draftLogIntegral 61 = .ok (.iinc 2 1, 3) := by decide +kernel
theorem dX0_draftLogIntegral_64 : decode cX0_draftLogIntegral 64 = .ok (.goto (-61), 3) := by decide +kernel
theorem dX0_draftLogIntegral_67 : decode cX0_draftLogIntegral 67 = .ok (.return_, 1) := by decide +kernel
theorem dX0_draftConstantPowerIntegral_0 : decode cX0_draftConstantPowerIntegral 0 = .ok (.iconst 1, 1) := by decide +kernel
theorem dX0_draftConstantPowerIntegral_1 : decode cX0_draftConstantPowerIntegral 1 = .ok (.istore_n 2, 1) := by decide +kernel
theorem dX0_draftConstantPowerIntegral_2 : decode cX0_draftConstantPowerIntegral 2 = .ok (.iload_n 2, 1) := by decide +kernel
theorem dX0_draftConstantPowerIntegral_3 : decode cX0_draftConstantPowerIntegral 3 = .ok (.iconst 3, 1) := by decide +kernel
theorem dX0_draftConstantPowerIntegral_4 : decode cX0_draftConstantPowerIntegral 4 = .ok (.if_icmp .gt 29, 3) := by decide +kernel
theorem dX0_draftConstantPowerIntegral_7 : decode cX0_draftConstantPowerIntegral 7 = .ok (.aload_n 0, 1) := by decide +kernel
theorem dX0_draftConstantPowerIntegral_8 : decode cX0_draftConstantPowerIntegral 8 = .ok (.iload_n 2, 1) := by decide +kernel
theorem dX0_draftConstantPowerIntegral_9 : decode cX0_draftConstantPowerIntegral 9 = .ok (.iconst 0, 1) := by decide +kernel
theorem dX0_draftConstantPowerIntegral_10 : decode cX0_draftConstantPowerIntegral 10 = .ok (.aload_n 0, 1) := by decide +kernel
theorem dX0_draftConstantPowerIntegral_11 : decode cX0_draftConstantPowerIntegral 11 = .ok (.iload_n 1, 1) := by decide +kernel
theorem dX0_draftConstantPowerIntegral_12 : decode cX0_draftConstantPowerIntegral 12 = .ok (.iload_n 2, 1) := by decide +kernel
theorem dX0_draftConstantPowerIntegral_13 : decode cX0_draftConstantPowerIntegral 13 = .ok (.iconst 1, 1) := by decide +kernel
theorem dX0_draftConstantPowerIntegral_14 : decode cX0_draftConstantPowerIntegral 14 = .ok (.isub, 1) := by decide +kernel
theorem dX0_draftConstantPowerIntegral_15 : decode cX0_draftConstantPowerIntegral 15 = .ok (.iconst (-1), 1) := by decide +kernel
theorem dX0_draftConstantPowerIntegral_16 : decode cX0_draftConstantPowerIntegral 16 = .ok (.invokevirtual 105, 3) := by decide +kernel
theorem dX0_draftConstantPowerIntegral_19 : decode cX0_draftConstantPowerIntegral 19 = .ok (.i2l, 1) := by decide +kernel
theorem dX0_draftConstantPowerIntegral_20 : decode cX0_draftConstantPowerIntegral 20 = .ok (.iload_n 2, 1) := by decide +kernel
theorem dX0_draftConstantPowerIntegral_21 : decode cX0_draftConstantPowerIntegral 21 = .ok (.invokestatic 197, 3) := by decide +kernel
theorem dX0_draftConstantPowerIntegral_24 : decode cX0_draftConstantPowerIntegral 24 = .ok (.invokevirtual 37, 3) := by decide +kernel
theorem dX0_draftConstantPowerIntegral_27 : decode cX0_draftConstantPowerIntegral 27 = .ok (.iinc 2 1, 3) := by decide +kernel
theorem dX0_draftConstantPowerIntegral_30 : decode cX0_draftConstantPowerIntegral 30 = .ok (.goto (-28), 3) := by decide +kernel
theorem dX0_draftConstantPowerIntegral_33 : decode cX0_draftConstantPowerIntegral 33 = .ok (.return_, 1) := by decide +kernel
theorem dX0_draftExponentialIntegral_0 : decode cX0_draftExponentialIntegral 0 = .ok (.iconst 4, 1) := by decide +kernel
theorem dX0_draftExponentialIntegral_1 : decode cX0_draftExponentialIntegral 1 = .ok (.istore_n 2, 1) := by decide +kernel
theorem dX0_draftExponentialIntegral_2 : decode cX0_draftExponentialIntegral 2 = .ok (.iload_n 2, 1) := by decide +kernel
theorem dX0_draftExponentialIntegral_3 : decode cX0_draftExponentialIntegral 3 = .ok (.bipush 8, 2) := by decide +kernel
theorem dX0_draftExponentialIntegral_5 : decode cX0_draftExponentialIntegral 5 = .ok (.if_icmp .ge 62, 3) := by decide +kernel
theorem dX0_draftExponentialIntegral_8 : decode cX0_draftExponentialIntegral 8 = .ok (.iconst 0, 1) := by decide +kernel
theorem dX0_draftExponentialIntegral_9 : decode cX0_draftExponentialIntegral 9 = .ok (.istore_n 3, 1) := by decide +kernel
theorem dX0_draftExponentialIntegral_10 : decode cX0_draftExponentialIntegral 10 = .ok (.iconst 4, 1) := by decide +kernel
theorem dX0_draftExponentialIntegral_11 : decode cX0_draftExponentialIntegral 11 = .ok (.istore 4, 2) := by decide +kernel
theorem dX0_draftExponentialIntegral_13 : decode cX0_draftExponentialIntegral 13 = .ok (.iload 4, 2) := by decide +kernel
theorem dX0_draftExponentialIntegral_15 : decode cX0_draftExponentialIntegral 15 = .ok (.bipush (-4), 2) := by decide +kernel
theorem dX0_draftExponentialIntegral_17 : decode cX0_draftExponentialIntegral 17 = .ok (.if_icmp .le 44, 3) := by decide +kernel
theorem dX0_draftExponentialIntegral_20 : decode cX0_draftExponentialIntegral 20 = .ok (.aload_n 0, 1) := by decide +kernel
theorem dX0_draftExponentialIntegral_21 : decode cX0_draftExponentialIntegral 21 = .ok (.iload_n 1, 1) := by decide +kernel
theorem dX0_draftExponentialIntegral_22 : decode cX0_draftExponentialIntegral 22 = .ok (.iload_n 2, 1) := by decide +kernel
theorem dX0_draftExponentialIntegral_23 : decode cX0_draftExponentialIntegral 23 = .ok (.iload 4, 2) := by decide +kernel
theorem dX0_draftExponentialIntegral_25 : decode cX0_draftExponentialIntegral 25 = .ok (.invokevirtual 105, 3) := by decide +kernel
theorem dX0_draftExponentialIntegral_28 : decode cX0_draftExponentialIntegral 28 = .ok (.i2l, 1) := by decide +kernel
theorem dX0_draftExponentialIntegral_29 : decode cX0_draftExponentialIntegral 29 = .ok (.iload 4, 2) := by decide +kernel
theorem dX0_draftExponentialIntegral_31 : decode cX0_draftExponentialIntegral 31 = .ok (.iconst 1, 1) := by decide +kernel
theorem dX0_draftExponentialIntegral_32 : decode cX0_draftExponentialIntegral 32 = .ok (.iadd, 1) := by decide +kernel
theorem dX0_draftExponentialIntegral_33 : decode cX0_draftExponentialIntegral 33 = .ok (.i2l, 1) := by decide +kernel
theorem dX0_draftExponentialIntegral_34 : decode cX0_draftExponentialIntegral 34 = .ok (.iload_n 3, 1) := by decide +kernel
theorem dX0_draftExponentialIntegral_35 : decode cX0_draftExponentialIntegral 35 = .ok (.i2l, 1) := by decide +kernel
theorem dX0_draftExponentialIntegral_36 : decode cX0_draftExponentialIntegral 36 = .ok (.lmul, 1) := by decide +kernel
theorem dX0_draftExponentialIntegral_37 : decode cX0_draftExponentialIntegral 37 = .ok (.lsub, 1) := by decide +kernel
theorem dX0_draftExponentialIntegral_38 : decode cX0_draftExponentialIntegral 38 = .ok (.getstatic 128, 3) := by decide +kernel
theorem dX0_draftExponentialIntegral_41 : decode cX0_draftExponentialIntegral 41 = .ok (.iload_n 2, 1) := by decide +kernel
theorem dX0_draftExponentialIntegral_42 : decode cX0_draftExponentialIntegral 42 = .ok (.iaload, 1) := by decide +kernel
theorem dX0_draftExponentialIntegral_43 : decode cX0_draftExponentialIntegral 43 = .ok (.invokestatic 197, 3) := by decide +kernel
theorem dX0_draftExponentialIntegral_46 : decode cX0_draftExponentialIntegral 46 = .ok (.istore_n 3, 1) := by decide +kernel
theorem dX0_draftExponentialIntegral_47 : decode cX0_draftExponentialIntegral 47 = .ok (.aload_n 0, 1) := by decide +kernel
theorem dX0_draftExponentialIntegral_48 : decode cX0_draftExponentialIntegral 48 = .ok (.iload_n 2, 1) := by decide +kernel
theorem dX0_draftExponentialIntegral_49 : decode cX0_draftExponentialIntegral 49 = .ok (.iload 4, 2) := by decide +kernel
theorem dX0_draftExponentialIntegral_51 : decode cX0_draftExponentialIntegral 51 = .ok (.iload_n 3, 1) := by decide +kernel
theorem dX0_draftExponentialIntegral_52 : decode cX0_draftExponentialIntegral 52 = .ok (.invokevirtual 37, 3) := by decide +kernel
theorem dX0_draftExponentialIntegral_55 : decode cX0_draftExponentialIntegral 55 = .ok (.iinc 4 (-1), 3) := by decide +kernel
theorem dX0_draftExponentialIntegral_58 : decode cX0_draftExponentialIntegral 58 = .ok (.goto (-45), 3) := by decide +kernel
theorem dX0_draftExponentialIntegral_61 : decode cX0_draftExponentialIntegral 61 = .ok (.iinc 2 1, 3) := by decide +kernel
theorem dX0_draftExponentialIntegral_64 : decode cX0_draftExponentialIntegral 64 = .ok (.goto (-62), 3) := by decide +kernel
theorem dX0_draftExponentialIntegral_67 : decode cX0_draftExponentialIntegral 67 = .ok (.return_, 1) := by decide +kernel
theorem dX0_dividesByX_0 : decode cX0_dividesByX 0 = .ok (.iconst 0, 1) := by decide +kernel
theorem dX0_dividesByX_1 : decode cX0_dividesByX 1 = .ok (.istore_n 2, 1) := by decide +kernel
theorem dX0_dividesByX_2 : decode cX0_dividesByX 2 = .ok (.iload_n 2, 1) := by decide +kernel
theorem dX0_dividesByX_3 : decode cX0_dividesByX 3 = .ok (.bipush 8, 2) := by decide +kernel
theorem dX0_dividesByX_5 : decode cX0_dividesByX 5 = .ok (.if_icmp .ge 34, 3) := by decide +kernel
theorem dX0_dividesByX_8 : decode cX0_dividesByX 8 = .ok (.bipush (-4), 2) := by decide +kernel
theorem dX0_dividesByX_10 : decode cX0_dividesByX 10 = .ok (.istore_n 3, 1) := by decide +kernel
theorem dX0_dividesByX_11 : decode cX0_dividesByX 11 = .ok (.iload_n 3, 1) := by decide +kernel
theorem dX0_dividesByX_12 : decode cX0_dividesByX 12 = .ok (.ifCond .ge 21, 3) := by decide +kernel
theorem dX0_dividesByX_15 : decode cX0_dividesByX 15 = .ok (.aload_n 0, 1) := by decide +kernel
theorem dX0_dividesByX_16 : decode cX0_dividesByX 16 = .ok (.iload_n 1, 1) := by decide +kernel
theorem dX0_dividesByX_17 : decode cX0_dividesByX 17 = .ok (.iload_n 2, 1) := by decide +kernel
theorem dX0_dividesByX_18 : decode cX0_dividesByX 18 = .ok (.iload_n 3, 1) := by decide +kernel
theorem dX0_dividesByX_19 : decode cX0_dividesByX 19 = .ok (.invokevirtual 105, 3) := by decide +kernel
theorem dX0_dividesByX_22 : decode cX0_dividesByX 22 = .ok (.ifCond .eq 5, 3) := by decide +kernel
theorem dX0_dividesByX_25 : decode cX0_dividesByX 25 = .ok (.iconst 1, 1) := by decide +kernel
theorem dX0_dividesByX_26 : decode cX0_dividesByX 26 = .ok (.ireturn, 1) := by decide +kernel
theorem dX0_dividesByX_27 : decode cX0_dividesByX 27 = .ok (.iinc 3 1, 3) := by decide +kernel
theorem dX0_dividesByX_30 : decode cX0_dividesByX 30 = .ok (.goto (-19), 3) := by decide +kernel
theorem dX0_dividesByX_33 : decode cX0_dividesByX 33 = .ok (.iinc 2 1, 3) := by decide +kernel
theorem dX0_dividesByX_36 : decode cX0_dividesByX 36 = .ok (.goto (-34), 3) := by decide +kernel
theorem dX0_dividesByX_39 : decode cX0_dividesByX 39 = .ok (.iconst 0, 1) := by decide +kernel
theorem dX0_dividesByX_40 : decode cX0_dividesByX 40 = .ok (.ireturn, 1) := by decide +kernel
theorem dX0_dividesByE_0 : decode cX0_dividesByE 0 = .ok (.aload_n 0, 1) := by decide +kernel
theorem dX0_dividesByE_1 : decode cX0_dividesByE 1 = .ok (.iload_n 1, 1) := by decide +kernel
theorem dX0_dividesByE_2 : decode cX0_dividesByE 2 = .ok (.iconst 4, 1) := by decide +kernel
theorem dX0_dividesByE_3 : decode cX0_dividesByE 3 = .ok (.iconst 5, 1) := by decide +kernel
theorem dX0_dividesByE_4 : decode cX0_dividesByE 4 = .ok (.invokevirtual 109, 3) := by decide +kernel
theorem dX0_dividesByE_7 : decode cX0_dividesByE 7 = .ok (.ifCond .le 7, 3) := by decide +kernel
theorem dX0_dividesByE_10 : decode cX0_dividesByE 10 = .ok (.iconst 1, 1) := by decide +kernel
theorem dX0_dividesByE_11 : decode cX0_dividesByE 11 = .ok (.goto 4, 3) := by decide +kernel
theorem dX0_dividesByE_14 : decode cX0_dividesByE 14 = .ok (.iconst 0, 1) := by decide +kernel
theorem dX0_dividesByE_15 : decode cX0_dividesByE 15 = .ok (.ireturn, 1) := by decide +kernel
theorem dX0_valueInX_0 : decode cX0_valueInX 0 = .ok (.iconst 0, 1) := by decide +kernel
theorem dX0_valueInX_1 : decode cX0_valueInX 1 = .ok (.istore 5, 2) := by decide +kernel
theorem dX0_valueInX_3 : decode cX0_valueInX 3 = .ok (.iconst 4, 1) := by decide +kernel
theorem dX0_valueInX_4 : decode cX0_valueInX 4 = .ok (.istore 6, 2) := by decide +kernel
theorem dX0_valueInX_6 : decode cX0_valueInX 6 = .ok (.iload 6, 2) := by decide +kernel
theorem dX0_valueInX_8 : decode cX0_valueInX 8 = .ok (.ifCond .lt 30, 3) := by decide +kernel
theorem dX0_valueInX_11 : decode cX0_valueInX 11 = .ok (.iload 5, 2) := by decide +kernel
theorem dX0_valueInX_13 : decode cX0_valueInX 13 = .ok (.i2l, 1) := by decide +kernel
theorem dX0_valueInX_14 : decode cX0_valueInX 14 = .ok (.iload_n 3, 1) := by decide +kernel
theorem dX0_valueInX_15 : decode cX0_valueInX 15 = .ok (.i2l, 1) := by decide +kernel
theorem dX0_valueInX_16 : decode cX0_valueInX 16 = .ok (.lmul, 1) := by decide +kernel
theorem dX0_valueInX_17 : decode cX0_valueInX 17 = .ok (.aload_n 0, 1) := by decide +kernel
theorem dX0_valueInX_18 : decode cX0_valueInX 18 = .ok (.iload_n 1, 1) := by decide +kernel
theorem dX0_valueInX_19 : decode cX0_valueInX 19 = .ok (.iload_n 2, 1) := by decide +kernel
theorem dX0_valueInX_20 : decode cX0_valueInX 20 = .ok (.iload 6, 2) := by decide +kernel
theorem dX0_valueInX_22 : decode cX0_valueInX 22 = .ok (.invokevirtual 105, 3) := by decide +kernel
theorem dX0_valueInX_25 : decode cX0_valueInX 25 = .ok (.i2l, 1) := by decide +kernel
theorem dX0_valueInX_26 : decode cX0_valueInX 26 = .ok (.ladd, 1) := by decide +kernel
theorem dX0_valueInX_27 : decode cX0_valueInX 27 = .ok (.invokestatic 33, 3) := by decide +kernel
theorem dX0_valueInX_30 : decode cX0_valueInX 30 = .ok (.istore 5, 2) := by decide +kernel
theorem dX0_valueInX_32 : decode cX0_valueInX 32 = .ok (.iinc 6 (-1), 3) := by decide +kernel
theorem dX0_valueInX_35 : decode cX0_valueInX 35 = .ok (.goto (-29), 3) := by decide +kernel
theorem dX0_valueInX_38 : decode cX0_valueInX 38 = .ok (.iconst 0, 1) := by decide +kernel
theorem dX0_valueInX_39 : decode cX0_valueInX 39 = .ok (.istore 6, 2) := by decide +kernel
theorem dX0_valueInX_41 : decode cX0_valueInX 41 = .ok (.bipush (-4), 2) := by decide +kernel
theorem dX0_valueInX_43 : decode cX0_valueInX 43 = .ok (.istore 7, 2) := by decide +kernel
theorem dX0_valueInX_45 : decode cX0_valueInX 45 = .ok (.iload 7, 2) := by decide +kernel
theorem dX0_valueInX_47 : decode cX0_valueInX 47 = .ok (.ifCond .ge 32, 3) := by decide +kernel
theorem dX0_valueInX_50 : decode cX0_valueInX 50 = .ok (.iload 6, 2) := by decide +kernel
theorem dX0_valueInX_52 : decode cX0_valueInX 52 = .ok (.i2l, 1) := by decide +kernel
theorem dX0_valueInX_53 : decode cX0_valueInX 53 = .ok (.aload_n 0, 1) := by decide +kernel
theorem dX0_valueInX_54 : decode cX0_valueInX 54 = .ok (.iload_n 1, 1) := by decide +kernel
theorem dX0_valueInX_55 : decode cX0_valueInX 55 = .ok (.iload_n 2, 1) := by decide +kernel
theorem dX0_valueInX_56 : decode cX0_valueInX 56 = .ok (.iload 7, 2) := by decide +kernel
theorem dX0_valueInX_58 : decode cX0_valueInX 58 = .ok (.invokevirtual 105, 3) := by decide +kernel
theorem dX0_valueInX_61 : decode cX0_valueInX 61 = .ok (.i2l, 1) := by decide +kernel
theorem dX0_valueInX_62 : decode cX0_valueInX 62 = .ok (.ladd, 1) := by decide +kernel
theorem dX0_valueInX_63 : decode cX0_valueInX 63 = .ok (.invokestatic 33, 3) := by decide +kernel
theorem dX0_valueInX_66 : decode cX0_valueInX 66 = .ok (.iload 4, 2) := by decide +kernel
theorem dX0_valueInX_68 : decode cX0_valueInX 68 = .ok (.invokestatic 136, 3) := by decide +kernel
theorem dX0_valueInX_71 : decode cX0_valueInX 71 = .ok (.istore 6, 2) := by decide +kernel
theorem dX0_valueInX_73 : decode cX0_valueInX 73 = .ok (.iinc 7 1, 3) := by decide +kernel
theorem dX0_valueInX_76 : decode cX0_valueInX 76 = .ok (.goto (-31), 3) := by decide +kernel
theorem dX0_valueInX_79 : decode cX0_valueInX 79 = .ok (.iload 5, 2) := by decide +kernel
theorem dX0_valueInX_81 : decode cX0_valueInX 81 = .ok (.i2l, 1) := by decide +kernel
theorem dX0_valueInX_82 : decode cX0_valueInX 82 = .ok (.iload 6, 2) := by decide +kernel
theorem dX0_valueInX_84 : decode cX0_valueInX 84 = .ok (.i2l, 1) := by decide +kernel
theorem dX0_valueInX_85 : decode cX0_valueInX 85 = .ok (.ladd, 1) := by decide +kernel
theorem dX0_valueInX_86 : decode cX0_valueInX 86 = .ok (.invokestatic 33, 3) := by decide +kernel
theorem dX0_valueInX_89 : decode cX0_valueInX 89 = .ok (.ireturn, 1) := by decide +kernel
theorem dX1_init_0 : decode cX1_init 0 = .ok (.aload_n 0, 1) := by decide +kernel
theorem dX1_init_1 : decode cX1_init 1 = .ok (.invokespecial 1, 3) := by decide +kernel
theorem dX1_init_4 : decode cX1_init 4 = .ok (.aload_n 0, 1) := by decide +kernel
theorem dX1_init_5 : decode cX1_init 5 = .ok (.sipush 4320, 3) := by decide +kernel
theorem dX1_init_8 : decode cX1_init 8 = .ok (.newarray .int, 2) := by decide +kernel
theorem dX1_init_10 : decode cX1_init 10 = .ok (.putfield 7, 3) := by decide +kernel
theorem dX1_init_13 : decode cX1_init 13 = .ok (.aload_n 0, 1) := by decide +kernel
theorem dX1_init_14 : decode cX1_init 14 = .ok (.bipush 72, 2) := by decide +kernel
theorem dX1_init_16 : decode cX1_init 16 = .ok (.newarray .long, 2) := by decide +kernel
theorem dX1_init_18 : decode cX1_init 18 = .ok (.putfield 13, 3) := by decide +kernel
theorem dX1_init_21 : decode cX1_init 21 = .ok (.aload_n 0, 1) := by decide +kernel
theorem dX1_init_22 : decode cX1_init 22 = .ok (.bipush 72, 2) := by decide +kernel
theorem dX1_init_24 : decode cX1_init 24 = .ok (.newarray .long, 2) := by decide +kernel
theorem dX1_init_26 : decode cX1_init 26 = .ok (.putfield 17, 3) := by decide +kernel
theorem dX1_init_29 : decode cX1_init 29 = .ok (.aload_n 0, 1) := by decide +kernel
theorem dX1_init_30 : decode cX1_init 30 = .ok (.bipush 72, 2) := by decide +kernel
theorem dX1_init_32 : decode cX1_init 32 = .ok (.newarray .long, 2) := by decide +kernel
theorem dX1_init_34 : decode cX1_init 34 = .ok (.putfield 20, 3) := by decide +kernel
theorem dX1_init_37 : decode cX1_init 37 = .ok (.aload_n 0, 1) := by decide +kernel
theorem dX1_init_38 : decode cX1_init 38 = .ok (.sipush 304, 3) := by decide +kernel
theorem dX1_init_41 : decode cX1_init 41 = .ok (.newarray .long, 2) := by decide +kernel
theorem dX1_init_43 : decode cX1_init 43 = .ok (.putfield 23, 3) := by decide +kernel
theorem dX1_init_46 : decode cX1_init 46 = .ok (.aload_n 0, 1) := by decide +kernel
theorem dX1_init_47 : decode cX1_init 47 = .ok (.bipush 10, 2) := by decide +kernel
theorem dX1_init_49 : decode cX1_init 49 = .ok (.newarray .long, 2) := by decide +kernel
theorem dX1_init_51 : decode cX1_init 51 = .ok (.putfield 26, 3) := by decide +kernel
theorem dX1_init_54 : decode cX1_init 54 = .ok (.return_, 1) := by decide +kernel
theorem dX1_thrown_0 : decode cX1_thrown 0 = .ok (.aload_n 0, 1) := by decide +kernel
theorem dX1_thrown_1 : decode cX1_thrown 1 = .ok (.getfield 29, 3) := by decide +kernel
theorem dX1_thrown_4 : decode cX1_thrown 4 = .ok (.ireturn, 1) := by decide +kernel
theorem dX1_raise_0 : decode cX1_raise 0 = .ok (.aload_n 0, 1) := by decide +kernel
theorem dX1_raise_1 : decode cX1_raise 1 = .ok (.iload_n 1, 1) := by decide +kernel
theorem dX1_raise_2 : decode cX1_raise 2 = .ok (.putfield 29, 3) := by decide +kernel
theorem dX1_raise_5 : decode cX1_raise 5 = .ok (.iconst 0, 1) := by decide +kernel
theorem dX1_raise_6 : decode cX1_raise 6 = .ok (.ireturn, 1) := by decide +kernel
theorem dX1_in_0 : decode cX1_in 0 = .ok (.lload_n 0, 1) := by decide +kernel
theorem dX1_in_1 : decode cX1_in 1 = .ok (.lload_n 2, 1) := by decide +kernel
theorem dX1_in_2 : decode cX1_in 2 = .ok (.lcmp, 1) := by decide +kernel
theorem dX1_in_3 : decode cX1_in 3 = .ok (.ifCond .lt 14, 3) := by decide +kernel
theorem dX1_in_6 : decode cX1_in 6 = .ok (.lload_n 0, 1) := by decide +kernel
theorem dX1_in_7 : decode cX1_in 7 = .ok (.lload 4, 2) := by decide +kernel
theorem dX1_in_9 : decode cX1_in 9 = .ok (.lcmp, 1) := by decide +kernel
theorem dX1_in_10 : decode cX1_in 10 = .ok (.ifCond .gt 7, 3) := by decide +kernel
theorem dX1_in_13 : decode cX1_in 13 = .ok (.iconst 1, 1) := by decide +kernel
theorem dX1_in_14 : decode cX1_in 14 = .ok (.goto 4, 3) := by decide +kernel
theorem dX1_in_17 : decode cX1_in 17 = .ok (.iconst 0, 1) := by decide +kernel
theorem dX1_in_18 : decode cX1_in 18 = .ok (.ireturn, 1) := by decide +kernel
theorem dX1_modulo_0 : decode cX1_modulo 0 = .ok (.lload_n 0, 1) := by decide +kernel
theorem dX1_modulo_1 : decode cX1_modulo 1 = .ok (.ldc2_w 33, 3) := by decide +kernel
theorem dX1_modulo_4 : decode cX1_modulo 4 = .ok (.lrem, 1) := by decide +kernel
theorem dX1_modulo_5 : decode cX1_modulo 5 = .ok (.lstore_n 2, 1) := by decide +kernel
theorem dX1_modulo_6 : decode cX1_modulo 6 = .ok (.lload_n 2, 1) := by decide +kernel
theorem dX1_modulo_7 : decode cX1_modulo 7 = .ok (.lconst 0, 1) := by decide +kernel
theorem dX1_modulo_8 : decode cX1_modulo 8 = .ok (.lcmp, 1) := by decide +kernel
theorem dX1_modulo_9 : decode cX1_modulo 9 = .ok (.ifCond .ge 11, 3) := by decide +kernel
theorem dX1_modulo_12 : decode cX1_modulo 12 = .ok (.lload_n 2, 1) := by decide +kernel
theorem dX1_modulo_13 : decode cX1_modulo 13 = .ok (.ldc2_w 33, 3) := by decide +kernel
theorem dX1_modulo_16 : decode cX1_modulo 16 = .ok (.ladd, 1) := by decide +kernel
theorem dX1_modulo_17 : decode cX1_modulo 17 = .ok (.goto 4, 3) := by decide +kernel
theorem dX1_modulo_20 : decode cX1_modulo 20 = .ok (.lload_n 2, 1) := by decide +kernel
theorem dX1_modulo_21 : decode cX1_modulo 21 = .ok (.lreturn, 1) := by decide +kernel
theorem dX1_inverse_0 : decode cX1_inverse 0 = .ok (.lconst 1, 1) := by decide +kernel
theorem dX1_inverse_1 : decode cX1_inverse 1 = .ok (.lstore_n 2, 1) := by decide +kernel
theorem dX1_inverse_2 : decode cX1_inverse 2 = .ok (.lload_n 0, 1) := by decide +kernel
theorem dX1_inverse_3 : decode cX1_inverse 3 = .ok (.invokestatic 35, 3) := by decide +kernel
theorem dX1_inverse_6 : decode cX1_inverse 6 = .ok (.lstore 4, 2) := by decide +kernel
theorem dX1_inverse_8 : decode cX1_inverse 8 = .ok (.sipush 32001, 3) := by decide +kernel
theorem dX1_inverse_11 : decode cX1_inverse 11 = .ok (.istore 6, 2) := by decide +kernel
theorem dX1_inverse_13 : decode cX1_inverse 13 = .ok (.iload 6, 2) := by decide +kernel
theorem dX1_inverse_15 : decode cX1_inverse 15 = .ok (.ifCond .le 44, 3) := by decide +kernel
theorem dX1_inverse_18 : decode cX1_inverse 18 = .ok (.iload 6, 2) := by decide +kernel
theorem dX1_inverse_20 : decode cX1_inverse 20 = .ok (.iconst 2, 1) := by decide +kernel
theorem dX1_inverse_21 : decode cX1_inverse 21 = .ok (.irem, 1) := by decide +kernel
theorem dX1_inverse_22 : decode cX1_inverse 22 = .ok (.iconst 1, 1) := by decide +kernel
theorem dX1_inverse_23 : decode cX1_inverse 23 = .ok (.if_icmp .ne 14, 3) := by decide +kernel
theorem dX1_inverse_26 : decode cX1_inverse 26 = .ok (.lload_n 2, 1) := by decide +kernel
theorem dX1_inverse_27 : decode cX1_inverse 27 = .ok (.lload 4, 2) := by decide +kernel
theorem dX1_inverse_29 : decode cX1_inverse 29 = .ok (.lmul, 1) := by decide +kernel
theorem dX1_inverse_30 : decode cX1_inverse 30 = .ok (.ldc2_w 33, 3) := by decide +kernel
theorem dX1_inverse_33 : decode cX1_inverse 33 = .ok (.lrem, 1) := by decide +kernel
theorem dX1_inverse_34 : decode cX1_inverse 34 = .ok (.goto 4, 3) := by decide +kernel
theorem dX1_inverse_37 : decode cX1_inverse 37 = .ok (.lload_n 2, 1) := by decide +kernel
theorem dX1_inverse_38 : decode cX1_inverse 38 = .ok (.lstore_n 2, 1) := by decide +kernel
theorem dX1_inverse_39 : decode cX1_inverse 39 = .ok (.lload 4, 2) := by decide +kernel
theorem dX1_inverse_41 : decode cX1_inverse 41 = .ok (.lload 4, 2) := by decide +kernel
theorem dX1_inverse_43 : decode cX1_inverse 43 = .ok (.lmul, 1) := by decide +kernel
theorem dX1_inverse_44 : decode cX1_inverse 44 = .ok (.ldc2_w 33, 3) := by decide +kernel
theorem dX1_inverse_47 : decode cX1_inverse 47 = .ok (.lrem, 1) := by decide +kernel
theorem dX1_inverse_48 : decode cX1_inverse 48 = .ok (.lstore 4, 2) := by decide +kernel
theorem dX1_inverse_50 : decode cX1_inverse 50 = .ok (.iload 6, 2) := by decide +kernel
theorem dX1_inverse_52 : decode cX1_inverse 52 = .ok (.iconst 2, 1) := by decide +kernel
theorem dX1_inverse_53 : decode cX1_inverse 53 = .ok (.idiv, 1) := by decide +kernel
theorem dX1_inverse_54 : decode cX1_inverse 54 = .ok (.istore 6, 2) := by decide +kernel
theorem dX1_inverse_56 : decode cX1_inverse 56 = .ok (.goto (-43), 3) := by decide +kernel
theorem dX1_inverse_59 : decode cX1_inverse 59 = .ok (.lload_n 2, 1) := by decide +kernel
theorem dX1_inverse_60 : decode cX1_inverse 60 = .ok (.lreturn, 1) := by decide +kernel
theorem dX1_place_0 : decode cX1_place 0 = .ok (.bipush 9, 2) := by decide +kernel
theorem dX1_place_2 : decode cX1_place 2 = .ok (.iload_n 0, 1) := by decide +kernel
theorem dX1_place_3 : decode cX1_place 3 = .ok (.imul, 1) := by decide +kernel
theorem dX1_place_4 : decode cX1_place 4 = .ok (.iload_n 1, 1) := by decide +kernel
theorem dX1_place_5 : decode cX1_place 5 = .ok (.iadd, 1) := by decide +kernel
theorem dX1_place_6 : decode cX1_place 6 = .ok (.iconst 4, 1) := by decide +kernel
theorem dX1_place_7 : decode cX1_place 7 = .ok (.iadd, 1) := by decide +kernel
theorem dX1_place_8 : decode cX1_place 8 = .ok (.ireturn, 1) := by decide +kernel
theorem dX1_exponent_0 : decode cX1_exponent 0 = .ok (.iload_n 0, 1) := by decide +kernel
theorem dX1_exponent_1 : decode cX1_exponent 1 = .ok (.iconst 4, 1) := by decide +kernel
end
section
theorem dX1_exponent_2 : decode cX1_exponent 2 = .ok (.if_icmp .ge 7, 3) := by decide +kernel
theorem dX1_exponent_5 : decode cX1_exponent 5 = .ok (.iconst 0, 1) := by decide +kernel
theorem dX1_exponent_6 : decode cX1_exponent 6 = .ok (.goto 19, 3) := by decide +kernel
theorem dX1_exponent_9 : decode cX1_exponent 9 = .ok (.iload_n 0, 1) := by decide +kernel
theorem dX1_exponent_10 : decode cX1_exponent 10 = .ok (.bipush 6, 2) := by decide +kernel
theorem dX1_exponent_12 : decode cX1_exponent 12 = .ok (.if_icmp .ge 10, 3) := by decide +kernel
theorem dX1_exponent_15 : decode cX1_exponent 15 = .ok (.iload_n 0, 1) := by decide +kernel
theorem dX1_exponent_16 : decode cX1_exponent 16 = .ok (.bipush 6, 2) := by decide +kernel
theorem dX1_exponent_18 : decode cX1_exponent 18 = .ok (.isub, 1) := by decide +kernel
theorem dX1_exponent_19 : decode cX1_exponent 19 = .ok (.goto 6, 3) := by decide +kernel
theorem dX1_exponent_22 : decode cX1_exponent 22 = .ok (.iload_n 0, 1) := by decide +kernel
theorem dX1_exponent_23 : decode cX1_exponent 23 = .ok (.iconst 5, 1) := by decide +kernel
theorem dX1_exponent_24 : decode cX1_exponent 24 = .ok (.isub, 1) := by decide +kernel
theorem dX1_exponent_25 : decode cX1_exponent 25 = .ok (.ireturn, 1) := by decide +kernel
theorem dX1_isThere_0 : decode cX1_isThere 0 = .ok (.iload_n 1, 1) := by decide +kernel
theorem dX1_isThere_1 : decode cX1_isThere 1 = .ok (.i2l, 1) := by decide +kernel
theorem dX1_isThere_2 : decode cX1_isThere 2 = .ok (.lconst 0, 1) := by decide +kernel
theorem dX1_isThere_3 : decode cX1_isThere 3 = .ok (.aload_n 0, 1) := by decide +kernel
theorem dX1_isThere_4 : decode cX1_isThere 4 = .ok (.getfield 39, 3) := by decide +kernel
theorem dX1_isThere_7 : decode cX1_isThere 7 = .ok (.iconst 1, 1) := by decide +kernel
theorem dX1_isThere_8 : decode cX1_isThere 8 = .ok (.isub, 1) := by decide +kernel
theorem dX1_isThere_9 : decode cX1_isThere 9 = .ok (.i2l, 1) := by decide +kernel
theorem dX1_isThere_10 : decode cX1_isThere 10 = .ok (.invokestatic 42, 3) := by decide +kernel
theorem dX1_isThere_13 : decode cX1_isThere 13 = .ok (.ireturn, 1) := by decide +kernel
theorem dX1_may_0 : decode cX1_may 0 = .ok (.aload_n 0, 1) := by decide +kernel
theorem dX1_may_1 : decode cX1_may 1 = .ok (.aload_n 0, 1) := by decide +kernel
theorem dX1_may_2 : decode cX1_may 2 = .ok (.iload_n 1, 1) := by decide +kernel
theorem dX1_may_3 : decode cX1_may 3 = .ok (.invokevirtual 46, 3) := by decide +kernel
theorem dX1_may_6 : decode cX1_may 6 = .ok (.ifCond .eq 11, 3) := by decide +kernel
theorem dX1_may_9 : decode cX1_may 9 = .ok (.aload_n 0, 1) := by decide +kernel
theorem dX1_may_10 : decode cX1_may 10 = .ok (.iload_n 2, 1) := by decide +kernel
theorem dX1_may_11 : decode cX1_may 11 = .ok (.invokevirtual 46, 3) := by decide +kernel
theorem dX1_may_14 : decode cX1_may 14 = .ok (.ifCond .ne 7, 3) := by decide +kernel
theorem dX1_may_17 : decode cX1_may 17 = .ok (.iconst 1, 1) := by decide +kernel
theorem dX1_may_18 : decode cX1_may 18 = .ok (.goto 17, 3) := by decide +kernel
theorem dX1_may_21 : decode cX1_may 21 = .ok (.aload_n 0, 1) := by decide +kernel
theorem dX1_may_22 : decode cX1_may 22 = .ok (.getfield 39, 3) := by decide +kernel
theorem dX1_may_25 : decode cX1_may 25 = .ok (.bipush 60, 2) := by decide +kernel
theorem dX1_may_27 : decode cX1_may 27 = .ok (.if_icmp .ne 7, 3) := by decide +kernel
theorem dX1_may_30 : decode cX1_may 30 = .ok (.iconst 2, 1) := by decide +kernel
theorem dX1_may_31 : decode cX1_may 31 = .ok (.goto 4, 3) := by decide +kernel
theorem dX1_may_34 : decode cX1_may 34 = .ok (.iconst 0, 1) := by decide +kernel
theorem dX1_may_35 : decode cX1_may 35 = .ok (.putfield 29, 3) := by decide +kernel
theorem dX1_may_38 : decode cX1_may 38 = .ok (.aload_n 0, 1) := by decide +kernel
theorem dX1_may_39 : decode cX1_may 39 = .ok (.getfield 29, 3) := by decide +kernel
theorem dX1_may_42 : decode cX1_may 42 = .ok (.ifCond .le 5, 3) := by decide +kernel
theorem dX1_may_45 : decode cX1_may 45 = .ok (.iconst 0, 1) := by decide +kernel
theorem dX1_may_46 : decode cX1_may 46 = .ok (.ireturn, 1) := by decide +kernel
theorem dX1_may_47 : decode cX1_may 47 = .ok (.aload_n 0, 1) := by decide +kernel
theorem dX1_may_48 : decode cX1_may 48 = .ok (.aload_n 0, 1) := by decide +kernel
theorem dX1_may_49 : decode cX1_may 49 = .ok (.getfield 17, 3) := by decide +kernel
theorem dX1_may_52 : decode cX1_may 52 = .ok (.iload_n 1, 1) := by decide +kernel
theorem dX1_may_53 : decode cX1_may 53 = .ok (.invokevirtual 50, 3) := by decide +kernel
theorem dX1_may_56 : decode cX1_may 56 = .ok (.aload_n 0, 1) := by decide +kernel
theorem dX1_may_57 : decode cX1_may 57 = .ok (.aload_n 0, 1) := by decide +kernel
theorem dX1_may_58 : decode cX1_may 58 = .ok (.getfield 20, 3) := by decide +kernel
theorem dX1_may_61 : decode cX1_may 61 = .ok (.iload_n 2, 1) := by decide +kernel
theorem dX1_may_62 : decode cX1_may 62 = .ok (.invokevirtual 50, 3) := by decide +kernel
theorem dX1_may_65 : decode cX1_may 65 = .ok (.iconst 1, 1) := by decide +kernel
theorem dX1_may_66 : decode cX1_may 66 = .ok (.ireturn, 1) := by decide +kernel
theorem dX1_load_0 : decode cX1_load 0 = .ok (.iconst 0, 1) := by decide +kernel
theorem dX1_load_1 : decode cX1_load 1 = .ok (.istore_n 3, 1) := by decide +kernel
theorem dX1_load_2 : decode cX1_load 2 = .ok (.iload_n 3, 1) := by decide +kernel
theorem dX1_load_3 : decode cX1_load 3 = .ok (.bipush 72, 2) := by decide +kernel
theorem dX1_load_5 : decode cX1_load 5 = .ok (.if_icmp .ge 24, 3) := by decide +kernel
theorem dX1_load_8 : decode cX1_load 8 = .ok (.aload_n 1, 1) := by decide +kernel
theorem dX1_load_9 : decode cX1_load 9 = .ok (.iload_n 3, 1) := by decide +kernel
theorem dX1_load_10 : decode cX1_load 10 = .ok (.aload_n 0, 1) := by decide +kernel
theorem dX1_load_11 : decode cX1_load 11 = .ok (.getfield 7, 3) := by decide +kernel
theorem dX1_load_14 : decode cX1_load 14 = .ok (.bipush 72, 2) := by decide +kernel
theorem dX1_load_16 : decode cX1_load 16 = .ok (.iload_n 2, 1) := by decide +kernel
theorem dX1_load_17 : decode cX1_load 17 = .ok (.imul, 1) := by decide +kernel
theorem dX1_load_18 : decode cX1_load 18 = .ok (.iload_n 3, 1) := by decide +kernel
theorem dX1_load_19 : decode cX1_load 19 = .ok (.iadd, 1) := by decide +kernel
theorem dX1_load_20 : decode cX1_load 20 = .ok (.iaload, 1) := by decide +kernel
theorem dX1_load_21 : decode cX1_load 21 = .ok (.i2l, 1) := by decide +kernel
theorem dX1_load_22 : decode cX1_load 22 = .ok (.lastore, 1) := by decide +kernel
theorem dX1_load_23 : decode cX1_load 23 = .ok (.iinc 3 1, 3) := by decide +kernel
theorem dX1_load_26 : decode cX1_load 26 = .ok (.goto (-24), 3) := by decide +kernel
theorem dX1_load_29 : decode cX1_load 29 = .ok (.return_, 1) := by decide +kernel
theorem dX1_keep_0 : decode cX1_keep 0 = .ok (.aload_n 0, 1) := by decide +kernel
theorem dX1_keep_1 : decode cX1_keep 1 = .ok (.iconst 0, 1) := by decide +kernel
theorem dX1_keep_2 : decode cX1_keep 2 = .ok (.putfield 29, 3) := by decide +kernel
theorem dX1_keep_5 : decode cX1_keep 5 = .ok (.iconst 0, 1) := by decide +kernel
theorem dX1_keep_6 : decode cX1_keep 6 = .ok (.istore_n 1, 1) := by decide +kernel
theorem dX1_keep_7 : decode cX1_keep 7 = .ok (.iload_n 1, 1) := by decide +kernel
theorem dX1_keep_8 : decode cX1_keep 8 = .ok (.bipush 72, 2) := by decide +kernel
theorem dX1_keep_10 : decode cX1_keep 10 = .ok (.if_icmp .ge 30, 3) := by decide +kernel
theorem dX1_keep_13 : decode cX1_keep 13 = .ok (.aload_n 0, 1) := by decide +kernel
theorem dX1_keep_14 : decode cX1_keep 14 = .ok (.getfield 7, 3) := by decide +kernel
theorem dX1_keep_17 : decode cX1_keep 17 = .ok (.bipush 72, 2) := by decide +kernel
theorem dX1_keep_19 : decode cX1_keep 19 = .ok (.aload_n 0, 1) := by decide +kernel
theorem dX1_keep_20 : decode cX1_keep 20 = .ok (.getfield 39, 3) := by decide +kernel
theorem dX1_keep_23 : decode cX1_keep 23 = .ok (.imul, 1) := by decide +kernel
theorem dX1_keep_24 : decode cX1_keep 24 = .ok (.iload_n 1, 1) := by decide +kernel
theorem dX1_keep_25 : decode cX1_keep 25 = .ok (.iadd, 1) := by decide +kernel
theorem dX1_keep_26 : decode cX1_keep 26 = .ok (.aload_n 0, 1) := by decide +kernel
theorem dX1_keep_27 : decode cX1_keep 27 = .ok (.getfield 13, 3) := by decide +kernel
theorem dX1_keep_30 : decode cX1_keep 30 = .ok (.iload_n 1, 1) := by decide +kernel
theorem dX1_keep_31 : decode cX1_keep 31 = .ok (.laload, 1) := by decide +kernel
theorem dX1_keep_32 : decode cX1_keep 32 = .ok (.l2i, 1) := by decide +kernel
theorem dX1_keep_33 : decode cX1_keep 33 = .ok (.iastore, 1) := by decide +kernel
theorem dX1_keep_34 : decode cX1_keep 34 = .ok (.iinc 1 1, 3) := by decide +kernel
theorem dX1_keep_37 : decode cX1_keep 37 = .ok (.goto (-30), 3) := by decide +kernel
theorem dX1_keep_40 : decode cX1_keep 40 = .ok (.aload_n 0, 1) := by decide +kernel
theorem dX1_keep_41 : decode cX1_keep 41 = .ok (.dup, 1) := by decide +kernel
theorem dX1_keep_42 : decode cX1_keep 42 = .ok (.getfield 39, 3) := by decide +kernel
theorem dX1_keep_45 : decode cX1_keep 45 = .ok (.iconst 1, 1) := by decide +kernel
theorem dX1_keep_46 : decode cX1_keep 46 = .ok (.iadd, 1) := by decide +kernel
theorem dX1_keep_47 : decode cX1_keep 47 = .ok (.putfield 39, 3) := by decide +kernel
theorem dX1_keep_50 : decode cX1_keep 50 = .ok (.aload_n 0, 1) := by decide +kernel
theorem dX1_keep_51 : decode cX1_keep 51 = .ok (.getfield 39, 3) := by decide +kernel
theorem dX1_keep_54 : decode cX1_keep 54 = .ok (.iconst 1, 1) := by decide +kernel
theorem dX1_keep_55 : decode cX1_keep 55 = .ok (.isub, 1) := by decide +kernel
theorem dX1_keep_56 : decode cX1_keep 56 = .ok (.ireturn, 1) := by decide +kernel
theorem dX1_term_0 : decode cX1_term 0 = .ok (.aload_n 0, 1) := by decide +kernel
theorem dX1_term_1 : decode cX1_term 1 = .ok (.iload_n 1, 1) := by decide +kernel
theorem dX1_term_2 : decode cX1_term 2 = .ok (.i2l, 1) := by decide +kernel
theorem dX1_term_3 : decode cX1_term 3 = .ok (.lconst 0, 1) := by decide +kernel
theorem dX1_term_4 : decode cX1_term 4 = .ok (.ldc2_w 54, 3) := by decide +kernel
theorem dX1_term_7 : decode cX1_term 7 = .ok (.invokestatic 42, 3) := by decide +kernel
theorem dX1_term_10 : decode cX1_term 10 = .ok (.ifCond .eq 17, 3) := by decide +kernel
theorem dX1_term_13 : decode cX1_term 13 = .ok (.iload_n 2, 1) := by decide +kernel
theorem dX1_term_14 : decode cX1_term 14 = .ok (.i2l, 1) := by decide +kernel
theorem dX1_term_15 : decode cX1_term 15 = .ok (.ldc2_w 56, 3) := by decide +kernel
theorem dX1_term_18 : decode cX1_term 18 = .ok (.ldc2_w 58, 3) := by decide +kernel
theorem dX1_term_21 : decode cX1_term 21 = .ok (.invokestatic 42, 3) := by decide +kernel
theorem dX1_term_24 : decode cX1_term 24 = .ok (.ifCond .ne 7, 3) := by decide +kernel
theorem dX1_term_27 : decode cX1_term 27 = .ok (.iconst 1, 1) := by decide +kernel
theorem dX1_term_28 : decode cX1_term 28 = .ok (.goto 17, 3) := by decide +kernel
theorem dX1_term_31 : decode cX1_term 31 = .ok (.aload_n 0, 1) := by decide +kernel
theorem dX1_term_32 : decode cX1_term 32 = .ok (.getfield 39, 3) := by decide +kernel
theorem dX1_term_35 : decode cX1_term 35 = .ok (.bipush 60, 2) := by decide +kernel
theorem dX1_term_37 : decode cX1_term 37 = .ok (.if_icmp .ne 7, 3) := by decide +kernel
theorem dX1_term_40 : decode cX1_term 40 = .ok (.iconst 2, 1) := by decide +kernel
theorem dX1_term_41 : decode cX1_term 41 = .ok (.goto 4, 3) := by decide +kernel
theorem dX1_term_44 : decode cX1_term 44 = .ok (.iconst 0, 1) := by decide +kernel
theorem dX1_term_45 : decode cX1_term 45 = .ok (.putfield 29, 3) := by decide +kernel
theorem dX1_term_48 : decode cX1_term 48 = .ok (.aload_n 0, 1) := by decide +kernel
theorem dX1_term_49 : decode cX1_term 49 = .ok (.getfield 29, 3) := by decide +kernel
theorem dX1_term_52 : decode cX1_term 52 = .ok (.ifCond .le 5, 3) := by decide +kernel
theorem dX1_term_55 : decode cX1_term 55 = .ok (.iconst 0, 1) := by decide +kernel
theorem dX1_term_56 : decode cX1_term 56 = .ok (.ireturn, 1) := by decide +kernel
theorem dX1_term_57 : decode cX1_term 57 = .ok (.iconst 0, 1) := by decide +kernel
theorem dX1_term_58 : decode cX1_term 58 = .ok (.istore 5, 2) := by decide +kernel
theorem dX1_term_60 : decode cX1_term 60 = .ok (.iload 5, 2) := by decide +kernel
theorem dX1_term_62 : decode cX1_term 62 = .ok (.bipush 72, 2) := by decide +kernel
theorem dX1_term_64 : decode cX1_term 64 = .ok (.if_icmp .ge 17, 3) := by decide +kernel
theorem dX1_term_67 : decode cX1_term 67 = .ok (.aload_n 0, 1) := by decide +kernel
theorem dX1_term_68 : decode cX1_term 68 = .ok (.getfield 13, 3) := by decide +kernel
theorem dX1_term_71 : decode cX1_term 71 = .ok (.iload 5, 2) := by decide +kernel
theorem dX1_term_73 : decode cX1_term 73 = .ok (.lconst 0, 1) := by decide +kernel
theorem dX1_term_74 : decode cX1_term 74 = .ok (.lastore, 1) := by decide +kernel
theorem dX1_term_75 : decode cX1_term 75 = .ok (.iinc 5 1, 3) := by decide +kernel
theorem dX1_term_78 : decode cX1_term 78 = .ok (.goto (-18), 3) := by decide +kernel
theorem dX1_term_81 : decode cX1_term 81 = .ok (.aload_n 0, 1) := by decide +kernel
theorem dX1_term_82 : decode cX1_term 82 = .ok (.getfield 13, 3) := by decide +kernel
theorem dX1_term_85 : decode cX1_term 85 = .ok (.iload_n 1, 1) := by decide +kernel
theorem dX1_term_86 : decode cX1_term 86 = .ok (.iload_n 2, 1) := by decide +kernel
theorem dX1_term_87 : decode cX1_term 87 = .ok (.invokestatic 60, 3) := by decide +kernel
theorem dX1_term_90 : decode cX1_term 90 = .ok (.lload_n 3, 1) := by decide +kernel
theorem dX1_term_91 : decode cX1_term 91 = .ok (.invokestatic 35, 3) := by decide +kernel
theorem dX1_term_94 : decode cX1_term 94 = .ok (.lastore, 1) := by decide +kernel
theorem dX1_term_95 : decode cX1_term 95 = .ok (.aload_n 0, 1) := by decide +kernel
theorem dX1_term_96 : decode cX1_term 96 = .ok (.invokevirtual 64, 3) := by decide +kernel
theorem dX1_term_99 : decode cX1_term 99 = .ok (.ireturn, 1) := by decide +kernel
theorem dX1_add_0 : decode cX1_add 0 = .ok (.aload_n 0, 1) := by decide +kernel
theorem dX1_add_1 : decode cX1_add 1 = .ok (.iload_n 1, 1) := by decide +kernel
theorem dX1_add_2 : decode cX1_add 2 = .ok (.iload_n 2, 1) := by decide +kernel
theorem dX1_add_3 : decode cX1_add 3 = .ok (.ldc2_w 68, 3) := by decide +kernel
theorem dX1_add_6 : decode cX1_add 6 = .ok (.invokevirtual 70, 3) := by decide +kernel
theorem dX1_add_9 : decode cX1_add 9 = .ok (.ireturn, 1) := by decide +kernel
theorem dX1_less_0 : decode cX1_less 0 = .ok (.aload_n 0, 1) := by decide +kernel
theorem dX1_less_1 : decode cX1_less 1 = .ok (.iload_n 1, 1) := by decide +kernel
theorem dX1_less_2 : decode cX1_less 2 = .ok (.iload_n 2, 1) := by decide +kernel
theorem dX1_less_3 : decode cX1_less 3 = .ok (.invokevirtual 74, 3) := by decide +kernel
theorem dX1_less_6 : decode cX1_less 6 = .ok (.ifCond .ne 5, 3) := by decide +kernel
theorem dX1_less_9 : decode cX1_less 9 = .ok (.iconst 0, 1) := by decide +kernel
theorem dX1_less_10 : decode cX1_less 10 = .ok (.ireturn, 1) := by decide +kernel
theorem dX1_less_11 : decode cX1_less 11 = .ok (.iconst 0, 1) := by decide +kernel
theorem dX1_less_12 : decode cX1_less 12 = .ok (.istore 5, 2) := by decide +kernel
theorem dX1_less_14 : decode cX1_less 14 = .ok (.iload 5, 2) := by decide +kernel
theorem dX1_less_16 : decode cX1_less 16 = .ok (.bipush 72, 2) := by decide +kernel
theorem dX1_less_18 : decode cX1_less 18 = .ok (.if_icmp .ge 39, 3) := by decide +kernel
theorem dX1_less_21 : decode cX1_less 21 = .ok (.aload_n 0, 1) := by decide +kernel
theorem dX1_less_22 : decode cX1_less 22 = .ok (.getfield 13, 3) := by decide +kernel
theorem dX1_less_25 : decode cX1_less 25 = .ok (.iload 5, 2) := by decide +kernel
theorem dX1_less_27 : decode cX1_less 27 = .ok (.aload_n 0, 1) := by decide +kernel
theorem dX1_less_28 : decode cX1_less 28 = .ok (.getfield 17, 3) := by decide +kernel
theorem dX1_less_31 : decode cX1_less 31 = .ok (.iload 5, 2) := by decide +kernel
theorem dX1_less_33 : decode cX1_less 33 = .ok (.laload, 1) := by decide +kernel
theorem dX1_less_34 : decode cX1_less 34 = .ok (.lload_n 3, 1) := by decide +kernel
theorem dX1_less_35 : decode cX1_less 35 = .ok (.invokestatic 35, 3) := by decide +kernel
theorem dX1_less_38 : decode cX1_less 38 = .ok (.aload_n 0, 1) := by decide +kernel
theorem dX1_less_39 : decode cX1_less 39 = .ok (.getfield 20, 3) := by decide +kernel
theorem dX1_less_42 : decode cX1_less 42 = .ok (.iload 5, 2) := by decide +kernel
theorem dX1_less_44 : decode cX1_less 44 = .ok (.laload, 1) := by decide +kernel
theorem dX1_less_45 : decode cX1_less 45 = .ok (.lmul, 1) := by decide +kernel
theorem dX1_less_46 : decode cX1_less 46 = .ok (.lsub, 1) := by decide +kernel
theorem dX1_less_47 : decode cX1_less 47 = .ok (.invokestatic 35, 3) := by decide +kernel
theorem dX1_less_50 : decode cX1_less 50 = .ok (.lastore, 1) := by decide +kernel
theorem dX1_less_51 : decode cX1_less 51 = .ok (.iinc 5 1, 3) := by decide +kernel
theorem dX1_less_54 : decode cX1_less 54 = .ok (.goto (-40), 3) := by decide +kernel
theorem dX1_less_57 : decode cX1_less 57 = .ok (.aload_n 0, 1) := by decide +kernel
theorem dX1_less_58 : decode cX1_less 58 = .ok (.invokevirtual 64, 3) := by decide +kernel
theorem dX1_less_61 : decode cX1_less 61 = .ok (.ireturn, 1) := by decide +kernel
theorem dX1_rowOf_0 : decode cX1_rowOf 0 = .ok (.iload_n 0, 1) := by decide +kernel
theorem dX1_rowOf_1 : decode cX1_rowOf 1 = .ok (.iconst 4, 1) := by decide +kernel
theorem dX1_rowOf_2 : decode cX1_rowOf 2 = .ok (.if_icmp .ge 7, 3) := by decide +kernel
theorem dX1_rowOf_5 : decode cX1_rowOf 5 = .ok (.iload_n 0, 1) := by decide +kernel
theorem dX1_rowOf_6 : decode cX1_rowOf 6 = .ok (.goto 10, 3) := by decide +kernel
theorem dX1_rowOf_9 : decode cX1_rowOf 9 = .ok (.bipush 11, 2) := by decide +kernel
theorem dX1_rowOf_11 : decode cX1_rowOf 11 = .ok (.iload_n 0, 1) := by decide +kernel
theorem dX1_rowOf_12 : decode cX1_rowOf 12 = .ok (.invokestatic 78, 3) := by decide +kernel
theorem dX1_rowOf_15 : decode cX1_rowOf 15 = .ok (.iadd, 1) := by decide +kernel
theorem dX1_rowOf_16 : decode cX1_rowOf 16 = .ok (.ireturn, 1) := by decide +kernel
theorem dX1_start_0 : decode cX1_start 0 = .ok (.iconst 0, 1) := by decide +kernel
theorem dX1_start_1 : decode cX1_start 1 = .ok (.istore_n 1, 1) := by decide +kernel
theorem dX1_start_2 : decode cX1_start 2 = .ok (.iload_n 1, 1) := by decide +kernel
theorem dX1_start_3 : decode cX1_start 3 = .ok (.sipush 304, 3) := by decide +kernel
theorem dX1_start_6 : decode cX1_start 6 = .ok (.if_icmp .ge 16, 3) := by decide +kernel
theorem dX1_start_9 : decode cX1_start 9 = .ok (.aload_n 0, 1) := by decide +kernel
theorem dX1_start_10 : decode cX1_start 10 = .ok (.getfield 23, 3) := by decide +kernel
theorem dX1_start_13 : decode cX1_start 13 = .ok (.iload_n 1, 1) := by decide +kernel
theorem dX1_start_14 : decode cX1_start 14 = .ok (.lconst 0, 1) := by decide +kernel
theorem dX1_start_15 : decode cX1_start 15 = .ok (.lastore, 1) := by decide +kernel
theorem dX1_start_16 : decode cX1_start 16 = .ok (.iinc 1 1, 3) := by decide +kernel
theorem dX1_start_19 : decode cX1_start 19 = .ok (.goto (-17), 3) := by decide +kernel
theorem dX1_start_22 : decode cX1_start 22 = .ok (.return_, 1) := by decide +kernel
theorem dX1_narrow_0 : decode cX1_narrow 0 = .ok (.iconst 0, 1) := by decide +kernel
theorem dX1_narrow_1 : decode cX1_narrow 1 = .ok (.istore_n 1, 1) := by decide +kernel
theorem dX1_narrow_2 : decode cX1_narrow 2 = .ok (.iload_n 1, 1) := by decide +kernel
theorem dX1_narrow_3 : decode cX1_narrow 3 = .ok (.bipush 19, 2) := by decide +kernel
theorem dX1_narrow_5 : decode cX1_narrow 5 = .ok (.if_icmp .ge 47, 3) := by decide +kernel
theorem dX1_narrow_8 : decode cX1_narrow 8 = .ok (.aload_n 0, 1) := by decide +kernel
theorem dX1_narrow_9 : decode cX1_narrow 9 = .ok (.getfield 23, 3) := by decide +kernel
theorem dX1_narrow_12 : decode cX1_narrow 12 = .ok (.iload_n 1, 1) := by decide +kernel
theorem dX1_narrow_13 : decode cX1_narrow 13 = .ok (.aload_n 0, 1) := by decide +kernel
theorem dX1_narrow_14 : decode cX1_narrow 14 = .ok (.getfield 23, 3) := by decide +kernel
theorem dX1_narrow_17 : decode cX1_narrow 17 = .ok (.iload_n 1, 1) := by decide +kernel
theorem dX1_narrow_18 : decode cX1_narrow 18 = .ok (.laload, 1) := by decide +kernel
theorem dX1_narrow_19 : decode cX1_narrow 19 = .ok (.aload_n 0, 1) := by decide +kernel
theorem dX1_narrow_20 : decode cX1_narrow 20 = .ok (.getfield 23, 3) := by decide +kernel
theorem dX1_narrow_23 : decode cX1_narrow 23 = .ok (.sipush 209, 3) := by decide +kernel
theorem dX1_narrow_26 : decode cX1_narrow 26 = .ok (.iload_n 1, 1) := by decide +kernel
theorem dX1_narrow_27 : decode cX1_narrow 27 = .ok (.iadd, 1) := by decide +kernel
theorem dX1_narrow_28 : decode cX1_narrow 28 = .ok (.laload, 1) := by decide +kernel
theorem dX1_narrow_29 : decode cX1_narrow 29 = .ok (.ladd, 1) := by decide +kernel
theorem dX1_narrow_30 : decode cX1_narrow 30 = .ok (.ldc2_w 33, 3) := by decide +kernel
theorem dX1_narrow_33 : decode cX1_narrow 33 = .ok (.lrem, 1) := by decide +kernel
theorem dX1_narrow_34 : decode cX1_narrow 34 = .ok (.lastore, 1) := by decide +kernel
theorem dX1_narrow_35 : decode cX1_narrow 35 = .ok (.aload_n 0, 1) := by decide +kernel
theorem dX1_narrow_36 : decode cX1_narrow 36 = .ok (.getfield 23, 3) := by decide +kernel
theorem dX1_narrow_39 : decode cX1_narrow 39 = .ok (.sipush 209, 3) := by decide +kernel
theorem dX1_narrow_42 : decode cX1_narrow 42 = .ok (.iload_n 1, 1) := by decide +kernel
theorem dX1_narrow_43 : decode cX1_narrow 43 = .ok (.iadd, 1) := by decide +kernel
theorem dX1_narrow_44 : decode cX1_narrow 44 = .ok (.lconst 0, 1) := by decide +kernel
theorem dX1_narrow_45 : decode cX1_narrow 45 = .ok (.lastore, 1) := by decide +kernel
theorem dX1_narrow_46 : decode cX1_narrow 46 = .ok (.iinc 1 1, 3) := by decide +kernel
theorem dX1_narrow_49 : decode cX1_narrow 49 = .ok (.goto (-47), 3) := by decide +kernel
theorem dX1_narrow_52 : decode cX1_narrow 52 = .ok (.iconst 0, 1) := by decide +kernel
theorem dX1_narrow_53 : decode cX1_narrow 53 = .ok (.istore_n 1, 1) := by decide +kernel
theorem dX1_narrow_54 : decode cX1_narrow 54 = .ok (.iload_n 1, 1) := by decide +kernel
theorem dX1_narrow_55 : decode cX1_narrow 55 = .ok (.bipush 16, 2) := by decide +kernel
theorem dX1_narrow_57 : decode cX1_narrow 57 = .ok (.if_icmp .ge 90, 3) := by decide +kernel
theorem dX1_narrow_60 : decode cX1_narrow 60 = .ok (.iload_n 1, 1) := by decide +kernel
theorem dX1_narrow_61 : decode cX1_narrow 61 = .ok (.iconst 4, 1) := by decide +kernel
theorem dX1_narrow_62 : decode cX1_narrow 62 = .ok (.if_icmp .lt 15, 3) := by decide +kernel
theorem dX1_narrow_65 : decode cX1_narrow 65 = .ok (.iload_n 1, 1) := by decide +kernel
theorem dX1_narrow_66 : decode cX1_narrow 66 = .ok (.bipush 8, 2) := by decide +kernel
theorem dX1_narrow_68 : decode cX1_narrow 68 = .ok (.if_icmp .le 13, 3) := by decide +kernel
theorem dX1_narrow_71 : decode cX1_narrow 71 = .ok (.iload_n 1, 1) := by decide +kernel
theorem dX1_narrow_72 : decode cX1_narrow 72 = .ok (.bipush 14, 2) := by decide +kernel
theorem dX1_narrow_74 : decode cX1_narrow 74 = .ok (.if_icmp .ge 7, 3) := by decide +kernel
theorem dX1_narrow_77 : decode cX1_narrow 77 = .ok (.iconst 1, 1) := by decide +kernel
theorem dX1_narrow_78 : decode cX1_narrow 78 = .ok (.goto 4, 3) := by decide +kernel
theorem dX1_narrow_81 : decode cX1_narrow 81 = .ok (.iconst 0, 1) := by decide +kernel
theorem dX1_narrow_82 : decode cX1_narrow 82 = .ok (.istore_n 2, 1) := by decide +kernel
theorem dX1_narrow_83 : decode cX1_narrow 83 = .ok (.bipush (-9), 2) := by decide +kernel
theorem dX1_narrow_85 : decode cX1_narrow 85 = .ok (.istore_n 3, 1) := by decide +kernel
theorem dX1_narrow_86 : decode cX1_narrow 86 = .ok (.iload_n 3, 1) := by decide +kernel
theorem dX1_narrow_87 : decode cX1_narrow 87 = .ok (.bipush 10, 2) := by decide +kernel
theorem dX1_narrow_89 : decode cX1_narrow 89 = .ok (.if_icmp .ge 52, 3) := by decide +kernel
theorem dX1_narrow_92 : decode cX1_narrow 92 = .ok (.aload_n 0, 1) := by decide +kernel
theorem dX1_narrow_93 : decode cX1_narrow 93 = .ok (.getfield 23, 3) := by decide +kernel
theorem dX1_narrow_96 : decode cX1_narrow 96 = .ok (.bipush 19, 2) := by decide +kernel
theorem dX1_narrow_98 : decode cX1_narrow 98 = .ok (.iload_n 1, 1) := by decide +kernel
theorem dX1_narrow_99 : decode cX1_narrow 99 = .ok (.imul, 1) := by decide +kernel
theorem dX1_narrow_100 : decode cX1_narrow 100 = .ok (.iload_n 3, 1) := by decide +kernel
theorem dX1_narrow_101 : decode cX1_narrow 101 = .ok (.iadd, 1) := by decide +kernel
theorem dX1_narrow_102 : decode cX1_narrow 102 = .ok (.bipush 9, 2) := by decide +kernel
theorem dX1_narrow_104 : decode cX1_narrow 104 = .ok (.iadd, 1) := by decide +kernel
theorem dX1_narrow_105 : decode cX1_narrow 105 = .ok (.laload, 1) := by decide +kernel
theorem dX1_narrow_106 : decode cX1_narrow 106 = .ok (.lconst 0, 1) := by decide +kernel
theorem dX1_narrow_107 : decode cX1_narrow 107 = .ok (.lcmp, 1) := by decide +kernel
theorem dX1_narrow_108 : decode cX1_narrow 108 = .ok (.ifCond .eq 27, 3) := by decide +kernel
theorem dX1_narrow_111 : decode cX1_narrow 111 = .ok (.iload_n 2, 1) := by decide +kernel
theorem dX1_narrow_112 : decode cX1_narrow 112 = .ok (.ifCond .eq 17, 3) := by decide +kernel
theorem dX1_narrow_115 : decode cX1_narrow 115 = .ok (.iload_n 3, 1) := by decide +kernel
theorem dX1_narrow_116 : decode cX1_narrow 116 = .ok (.i2l, 1) := by decide +kernel
theorem dX1_narrow_117 : decode cX1_narrow 117 = .ok (.ldc2_w 56, 3) := by decide +kernel
theorem dX1_narrow_120 : decode cX1_narrow 120 = .ok (.ldc2_w 58, 3) := by decide +kernel
theorem dX1_narrow_123 : decode cX1_narrow 123 = .ok (.invokestatic 42, 3) := by decide +kernel
theorem dX1_narrow_126 : decode cX1_narrow 126 = .ok (.ifCond .ne 9, 3) := by decide +kernel
theorem dX1_narrow_129 : decode cX1_narrow 129 = .ok (.aload_n 0, 1) := by decide +kernel
theorem dX1_narrow_130 : decode cX1_narrow 130 = .ok (.iconst 2, 1) := by decide +kernel
theorem dX1_narrow_131 : decode cX1_narrow 131 = .ok (.invokevirtual 82, 3) := by decide +kernel
theorem dX1_narrow_134 : decode cX1_narrow 134 = .ok (.ireturn, 1) := by decide +kernel
theorem dX1_narrow_135 : decode cX1_narrow 135 = .ok (.iinc 3 1, 3) := by decide +kernel
theorem dX1_narrow_138 : decode cX1_narrow 138 = .ok (.goto (-52), 3) := by decide +kernel
theorem dX1_narrow_141 : decode cX1_narrow 141 = .ok (.iinc 1 1, 3) := by decide +kernel
theorem dX1_narrow_144 : decode cX1_narrow 144 = .ok (.goto (-90), 3) := by decide +kernel
theorem dX1_narrow_147 : decode cX1_narrow 147 = .ok (.iconst 0, 1) := by decide +kernel
theorem dX1_narrow_148 : decode cX1_narrow 148 = .ok (.istore_n 1, 1) := by decide +kernel
theorem dX1_narrow_149 : decode cX1_narrow 149 = .ok (.iload_n 1, 1) := by decide +kernel
theorem dX1_narrow_150 : decode cX1_narrow 150 = .ok (.bipush 8, 2) := by decide +kernel
theorem dX1_narrow_152 : decode cX1_narrow 152 = .ok (.if_icmp .ge 50, 3) := by decide +kernel
theorem dX1_narrow_155 : decode cX1_narrow 155 = .ok (.bipush (-4), 2) := by decide +kernel
theorem dX1_narrow_157 : decode cX1_narrow 157 = .ok (.istore_n 2, 1) := by decide +kernel
theorem dX1_narrow_158 : decode cX1_narrow 158 = .ok (.iload_n 2, 1) := by decide +kernel
theorem dX1_narrow_159 : decode cX1_narrow 159 = .ok (.iconst 4, 1) := by decide +kernel
theorem dX1_narrow_160 : decode cX1_narrow 160 = .ok (.if_icmp .gt 36, 3) := by decide +kernel
theorem dX1_narrow_163 : decode cX1_narrow 163 = .ok (.aload_n 0, 1) := by decide +kernel
theorem dX1_narrow_164 : decode cX1_narrow 164 = .ok (.getfield 13, 3) := by decide +kernel
theorem dX1_narrow_167 : decode cX1_narrow 167 = .ok (.iload_n 1, 1) := by decide +kernel
theorem dX1_narrow_168 : decode cX1_narrow 168 = .ok (.iload_n 2, 1) := by decide +kernel
theorem dX1_narrow_169 : decode cX1_narrow 169 = .ok (.invokestatic 60, 3) := by decide +kernel
theorem dX1_narrow_172 : decode cX1_narrow 172 = .ok (.aload_n 0, 1) := by decide +kernel
theorem dX1_narrow_173 : decode cX1_narrow 173 = .ok (.getfield 23, 3) := by decide +kernel
theorem dX1_narrow_176 : decode cX1_narrow 176 = .ok (.bipush 19, 2) := by decide +kernel
theorem dX1_narrow_178 : decode cX1_narrow 178 = .ok (.iload_n 1, 1) := by decide +kernel
theorem dX1_narrow_179 : decode cX1_narrow 179 = .ok (.invokestatic 85, 3) := by decide +kernel
theorem dX1_narrow_182 : decode cX1_narrow 182 = .ok (.imul, 1) := by decide +kernel
theorem dX1_narrow_183 : decode cX1_narrow 183 = .ok (.iload_n 2, 1) := by decide +kernel
theorem dX1_narrow_184 : decode cX1_narrow 184 = .ok (.iadd, 1) := by decide +kernel
theorem dX1_narrow_185 : decode cX1_narrow 185 = .ok (.bipush 9, 2) := by decide +kernel
theorem dX1_narrow_187 : decode cX1_narrow 187 = .ok (.iadd, 1) := by decide +kernel
theorem dX1_narrow_188 : decode cX1_narrow 188 = .ok (.laload, 1) := by decide +kernel
theorem dX1_narrow_189 : decode cX1_narrow 189 = .ok (.lastore, 1) := by decide +kernel
theorem dX1_narrow_190 : decode cX1_narrow 190 = .ok (.iinc 2 1, 3) := by decide +kernel
theorem dX1_narrow_193 : decode cX1_narrow 193 = .ok (.goto (-35), 3) := by decide +kernel
theorem dX1_narrow_196 : decode cX1_narrow 196 = .ok (.iinc 1 1, 3) := by decide +kernel
theorem dX1_narrow_199 : decode cX1_narrow 199 = .ok (.goto (-50), 3) := by decide +kernel
theorem dX1_narrow_202 : decode cX1_narrow 202 = .ok (.aload_n 0, 1) := by decide +kernel
theorem dX1_narrow_203 : decode cX1_narrow 203 = .ok (.invokevirtual 64, 3) := by decide +kernel
theorem dX1_narrow_206 : decode cX1_narrow 206 = .ok (.ireturn, 1) := by decide +kernel
theorem dX1_has_0 : decode cX1_has 0 = .ok (.bipush 9, 2) := by decide +kernel
theorem dX1_has_2 : decode cX1_has 2 = .ok (.iload_n 2, 1) := by decide +kernel
theorem dX1_has_3 : decode cX1_has 3 = .ok (.imul, 1) := by decide +kernel
theorem dX1_has_4 : decode cX1_has 4 = .ok (.istore 4, 2) := by decide +kernel
theorem dX1_has_6 : decode cX1_has 6 = .ok (.iload 4, 2) := by decide +kernel
theorem dX1_has_8 : decode cX1_has 8 = .ok (.bipush 9, 2) := by decide +kernel
theorem dX1_has_10 : decode cX1_has 10 = .ok (.iload_n 3, 1) := by decide +kernel
theorem dX1_has_11 : decode cX1_has 11 = .ok (.imul, 1) := by decide +kernel
theorem dX1_has_12 : decode cX1_has 12 = .ok (.if_icmp .ge 20, 3) := by decide +kernel
theorem dX1_has_15 : decode cX1_has 15 = .ok (.aload_n 1, 1) := by decide +kernel
theorem dX1_has_16 : decode cX1_has 16 = .ok (.iload 4, 2) := by decide +kernel
theorem dX1_has_18 : decode cX1_has 18 = .ok (.laload, 1) := by decide +kernel
theorem dX1_has_19 : decode cX1_has 19 = .ok (.lconst 0, 1) := by decide +kernel
theorem dX1_has_20 : decode cX1_has 20 = .ok (.lcmp, 1) := by decide +kernel
theorem dX1_has_21 : decode cX1_has 21 = .ok (.ifCond .eq 5, 3) := by decide +kernel
theorem dX1_has_24 : decode cX1_has 24 = .ok (.iconst 1, 1) := by decide +kernel
theorem dX1_has_25 : decode cX1_has 25 = .ok (.ireturn, 1) := by decide +kernel
theorem dX1_has_26 : decode cX1_has 26 = .ok (.iinc 4 1, 3) := by decide +kernel
theorem dX1_has_29 : decode cX1_has 29 = .ok (.goto (-23), 3) := by decide +kernel
theorem dX1_has_32 : decode cX1_has 32 = .ok (.iconst 0, 1) := by decide +kernel
theorem dX1_has_33 : decode cX1_has 33 = .ok (.ireturn, 1) := by decide +kernel
theorem dX1_times_0 : decode cX1_times 0 = .ok (.aload_n 0, 1) := by decide +kernel
theorem dX1_times_1 : decode cX1_times 1 = .ok (.iload_n 1, 1) := by decide +kernel
theorem dX1_times_2 : decode cX1_times 2 = .ok (.iload_n 2, 1) := by decide +kernel
theorem dX1_times_3 : decode cX1_times 3 = .ok (.invokevirtual 74, 3) := by decide +kernel
theorem dX1_times_6 : decode cX1_times 6 = .ok (.ifCond .ne 5, 3) := by decide +kernel
theorem dX1_times_9 : decode cX1_times 9 = .ok (.iconst 0, 1) := by decide +kernel
theorem dX1_times_10 : decode cX1_times 10 = .ok (.ireturn, 1) := by decide +kernel
theorem dX1_times_11 : decode cX1_times 11 = .ok (.aload_n 0, 1) := by decide +kernel
theorem dX1_times_12 : decode cX1_times 12 = .ok (.aload_n 0, 1) := by decide +kernel
theorem dX1_times_13 : decode cX1_times 13 = .ok (.getfield 17, 3) := by decide +kernel
theorem dX1_times_16 : decode cX1_times 16 = .ok (.iconst 1, 1) := by decide +kernel
theorem dX1_times_17 : decode cX1_times 17 = .ok (.iconst 4, 1) := by decide +kernel
theorem dX1_times_18 : decode cX1_times 18 = .ok (.invokevirtual 88, 3) := by decide +kernel
theorem dX1_times_21 : decode cX1_times 21 = .ok (.ifCond .eq 17, 3) := by decide +kernel
theorem dX1_times_24 : decode cX1_times 24 = .ok (.aload_n 0, 1) := by decide +kernel
theorem dX1_times_25 : decode cX1_times 25 = .ok (.aload_n 0, 1) := by decide +kernel
theorem dX1_times_26 : decode cX1_times 26 = .ok (.getfield 20, 3) := by decide +kernel
theorem dX1_times_29 : decode cX1_times 29 = .ok (.iconst 4, 1) := by decide +kernel
theorem dX1_times_30 : decode cX1_times 30 = .ok (.bipush 8, 2) := by decide +kernel
theorem dX1_times_32 : decode cX1_times 32 = .ok (.invokevirtual 88, 3) := by decide +kernel
theorem dX1_times_35 : decode cX1_times 35 = .ok (.ifCond .ne 30, 3) := by decide +kernel
theorem dX1_times_38 : decode cX1_times 38 = .ok (.aload_n 0, 1) := by decide +kernel
theorem dX1_times_39 : decode cX1_times 39 = .ok (.aload_n 0, 1) := by decide +kernel
theorem dX1_times_40 : decode cX1_times 40 = .ok (.getfield 17, 3) := by decide +kernel
theorem dX1_times_43 : decode cX1_times 43 = .ok (.iconst 4, 1) := by decide +kernel
theorem dX1_times_44 : decode cX1_times 44 = .ok (.bipush 8, 2) := by decide +kernel
theorem dX1_times_46 : decode cX1_times 46 = .ok (.invokevirtual 88, 3) := by decide +kernel
theorem dX1_times_49 : decode cX1_times 49 = .ok (.ifCond .eq 22, 3) := by decide +kernel
theorem dX1_times_52 : decode cX1_times 52 = .ok (.aload_n 0, 1) := by decide +kernel
theorem dX1_times_53 : decode cX1_times 53 = .ok (.aload_n 0, 1) := by decide +kernel
theorem dX1_times_54 : decode cX1_times 54 = .ok (.getfield 20, 3) := by decide +kernel
theorem dX1_times_57 : decode cX1_times 57 = .ok (.iconst 1, 1) := by decide +kernel
theorem dX1_times_58 : decode cX1_times 58 = .ok (.iconst 4, 1) := by decide +kernel
theorem dX1_times_59 : decode cX1_times 59 = .ok (.invokevirtual 88, 3) := by decide +kernel
theorem dX1_times_62 : decode cX1_times 62 = .ok (.ifCond .eq 9, 3) := by decide +kernel
theorem dX1_times_65 : decode cX1_times 65 = .ok (.aload_n 0, 1) := by decide +kernel
theorem dX1_times_66 : decode cX1_times 66 = .ok (.iconst 2, 1) := by decide +kernel
theorem dX1_times_67 : decode cX1_times 67 = .ok (.invokevirtual 82, 3) := by decide +kernel
theorem dX1_times_70 : decode cX1_times 70 = .ok (.ireturn, 1) := by decide +kernel
theorem dX1_times_71 : decode cX1_times 71 = .ok (.aload_n 0, 1) := by decide +kernel
theorem dX1_times_72 : decode cX1_times 72 = .ok (.invokevirtual 92, 3) := by decide +kernel
theorem dX1_times_75 : decode cX1_times 75 = .ok (.iconst 0, 1) := by decide +kernel
theorem dX1_times_76 : decode cX1_times 76 = .ok (.istore_n 3, 1) := by decide +kernel
theorem dX1_times_77 : decode cX1_times 77 = .ok (.iload_n 3, 1) := by decide +kernel
theorem dX1_times_78 : decode cX1_times 78 = .ok (.bipush 72, 2) := by decide +kernel
theorem dX1_times_80 : decode cX1_times 80 = .ok (.if_icmp .ge 156, 3) := by decide +kernel
theorem dX1_times_83 : decode cX1_times 83 = .ok (.aload_n 0, 1) := by decide +kernel
theorem dX1_times_84 : decode cX1_times 84 = .ok (.getfield 17, 3) := by decide +kernel
theorem dX1_times_87 : decode cX1_times 87 = .ok (.iload_n 3, 1) := by decide +kernel
theorem dX1_times_88 : decode cX1_times 88 = .ok (.laload, 1) := by decide +kernel
theorem dX1_times_89 : decode cX1_times 89 = .ok (.lconst 0, 1) := by decide +kernel
theorem dX1_times_90 : decode cX1_times 90 = .ok (.lcmp, 1) := by decide +kernel
theorem dX1_times_91 : decode cX1_times 91 = .ok (.ifCond .ne 6, 3) := by decide +kernel
theorem dX1_times_94 : decode cX1_times 94 = .ok (.goto 136, 3) := by decide +kernel
theorem dX1_times_97 : decode cX1_times 97 = .ok (.iconst 0, 1) := by decide +kernel
theorem dX1_times_98 : decode cX1_times 98 = .ok (.istore 4, 2) := by decide +kernel
theorem dX1_times_100 : decode cX1_times 100 = .ok (.iload 4, 2) := by decide +kernel
theorem dX1_times_102 : decode cX1_times 102 = .ok (.bipush 72, 2) := by decide +kernel
theorem dX1_times_104 : decode cX1_times 104 = .ok (.if_icmp .ge 126, 3) := by decide +kernel
theorem dX1_times_107 : decode cX1_times 107 = .ok (.aload_n 0, 1) := by decide +kernel
theorem dX1_times_108 : decode cX1_times 108 = .ok (.getfield 20, 3) := by decide +kernel
theorem dX1_times_111 : decode cX1_times 111 = .ok (.iload 4, 2) := by decide +kernel
theorem dX1_times_113 : decode cX1_times 113 = .ok (.laload, 1) := by decide +kernel
theorem dX1_times_114 : decode cX1_times 114 = .ok (.lconst 0, 1) := by decide +kernel
theorem dX1_times_115 : decode cX1_times 115 = .ok (.lcmp, 1) := by decide +kernel
theorem dX1_times_116 : decode cX1_times 116 = .ok (.ifCond .ne 6, 3) := by decide +kernel
theorem dX1_times_119 : decode cX1_times 119 = .ok (.goto 105, 3) := by decide +kernel
theorem dX1_times_122 : decode cX1_times 122 = .ok (.iload_n 3, 1) := by decide +kernel
theorem dX1_times_123 : decode cX1_times 123 = .ok (.bipush 9, 2) := by decide +kernel
theorem dX1_times_125 : decode cX1_times 125 = .ok (.idiv, 1) := by decide +kernel
theorem dX1_times_126 : decode cX1_times 126 = .ok (.istore 5, 2) := by decide +kernel
theorem dX1_times_128 : decode cX1_times 128 = .ok (.iload 4, 2) := by decide +kernel
theorem dX1_times_130 : decode cX1_times 130 = .ok (.bipush 9, 2) := by decide +kernel
theorem dX1_times_132 : decode cX1_times 132 = .ok (.idiv, 1) := by decide +kernel
theorem dX1_times_133 : decode cX1_times 133 = .ok (.istore 6, 2) := by decide +kernel
theorem dX1_times_135 : decode cX1_times 135 = .ok (.iload 5, 2) := by decide +kernel
theorem dX1_times_137 : decode cX1_times 137 = .ok (.iconst 4, 1) := by decide +kernel
theorem dX1_times_138 : decode cX1_times 138 = .ok (.if_icmp .ge 17, 3) := by decide +kernel
theorem dX1_times_141 : decode cX1_times 141 = .ok (.iload 6, 2) := by decide +kernel
theorem dX1_times_143 : decode cX1_times 143 = .ok (.iconst 4, 1) := by decide +kernel
theorem dX1_times_144 : decode cX1_times 144 = .ok (.if_icmp .ge 11, 3) := by decide +kernel
theorem dX1_times_147 : decode cX1_times 147 = .ok (.iload 5, 2) := by decide +kernel
theorem dX1_times_149 : decode cX1_times 149 = .ok (.iload 6, 2) := by decide +kernel
end
section
theorem dX1_times_151 : decode cX1_times 151 = .ok (.iadd, 1) := by decide +kernel
theorem dX1_times_152 : decode cX1_times 152 = .ok (.goto 17, 3) := by decide +kernel
theorem dX1_times_155 : decode cX1_times 155 = .ok (.bipush 11, 2) := by decide +kernel
theorem dX1_times_157 : decode cX1_times 157 = .ok (.iload 5, 2) := by decide +kernel
theorem dX1_times_159 : decode cX1_times 159 = .ok (.invokestatic 78, 3) := by decide +kernel
theorem dX1_times_162 : decode cX1_times 162 = .ok (.iadd, 1) := by decide +kernel
theorem dX1_times_163 : decode cX1_times 163 = .ok (.iload 6, 2) := by decide +kernel
theorem dX1_times_165 : decode cX1_times 165 = .ok (.invokestatic 78, 3) := by decide +kernel
theorem dX1_times_168 : decode cX1_times 168 = .ok (.iadd, 1) := by decide +kernel
theorem dX1_times_169 : decode cX1_times 169 = .ok (.istore 7, 2) := by decide +kernel
theorem dX1_times_171 : decode cX1_times 171 = .ok (.bipush 19, 2) := by decide +kernel
theorem dX1_times_173 : decode cX1_times 173 = .ok (.iload 7, 2) := by decide +kernel
theorem dX1_times_175 : decode cX1_times 175 = .ok (.imul, 1) := by decide +kernel
theorem dX1_times_176 : decode cX1_times 176 = .ok (.iload_n 3, 1) := by decide +kernel
theorem dX1_times_177 : decode cX1_times 177 = .ok (.bipush 9, 2) := by decide +kernel
theorem dX1_times_179 : decode cX1_times 179 = .ok (.irem, 1) := by decide +kernel
theorem dX1_times_180 : decode cX1_times 180 = .ok (.iadd, 1) := by decide +kernel
theorem dX1_times_181 : decode cX1_times 181 = .ok (.iload 4, 2) := by decide +kernel
theorem dX1_times_183 : decode cX1_times 183 = .ok (.bipush 9, 2) := by decide +kernel
theorem dX1_times_185 : decode cX1_times 185 = .ok (.irem, 1) := by decide +kernel
theorem dX1_times_186 : decode cX1_times 186 = .ok (.iadd, 1) := by decide +kernel
theorem dX1_times_187 : decode cX1_times 187 = .ok (.iconst 1, 1) := by decide +kernel
theorem dX1_times_188 : decode cX1_times 188 = .ok (.iadd, 1) := by decide +kernel
theorem dX1_times_189 : decode cX1_times 189 = .ok (.istore 8, 2) := by decide +kernel
theorem dX1_times_191 : decode cX1_times 191 = .ok (.aload_n 0, 1) := by decide +kernel
theorem dX1_times_192 : decode cX1_times 192 = .ok (.getfield 23, 3) := by decide +kernel
theorem dX1_times_195 : decode cX1_times 195 = .ok (.iload 8, 2) := by decide +kernel
theorem dX1_times_197 : decode cX1_times 197 = .ok (.aload_n 0, 1) := by decide +kernel
theorem dX1_times_198 : decode cX1_times 198 = .ok (.getfield 23, 3) := by decide +kernel
theorem dX1_times_201 : decode cX1_times 201 = .ok (.iload 8, 2) := by decide +kernel
theorem dX1_times_203 : decode cX1_times 203 = .ok (.laload, 1) := by decide +kernel
theorem dX1_times_204 : decode cX1_times 204 = .ok (.aload_n 0, 1) := by decide +kernel
theorem dX1_times_205 : decode cX1_times 205 = .ok (.getfield 17, 3) := by decide +kernel
theorem dX1_times_208 : decode cX1_times 208 = .ok (.iload_n 3, 1) := by decide +kernel
theorem dX1_times_209 : decode cX1_times 209 = .ok (.laload, 1) := by decide +kernel
theorem dX1_times_210 : decode cX1_times 210 = .ok (.aload_n 0, 1) := by decide +kernel
theorem dX1_times_211 : decode cX1_times 211 = .ok (.getfield 20, 3) := by decide +kernel
theorem dX1_times_214 : decode cX1_times 214 = .ok (.iload 4, 2) := by decide +kernel
theorem dX1_times_216 : decode cX1_times 216 = .ok (.laload, 1) := by decide +kernel
theorem dX1_times_217 : decode cX1_times 217 = .ok (.lmul, 1) := by decide +kernel
theorem dX1_times_218 : decode cX1_times 218 = .ok (.ladd, 1) := by decide +kernel
theorem dX1_times_219 : decode cX1_times 219 = .ok (.ldc2_w 33, 3) := by decide +kernel
theorem dX1_times_222 : decode cX1_times 222 = .ok (.lrem, 1) := by decide +kernel
theorem dX1_times_223 : decode cX1_times 223 = .ok (.lastore, 1) := by decide +kernel
theorem dX1_times_224 : decode cX1_times 224 = .ok (.iinc 4 1, 3) := by decide +kernel
theorem dX1_times_227 : decode cX1_times 227 = .ok (.goto (-127), 3) := by decide +kernel
theorem dX1_times_230 : decode cX1_times 230 = .ok (.iinc 3 1, 3) := by decide +kernel
theorem dX1_times_233 : decode cX1_times 233 = .ok (.goto (-156), 3) := by decide +kernel
theorem dX1_times_236 : decode cX1_times 236 = .ok (.aload_n 0, 1) := by decide +kernel
theorem dX1_times_237 : decode cX1_times 237 = .ok (.invokevirtual 95, 3) := by decide +kernel
theorem dX1_times_240 : decode cX1_times 240 = .ok (.ireturn, 1) := by decide +kernel
theorem dX1_derive_0 : decode cX1_derive 0 = .ok (.aload_n 0, 1) := by decide +kernel
theorem dX1_derive_1 : decode cX1_derive 1 = .ok (.iload_n 1, 1) := by decide +kernel
theorem dX1_derive_2 : decode cX1_derive 2 = .ok (.iload_n 1, 1) := by decide +kernel
theorem dX1_derive_3 : decode cX1_derive 3 = .ok (.invokevirtual 74, 3) := by decide +kernel
theorem dX1_derive_6 : decode cX1_derive 6 = .ok (.ifCond .ne 5, 3) := by decide +kernel
theorem dX1_derive_9 : decode cX1_derive 9 = .ok (.iconst 0, 1) := by decide +kernel
theorem dX1_derive_10 : decode cX1_derive 10 = .ok (.ireturn, 1) := by decide +kernel
theorem dX1_derive_11 : decode cX1_derive 11 = .ok (.aload_n 0, 1) := by decide +kernel
theorem dX1_derive_12 : decode cX1_derive 12 = .ok (.invokevirtual 92, 3) := by decide +kernel
theorem dX1_derive_15 : decode cX1_derive 15 = .ok (.iconst 0, 1) := by decide +kernel
theorem dX1_derive_16 : decode cX1_derive 16 = .ok (.istore_n 2, 1) := by decide +kernel
theorem dX1_derive_17 : decode cX1_derive 17 = .ok (.iload_n 2, 1) := by decide +kernel
theorem dX1_derive_18 : decode cX1_derive 18 = .ok (.bipush 8, 2) := by decide +kernel
theorem dX1_derive_20 : decode cX1_derive 20 = .ok (.if_icmp .ge 140, 3) := by decide +kernel
theorem dX1_derive_23 : decode cX1_derive 23 = .ok (.bipush (-4), 2) := by decide +kernel
theorem dX1_derive_25 : decode cX1_derive 25 = .ok (.istore_n 3, 1) := by decide +kernel
theorem dX1_derive_26 : decode cX1_derive 26 = .ok (.iload_n 3, 1) := by decide +kernel
theorem dX1_derive_27 : decode cX1_derive 27 = .ok (.iconst 4, 1) := by decide +kernel
theorem dX1_derive_28 : decode cX1_derive 28 = .ok (.if_icmp .gt 126, 3) := by decide +kernel
theorem dX1_derive_31 : decode cX1_derive 31 = .ok (.aload_n 0, 1) := by decide +kernel
theorem dX1_derive_32 : decode cX1_derive 32 = .ok (.getfield 17, 3) := by decide +kernel
theorem dX1_derive_35 : decode cX1_derive 35 = .ok (.iload_n 2, 1) := by decide +kernel
theorem dX1_derive_36 : decode cX1_derive 36 = .ok (.iload_n 3, 1) := by decide +kernel
theorem dX1_derive_37 : decode cX1_derive 37 = .ok (.invokestatic 60, 3) := by decide +kernel
theorem dX1_derive_40 : decode cX1_derive 40 = .ok (.laload, 1) := by decide +kernel
theorem dX1_derive_41 : decode cX1_derive 41 = .ok (.lstore 4, 2) := by decide +kernel
theorem dX1_derive_43 : decode cX1_derive 43 = .ok (.bipush 19, 2) := by decide +kernel
theorem dX1_derive_45 : decode cX1_derive 45 = .ok (.iload_n 2, 1) := by decide +kernel
theorem dX1_derive_46 : decode cX1_derive 46 = .ok (.invokestatic 85, 3) := by decide +kernel
theorem dX1_derive_49 : decode cX1_derive 49 = .ok (.imul, 1) := by decide +kernel
theorem dX1_derive_50 : decode cX1_derive 50 = .ok (.iload_n 3, 1) := by decide +kernel
theorem dX1_derive_51 : decode cX1_derive 51 = .ok (.iadd, 1) := by decide +kernel
theorem dX1_derive_52 : decode cX1_derive 52 = .ok (.bipush 9, 2) := by decide +kernel
theorem dX1_derive_54 : decode cX1_derive 54 = .ok (.iadd, 1) := by decide +kernel
theorem dX1_derive_55 : decode cX1_derive 55 = .ok (.istore 6, 2) := by decide +kernel
theorem dX1_derive_57 : decode cX1_derive 57 = .ok (.aload_n 0, 1) := by decide +kernel
theorem dX1_derive_58 : decode cX1_derive 58 = .ok (.getfield 23, 3) := by decide +kernel
theorem dX1_derive_61 : decode cX1_derive 61 = .ok (.iload 6, 2) := by decide +kernel
theorem dX1_derive_63 : decode cX1_derive 63 = .ok (.iconst 1, 1) := by decide +kernel
theorem dX1_derive_64 : decode cX1_derive 64 = .ok (.isub, 1) := by decide +kernel
theorem dX1_derive_65 : decode cX1_derive 65 = .ok (.aload_n 0, 1) := by decide +kernel
theorem dX1_derive_66 : decode cX1_derive 66 = .ok (.getfield 23, 3) := by decide +kernel
theorem dX1_derive_69 : decode cX1_derive 69 = .ok (.iload 6, 2) := by decide +kernel
theorem dX1_derive_71 : decode cX1_derive 71 = .ok (.iconst 1, 1) := by decide +kernel
theorem dX1_derive_72 : decode cX1_derive 72 = .ok (.isub, 1) := by decide +kernel
theorem dX1_derive_73 : decode cX1_derive 73 = .ok (.laload, 1) := by decide +kernel
theorem dX1_derive_74 : decode cX1_derive 74 = .ok (.lload 4, 2) := by decide +kernel
theorem dX1_derive_76 : decode cX1_derive 76 = .ok (.iload_n 3, 1) := by decide +kernel
theorem dX1_derive_77 : decode cX1_derive 77 = .ok (.i2l, 1) := by decide +kernel
theorem dX1_derive_78 : decode cX1_derive 78 = .ok (.lmul, 1) := by decide +kernel
theorem dX1_derive_79 : decode cX1_derive 79 = .ok (.ladd, 1) := by decide +kernel
theorem dX1_derive_80 : decode cX1_derive 80 = .ok (.invokestatic 35, 3) := by decide +kernel
theorem dX1_derive_83 : decode cX1_derive 83 = .ok (.lastore, 1) := by decide +kernel
theorem dX1_derive_84 : decode cX1_derive 84 = .ok (.aload_n 0, 1) := by decide +kernel
theorem dX1_derive_85 : decode cX1_derive 85 = .ok (.getfield 23, 3) := by decide +kernel
theorem dX1_derive_88 : decode cX1_derive 88 = .ok (.iload 6, 2) := by decide +kernel
theorem dX1_derive_90 : decode cX1_derive 90 = .ok (.aload_n 0, 1) := by decide +kernel
theorem dX1_derive_91 : decode cX1_derive 91 = .ok (.getfield 23, 3) := by decide +kernel
theorem dX1_derive_94 : decode cX1_derive 94 = .ok (.iload 6, 2) := by decide +kernel
theorem dX1_derive_96 : decode cX1_derive 96 = .ok (.laload, 1) := by decide +kernel
theorem dX1_derive_97 : decode cX1_derive 97 = .ok (.lload 4, 2) := by decide +kernel
theorem dX1_derive_99 : decode cX1_derive 99 = .ok (.iload_n 2, 1) := by decide +kernel
theorem dX1_derive_100 : decode cX1_derive 100 = .ok (.invokestatic 78, 3) := by decide +kernel
theorem dX1_derive_103 : decode cX1_derive 103 = .ok (.i2l, 1) := by decide +kernel
theorem dX1_derive_104 : decode cX1_derive 104 = .ok (.lmul, 1) := by decide +kernel
theorem dX1_derive_105 : decode cX1_derive 105 = .ok (.ladd, 1) := by decide +kernel
theorem dX1_derive_106 : decode cX1_derive 106 = .ok (.invokestatic 35, 3) := by decide +kernel
theorem dX1_derive_109 : decode cX1_derive 109 = .ok (.lastore, 1) := by decide +kernel
theorem dX1_derive_110 : decode cX1_derive 110 = .ok (.iload_n 2, 1) := by decide +kernel
theorem dX1_derive_111 : decode cX1_derive 111 = .ok (.ifCond .le 37, 3) := by decide +kernel
theorem dX1_derive_114 : decode cX1_derive 114 = .ok (.iload_n 2, 1) := by decide +kernel
theorem dX1_derive_115 : decode cX1_derive 115 = .ok (.iconst 4, 1) := by decide +kernel
theorem dX1_derive_116 : decode cX1_derive 116 = .ok (.if_icmp .ge 32, 3) := by decide +kernel
theorem dX1_derive_119 : decode cX1_derive 119 = .ok (.aload_n 0, 1) := by decide +kernel
theorem dX1_derive_120 : decode cX1_derive 120 = .ok (.getfield 23, 3) := by decide +kernel
theorem dX1_derive_123 : decode cX1_derive 123 = .ok (.iload 6, 2) := by decide +kernel
theorem dX1_derive_125 : decode cX1_derive 125 = .ok (.bipush 20, 2) := by decide +kernel
theorem dX1_derive_127 : decode cX1_derive 127 = .ok (.isub, 1) := by decide +kernel
theorem dX1_derive_128 : decode cX1_derive 128 = .ok (.aload_n 0, 1) := by decide +kernel
theorem dX1_derive_129 : decode cX1_derive 129 = .ok (.getfield 23, 3) := by decide +kernel
theorem dX1_derive_132 : decode cX1_derive 132 = .ok (.iload 6, 2) := by decide +kernel
theorem dX1_derive_134 : decode cX1_derive 134 = .ok (.bipush 20, 2) := by decide +kernel
theorem dX1_derive_136 : decode cX1_derive 136 = .ok (.isub, 1) := by decide +kernel
theorem dX1_derive_137 : decode cX1_derive 137 = .ok (.laload, 1) := by decide +kernel
theorem dX1_derive_138 : decode cX1_derive 138 = .ok (.lload 4, 2) := by decide +kernel
theorem dX1_derive_140 : decode cX1_derive 140 = .ok (.iload_n 2, 1) := by decide +kernel
theorem dX1_derive_141 : decode cX1_derive 141 = .ok (.i2l, 1) := by decide +kernel
theorem dX1_derive_142 : decode cX1_derive 142 = .ok (.lmul, 1) := by decide +kernel
theorem dX1_derive_143 : decode cX1_derive 143 = .ok (.ladd, 1) := by decide +kernel
theorem dX1_derive_144 : decode cX1_derive 144 = .ok (.invokestatic 35, 3) := by decide +kernel
theorem dX1_derive_147 : decode cX1_derive 147 = .ok (.lastore, 1) := by decide +kernel
theorem dX1_derive_148 : decode cX1_derive 148 = .ok (.iinc 3 1, 3) := by decide +kernel
theorem dX1_derive_151 : decode cX1_derive 151 = .ok (.goto (-125), 3) := by decide +kernel
theorem dX1_derive_154 : decode cX1_derive 154 = .ok (.iinc 2 1, 3) := by decide +kernel
theorem dX1_derive_157 : decode cX1_derive 157 = .ok (.goto (-140), 3) := by decide +kernel
theorem dX1_derive_160 : decode cX1_derive 160 = .ok (.aload_n 0, 1) := by decide +kernel
theorem dX1_derive_161 : decode cX1_derive 161 = .ok (.invokevirtual 95, 3) := by decide +kernel
theorem dX1_derive_164 : decode cX1_derive 164 = .ok (.ireturn, 1) := by decide +kernel
theorem dX1_restOf_0 : decode cX1_restOf 0 = .ok (.iload_n 1, 1) := by decide +kernel
theorem dX1_restOf_1 : decode cX1_restOf 1 = .ok (.invokestatic 78, 3) := by decide +kernel
theorem dX1_restOf_4 : decode cX1_restOf 4 = .ok (.istore_n 2, 1) := by decide +kernel
theorem dX1_restOf_5 : decode cX1_restOf 5 = .ok (.iconst 0, 1) := by decide +kernel
theorem dX1_restOf_6 : decode cX1_restOf 6 = .ok (.istore_n 3, 1) := by decide +kernel
theorem dX1_restOf_7 : decode cX1_restOf 7 = .ok (.iload_n 3, 1) := by decide +kernel
theorem dX1_restOf_8 : decode cX1_restOf 8 = .ok (.bipush 10, 2) := by decide +kernel
theorem dX1_restOf_10 : decode cX1_restOf 10 = .ok (.if_icmp .ge 16, 3) := by decide +kernel
theorem dX1_restOf_13 : decode cX1_restOf 13 = .ok (.aload_n 0, 1) := by decide +kernel
theorem dX1_restOf_14 : decode cX1_restOf 14 = .ok (.getfield 26, 3) := by decide +kernel
theorem dX1_restOf_17 : decode cX1_restOf 17 = .ok (.iload_n 3, 1) := by decide +kernel
theorem dX1_restOf_18 : decode cX1_restOf 18 = .ok (.lconst 0, 1) := by decide +kernel
theorem dX1_restOf_19 : decode cX1_restOf 19 = .ok (.lastore, 1) := by decide +kernel
theorem dX1_restOf_20 : decode cX1_restOf 20 = .ok (.iinc 3 1, 3) := by decide +kernel
theorem dX1_restOf_23 : decode cX1_restOf 23 = .ok (.goto (-16), 3) := by decide +kernel
theorem dX1_restOf_26 : decode cX1_restOf 26 = .ok (.bipush (-4), 2) := by decide +kernel
theorem dX1_restOf_28 : decode cX1_restOf 28 = .ok (.istore_n 3, 1) := by decide +kernel
theorem dX1_restOf_29 : decode cX1_restOf 29 = .ok (.iload_n 3, 1) := by decide +kernel
theorem dX1_restOf_30 : decode cX1_restOf 30 = .ok (.iconst (-1), 1) := by decide +kernel
theorem dX1_restOf_31 : decode cX1_restOf 31 = .ok (.if_icmp .ge 68, 3) := by decide +kernel
theorem dX1_restOf_34 : decode cX1_restOf 34 = .ok (.iload_n 3, 1) := by decide +kernel
theorem dX1_restOf_35 : decode cX1_restOf 35 = .ok (.bipush (-4), 2) := by decide +kernel
theorem dX1_restOf_37 : decode cX1_restOf 37 = .ok (.if_icmp .le 14, 3) := by decide +kernel
theorem dX1_restOf_40 : decode cX1_restOf 40 = .ok (.aload_n 0, 1) := by decide +kernel
theorem dX1_restOf_41 : decode cX1_restOf 41 = .ok (.getfield 26, 3) := by decide +kernel
theorem dX1_restOf_44 : decode cX1_restOf 44 = .ok (.iload_n 3, 1) := by decide +kernel
theorem dX1_restOf_45 : decode cX1_restOf 45 = .ok (.iconst 3, 1) := by decide +kernel
theorem dX1_restOf_46 : decode cX1_restOf 46 = .ok (.iadd, 1) := by decide +kernel
theorem dX1_restOf_47 : decode cX1_restOf 47 = .ok (.laload, 1) := by decide +kernel
theorem dX1_restOf_48 : decode cX1_restOf 48 = .ok (.goto 4, 3) := by decide +kernel
theorem dX1_restOf_51 : decode cX1_restOf 51 = .ok (.lconst 0, 1) := by decide +kernel
theorem dX1_restOf_52 : decode cX1_restOf 52 = .ok (.lstore 4, 2) := by decide +kernel
theorem dX1_restOf_54 : decode cX1_restOf 54 = .ok (.aload_n 0, 1) := by decide +kernel
theorem dX1_restOf_55 : decode cX1_restOf 55 = .ok (.getfield 26, 3) := by decide +kernel
theorem dX1_restOf_58 : decode cX1_restOf 58 = .ok (.iload_n 3, 1) := by decide +kernel
theorem dX1_restOf_59 : decode cX1_restOf 59 = .ok (.iconst 4, 1) := by decide +kernel
theorem dX1_restOf_60 : decode cX1_restOf 60 = .ok (.iadd, 1) := by decide +kernel
theorem dX1_restOf_61 : decode cX1_restOf 61 = .ok (.aload_n 0, 1) := by decide +kernel
theorem dX1_restOf_62 : decode cX1_restOf 62 = .ok (.getfield 17, 3) := by decide +kernel
theorem dX1_restOf_65 : decode cX1_restOf 65 = .ok (.iload_n 1, 1) := by decide +kernel
theorem dX1_restOf_66 : decode cX1_restOf 66 = .ok (.iload_n 3, 1) := by decide +kernel
theorem dX1_restOf_67 : decode cX1_restOf 67 = .ok (.invokestatic 60, 3) := by decide +kernel
theorem dX1_restOf_70 : decode cX1_restOf 70 = .ok (.laload, 1) := by decide +kernel
theorem dX1_restOf_71 : decode cX1_restOf 71 = .ok (.iload_n 2, 1) := by decide +kernel
theorem dX1_restOf_72 : decode cX1_restOf 72 = .ok (.i2l, 1) := by decide +kernel
theorem dX1_restOf_73 : decode cX1_restOf 73 = .ok (.lload 4, 2) := by decide +kernel
theorem dX1_restOf_75 : decode cX1_restOf 75 = .ok (.lmul, 1) := by decide +kernel
theorem dX1_restOf_76 : decode cX1_restOf 76 = .ok (.lsub, 1) := by decide +kernel
theorem dX1_restOf_77 : decode cX1_restOf 77 = .ok (.invokestatic 35, 3) := by decide +kernel
theorem dX1_restOf_80 : decode cX1_restOf 80 = .ok (.iload_n 3, 1) := by decide +kernel
theorem dX1_restOf_81 : decode cX1_restOf 81 = .ok (.iconst 1, 1) := by decide +kernel
theorem dX1_restOf_82 : decode cX1_restOf 82 = .ok (.iadd, 1) := by decide +kernel
theorem dX1_restOf_83 : decode cX1_restOf 83 = .ok (.i2l, 1) := by decide +kernel
theorem dX1_restOf_84 : decode cX1_restOf 84 = .ok (.invokestatic 98, 3) := by decide +kernel
theorem dX1_restOf_87 : decode cX1_restOf 87 = .ok (.lmul, 1) := by decide +kernel
theorem dX1_restOf_88 : decode cX1_restOf 88 = .ok (.ldc2_w 33, 3) := by decide +kernel
theorem dX1_restOf_91 : decode cX1_restOf 91 = .ok (.lrem, 1) := by decide +kernel
theorem dX1_restOf_92 : decode cX1_restOf 92 = .ok (.lastore, 1) := by decide +kernel
theorem dX1_restOf_93 : decode cX1_restOf 93 = .ok (.iinc 3 1, 3) := by decide +kernel
theorem dX1_restOf_96 : decode cX1_restOf 96 = .ok (.goto (-67), 3) := by decide +kernel
theorem dX1_restOf_99 : decode cX1_restOf 99 = .ok (.aload_n 0, 1) := by decide +kernel
theorem dX1_restOf_100 : decode cX1_restOf 100 = .ok (.getfield 17, 3) := by decide +kernel
theorem dX1_restOf_103 : decode cX1_restOf 103 = .ok (.iload_n 1, 1) := by decide +kernel
theorem dX1_restOf_104 : decode cX1_restOf 104 = .ok (.iconst (-1), 1) := by decide +kernel
theorem dX1_restOf_105 : decode cX1_restOf 105 = .ok (.invokestatic 60, 3) := by decide +kernel
theorem dX1_restOf_108 : decode cX1_restOf 108 = .ok (.laload, 1) := by decide +kernel
theorem dX1_restOf_109 : decode cX1_restOf 109 = .ok (.iload_n 2, 1) := by decide +kernel
theorem dX1_restOf_110 : decode cX1_restOf 110 = .ok (.i2l, 1) := by decide +kernel
theorem dX1_restOf_111 : decode cX1_restOf 111 = .ok (.aload_n 0, 1) := by decide +kernel
theorem dX1_restOf_112 : decode cX1_restOf 112 = .ok (.getfield 26, 3) := by decide +kernel
theorem dX1_restOf_115 : decode cX1_restOf 115 = .ok (.iconst 2, 1) := by decide +kernel
theorem dX1_restOf_116 : decode cX1_restOf 116 = .ok (.laload, 1) := by decide +kernel
theorem dX1_restOf_117 : decode cX1_restOf 117 = .ok (.lmul, 1) := by decide +kernel
theorem dX1_restOf_118 : decode cX1_restOf 118 = .ok (.lsub, 1) := by decide +kernel
theorem dX1_restOf_119 : decode cX1_restOf 119 = .ok (.invokestatic 35, 3) := by decide +kernel
theorem dX1_restOf_122 : decode cX1_restOf 122 = .ok (.lstore_n 3, 1) := by decide +kernel
theorem dX1_restOf_123 : decode cX1_restOf 123 = .ok (.iconst 4, 1) := by decide +kernel
theorem dX1_restOf_124 : decode cX1_restOf 124 = .ok (.istore 5, 2) := by decide +kernel
theorem dX1_restOf_126 : decode cX1_restOf 126 = .ok (.iload 5, 2) := by decide +kernel
theorem dX1_restOf_128 : decode cX1_restOf 128 = .ok (.ifCond .lt 68, 3) := by decide +kernel
theorem dX1_restOf_131 : decode cX1_restOf 131 = .ok (.aload_n 0, 1) := by decide +kernel
theorem dX1_restOf_132 : decode cX1_restOf 132 = .ok (.getfield 26, 3) := by decide +kernel
theorem dX1_restOf_135 : decode cX1_restOf 135 = .ok (.iload 5, 2) := by decide +kernel
theorem dX1_restOf_137 : decode cX1_restOf 137 = .ok (.iconst 3, 1) := by decide +kernel
theorem dX1_restOf_138 : decode cX1_restOf 138 = .ok (.iadd, 1) := by decide +kernel
theorem dX1_restOf_139 : decode cX1_restOf 139 = .ok (.aload_n 0, 1) := by decide +kernel
theorem dX1_restOf_140 : decode cX1_restOf 140 = .ok (.getfield 17, 3) := by decide +kernel
theorem dX1_restOf_143 : decode cX1_restOf 143 = .ok (.iload_n 1, 1) := by decide +kernel
theorem dX1_restOf_144 : decode cX1_restOf 144 = .ok (.iload 5, 2) := by decide +kernel
theorem dX1_restOf_146 : decode cX1_restOf 146 = .ok (.invokestatic 60, 3) := by decide +kernel
theorem dX1_restOf_149 : decode cX1_restOf 149 = .ok (.laload, 1) := by decide +kernel
theorem dX1_restOf_150 : decode cX1_restOf 150 = .ok (.iload 5, 2) := by decide +kernel
theorem dX1_restOf_152 : decode cX1_restOf 152 = .ok (.iconst 1, 1) := by decide +kernel
theorem dX1_restOf_153 : decode cX1_restOf 153 = .ok (.iadd, 1) := by decide +kernel
theorem dX1_restOf_154 : decode cX1_restOf 154 = .ok (.i2l, 1) := by decide +kernel
theorem dX1_restOf_155 : decode cX1_restOf 155 = .ok (.iload 5, 2) := by decide +kernel
theorem dX1_restOf_157 : decode cX1_restOf 157 = .ok (.iconst 4, 1) := by decide +kernel
theorem dX1_restOf_158 : decode cX1_restOf 158 = .ok (.if_icmp .ge 15, 3) := by decide +kernel
theorem dX1_restOf_161 : decode cX1_restOf 161 = .ok (.aload_n 0, 1) := by decide +kernel
theorem dX1_restOf_162 : decode cX1_restOf 162 = .ok (.getfield 26, 3) := by decide +kernel
theorem dX1_restOf_165 : decode cX1_restOf 165 = .ok (.iload 5, 2) := by decide +kernel
theorem dX1_restOf_167 : decode cX1_restOf 167 = .ok (.iconst 4, 1) := by decide +kernel
theorem dX1_restOf_168 : decode cX1_restOf 168 = .ok (.iadd, 1) := by decide +kernel
theorem dX1_restOf_169 : decode cX1_restOf 169 = .ok (.laload, 1) := by decide +kernel
theorem dX1_restOf_170 : decode cX1_restOf 170 = .ok (.goto 4, 3) := by decide +kernel
theorem dX1_restOf_173 : decode cX1_restOf 173 = .ok (.lconst 0, 1) := by decide +kernel
theorem dX1_restOf_174 : decode cX1_restOf 174 = .ok (.lmul, 1) := by decide +kernel
theorem dX1_restOf_175 : decode cX1_restOf 175 = .ok (.lsub, 1) := by decide +kernel
theorem dX1_restOf_176 : decode cX1_restOf 176 = .ok (.invokestatic 35, 3) := by decide +kernel
theorem dX1_restOf_179 : decode cX1_restOf 179 = .ok (.iload_n 2, 1) := by decide +kernel
theorem dX1_restOf_180 : decode cX1_restOf 180 = .ok (.i2l, 1) := by decide +kernel
theorem dX1_restOf_181 : decode cX1_restOf 181 = .ok (.invokestatic 98, 3) := by decide +kernel
theorem dX1_restOf_184 : decode cX1_restOf 184 = .ok (.lmul, 1) := by decide +kernel
theorem dX1_restOf_185 : decode cX1_restOf 185 = .ok (.ldc2_w 33, 3) := by decide +kernel
theorem dX1_restOf_188 : decode cX1_restOf 188 = .ok (.lrem, 1) := by decide +kernel
theorem dX1_restOf_189 : decode cX1_restOf 189 = .ok (.lastore, 1) := by decide +kernel
theorem dX1_restOf_190 : decode cX1_restOf 190 = .ok (.iinc 5 (-1), 3) := by decide +kernel
theorem dX1_restOf_193 : decode cX1_restOf 193 = .ok (.goto (-67), 3) := by decide +kernel
theorem dX1_restOf_196 : decode cX1_restOf 196 = .ok (.lload_n 3, 1) := by decide +kernel
theorem dX1_restOf_197 : decode cX1_restOf 197 = .ok (.lreturn, 1) := by decide +kernel
theorem dX1_rest_0 : decode cX1_rest 0 = .ok (.aload_n 0, 1) := by decide +kernel
theorem dX1_rest_1 : decode cX1_rest 1 = .ok (.aload_n 0, 1) := by decide +kernel
theorem dX1_rest_2 : decode cX1_rest 2 = .ok (.iload_n 1, 1) := by decide +kernel
theorem dX1_rest_3 : decode cX1_rest 3 = .ok (.invokevirtual 46, 3) := by decide +kernel
theorem dX1_rest_6 : decode cX1_rest 6 = .ok (.ifCond .ne 7, 3) := by decide +kernel
theorem dX1_rest_9 : decode cX1_rest 9 = .ok (.iconst 1, 1) := by decide +kernel
theorem dX1_rest_10 : decode cX1_rest 10 = .ok (.goto 20, 3) := by decide +kernel
theorem dX1_rest_13 : decode cX1_rest 13 = .ok (.iload_n 2, 1) := by decide +kernel
theorem dX1_rest_14 : decode cX1_rest 14 = .ok (.i2l, 1) := by decide +kernel
theorem dX1_rest_15 : decode cX1_rest 15 = .ok (.lconst 0, 1) := by decide +kernel
theorem dX1_rest_16 : decode cX1_rest 16 = .ok (.ldc2_w 54, 3) := by decide +kernel
theorem dX1_rest_19 : decode cX1_rest 19 = .ok (.invokestatic 42, 3) := by decide +kernel
theorem dX1_rest_22 : decode cX1_rest 22 = .ok (.ifCond .eq 7, 3) := by decide +kernel
theorem dX1_rest_25 : decode cX1_rest 25 = .ok (.iconst 0, 1) := by decide +kernel
theorem dX1_rest_26 : decode cX1_rest 26 = .ok (.goto 4, 3) := by decide +kernel
theorem dX1_rest_29 : decode cX1_rest 29 = .ok (.iconst 2, 1) := by decide +kernel
theorem dX1_rest_30 : decode cX1_rest 30 = .ok (.putfield 29, 3) := by decide +kernel
theorem dX1_rest_33 : decode cX1_rest 33 = .ok (.aload_n 0, 1) := by decide +kernel
theorem dX1_rest_34 : decode cX1_rest 34 = .ok (.getfield 29, 3) := by decide +kernel
theorem dX1_rest_37 : decode cX1_rest 37 = .ok (.ifCond .gt 8, 3) := by decide +kernel
theorem dX1_rest_40 : decode cX1_rest 40 = .ok (.iload_n 2, 1) := by decide +kernel
theorem dX1_rest_41 : decode cX1_rest 41 = .ok (.iconst 4, 1) := by decide +kernel
theorem dX1_rest_42 : decode cX1_rest 42 = .ok (.if_icmp .ge 5, 3) := by decide +kernel
theorem dX1_rest_45 : decode cX1_rest 45 = .ok (.iconst 0, 1) := by decide +kernel
theorem dX1_rest_46 : decode cX1_rest 46 = .ok (.ireturn, 1) := by decide +kernel
theorem dX1_rest_47 : decode cX1_rest 47 = .ok (.aload_n 0, 1) := by decide +kernel
theorem dX1_rest_48 : decode cX1_rest 48 = .ok (.aload_n 0, 1) := by decide +kernel
theorem dX1_rest_49 : decode cX1_rest 49 = .ok (.getfield 17, 3) := by decide +kernel
theorem dX1_rest_52 : decode cX1_rest 52 = .ok (.iload_n 1, 1) := by decide +kernel
theorem dX1_rest_53 : decode cX1_rest 53 = .ok (.invokevirtual 50, 3) := by decide +kernel
theorem dX1_rest_56 : decode cX1_rest 56 = .ok (.aload_n 0, 1) := by decide +kernel
theorem dX1_rest_57 : decode cX1_rest 57 = .ok (.iload_n 2, 1) := by decide +kernel
theorem dX1_rest_58 : decode cX1_rest 58 = .ok (.invokevirtual 101, 3) := by decide +kernel
theorem dX1_rest_61 : decode cX1_rest 61 = .ok (.l2i, 1) := by decide +kernel
theorem dX1_rest_62 : decode cX1_rest 62 = .ok (.ireturn, 1) := by decide +kernel
theorem dX1_integrate_0 : decode cX1_integrate 0 = .ok (.aload_n 0, 1) := by decide +kernel
theorem dX1_integrate_1 : decode cX1_integrate 1 = .ok (.iload_n 1, 1) := by decide +kernel
theorem dX1_integrate_2 : decode cX1_integrate 2 = .ok (.iload_n 1, 1) := by decide +kernel
theorem dX1_integrate_3 : decode cX1_integrate 3 = .ok (.invokevirtual 74, 3) := by decide +kernel
theorem dX1_integrate_6 : decode cX1_integrate 6 = .ok (.ifCond .ne 5, 3) := by decide +kernel
theorem dX1_integrate_9 : decode cX1_integrate 9 = .ok (.iconst 0, 1) := by decide +kernel
theorem dX1_integrate_10 : decode cX1_integrate 10 = .ok (.ireturn, 1) := by decide +kernel
theorem dX1_integrate_11 : decode cX1_integrate 11 = .ok (.iconst 0, 1) := by decide +kernel
theorem dX1_integrate_12 : decode cX1_integrate 12 = .ok (.istore_n 2, 1) := by decide +kernel
theorem dX1_integrate_13 : decode cX1_integrate 13 = .ok (.iload_n 2, 1) := by decide +kernel
theorem dX1_integrate_14 : decode cX1_integrate 14 = .ok (.bipush 72, 2) := by decide +kernel
theorem dX1_integrate_16 : decode cX1_integrate 16 = .ok (.if_icmp .ge 16, 3) := by decide +kernel
theorem dX1_integrate_19 : decode cX1_integrate 19 = .ok (.aload_n 0, 1) := by decide +kernel
theorem dX1_integrate_20 : decode cX1_integrate 20 = .ok (.getfield 13, 3) := by decide +kernel
theorem dX1_integrate_23 : decode cX1_integrate 23 = .ok (.iload_n 2, 1) := by decide +kernel
theorem dX1_integrate_24 : decode cX1_integrate 24 = .ok (.lconst 0, 1) := by decide +kernel
theorem dX1_integrate_25 : decode cX1_integrate 25 = .ok (.lastore, 1) := by decide +kernel
theorem dX1_integrate_26 : decode cX1_integrate 26 = .ok (.iinc 2 1, 3) := by decide +kernel
theorem dX1_integrate_29 : decode cX1_integrate 29 = .ok (.goto (-16), 3) := by decide +kernel
theorem dX1_integrate_32 : decode cX1_integrate 32 = .ok (.iconst 4, 1) := by decide +kernel
theorem dX1_integrate_33 : decode cX1_integrate 33 = .ok (.istore_n 2, 1) := by decide +kernel
theorem dX1_integrate_34 : decode cX1_integrate 34 = .ok (.iload_n 2, 1) := by decide +kernel
theorem dX1_integrate_35 : decode cX1_integrate 35 = .ok (.bipush 8, 2) := by decide +kernel
theorem dX1_integrate_37 : decode cX1_integrate 37 = .ok (.if_icmp .ge 53, 3) := by decide +kernel
theorem dX1_integrate_40 : decode cX1_integrate 40 = .ok (.aload_n 0, 1) := by decide +kernel
theorem dX1_integrate_41 : decode cX1_integrate 41 = .ok (.iload_n 2, 1) := by decide +kernel
theorem dX1_integrate_42 : decode cX1_integrate 42 = .ok (.invokevirtual 101, 3) := by decide +kernel
theorem dX1_integrate_45 : decode cX1_integrate 45 = .ok (.lconst 0, 1) := by decide +kernel
theorem dX1_integrate_46 : decode cX1_integrate 46 = .ok (.lcmp, 1) := by decide +kernel
theorem dX1_integrate_47 : decode cX1_integrate 47 = .ok (.ifCond .eq 5, 3) := by decide +kernel
theorem dX1_integrate_50 : decode cX1_integrate 50 = .ok (.iconst (-1), 1) := by decide +kernel
theorem dX1_integrate_51 : decode cX1_integrate 51 = .ok (.ireturn, 1) := by decide +kernel
theorem dX1_integrate_52 : decode cX1_integrate 52 = .ok (.bipush (-3), 2) := by decide +kernel
theorem dX1_integrate_54 : decode cX1_integrate 54 = .ok (.istore_n 3, 1) := by decide +kernel
theorem dX1_integrate_55 : decode cX1_integrate 55 = .ok (.iload_n 3, 1) := by decide +kernel
theorem dX1_integrate_56 : decode cX1_integrate 56 = .ok (.iconst 4, 1) := by decide +kernel
theorem dX1_integrate_57 : decode cX1_integrate 57 = .ok (.if_icmp .gt 27, 3) := by decide +kernel
theorem dX1_integrate_60 : decode cX1_integrate 60 = .ok (.aload_n 0, 1) := by decide +kernel
theorem dX1_integrate_61 : decode cX1_integrate 61 = .ok (.getfield 13, 3) := by decide +kernel
theorem dX1_integrate_64 : decode cX1_integrate 64 = .ok (.iload_n 2, 1) := by decide +kernel
theorem dX1_integrate_65 : decode cX1_integrate 65 = .ok (.iload_n 3, 1) := by decide +kernel
theorem dX1_integrate_66 : decode cX1_integrate 66 = .ok (.invokestatic 60, 3) := by decide +kernel
theorem dX1_integrate_69 : decode cX1_integrate 69 = .ok (.aload_n 0, 1) := by decide +kernel
theorem dX1_integrate_70 : decode cX1_integrate 70 = .ok (.getfield 26, 3) := by decide +kernel
theorem dX1_integrate_73 : decode cX1_integrate 73 = .ok (.iload_n 3, 1) := by decide +kernel
theorem dX1_integrate_74 : decode cX1_integrate 74 = .ok (.iconst 3, 1) := by decide +kernel
theorem dX1_integrate_75 : decode cX1_integrate 75 = .ok (.iadd, 1) := by decide +kernel
theorem dX1_integrate_76 : decode cX1_integrate 76 = .ok (.laload, 1) := by decide +kernel
theorem dX1_integrate_77 : decode cX1_integrate 77 = .ok (.lastore, 1) := by decide +kernel
theorem dX1_integrate_78 : decode cX1_integrate 78 = .ok (.iinc 3 1, 3) := by decide +kernel
theorem dX1_integrate_81 : decode cX1_integrate 81 = .ok (.goto (-26), 3) := by decide +kernel
theorem dX1_integrate_84 : decode cX1_integrate 84 = .ok (.iinc 2 1, 3) := by decide +kernel
theorem dX1_integrate_87 : decode cX1_integrate 87 = .ok (.goto (-53), 3) := by decide +kernel
theorem dX1_integrate_90 : decode cX1_integrate 90 = .ok (.iconst 0, 1) := by decide +kernel
theorem dX1_integrate_91 : decode cX1_integrate 91 = .ok (.istore_n 2, 1) := by decide +kernel
theorem dX1_integrate_92 : decode cX1_integrate 92 = .ok (.iload_n 2, 1) := by decide +kernel
theorem dX1_integrate_93 : decode cX1_integrate 93 = .ok (.iconst 4, 1) := by decide +kernel
theorem dX1_integrate_94 : decode cX1_integrate 94 = .ok (.if_icmp .ge 30, 3) := by decide +kernel
theorem dX1_integrate_97 : decode cX1_integrate 97 = .ok (.aload_n 0, 1) := by decide +kernel
theorem dX1_integrate_98 : decode cX1_integrate 98 = .ok (.getfield 17, 3) := by decide +kernel
theorem dX1_integrate_101 : decode cX1_integrate 101 = .ok (.iload_n 2, 1) := by decide +kernel
theorem dX1_integrate_102 : decode cX1_integrate 102 = .ok (.iconst 4, 1) := by decide +kernel
theorem dX1_integrate_103 : decode cX1_integrate 103 = .ok (.invokestatic 60, 3) := by decide +kernel
theorem dX1_integrate_106 : decode cX1_integrate 106 = .ok (.laload, 1) := by decide +kernel
theorem dX1_integrate_107 : decode cX1_integrate 107 = .ok (.lconst 0, 1) := by decide +kernel
theorem dX1_integrate_108 : decode cX1_integrate 108 = .ok (.lcmp, 1) := by decide +kernel
theorem dX1_integrate_109 : decode cX1_integrate 109 = .ok (.ifCond .eq 9, 3) := by decide +kernel
theorem dX1_integrate_112 : decode cX1_integrate 112 = .ok (.aload_n 0, 1) := by decide +kernel
theorem dX1_integrate_113 : decode cX1_integrate 113 = .ok (.iconst 2, 1) := by decide +kernel
theorem dX1_integrate_114 : decode cX1_integrate 114 = .ok (.invokevirtual 82, 3) := by decide +kernel
theorem dX1_integrate_117 : decode cX1_integrate 117 = .ok (.ireturn, 1) := by decide +kernel
theorem dX1_integrate_118 : decode cX1_integrate 118 = .ok (.iinc 2 1, 3) := by decide +kernel
theorem dX1_integrate_121 : decode cX1_integrate 121 = .ok (.goto (-29), 3) := by decide +kernel
theorem dX1_integrate_124 : decode cX1_integrate 124 = .ok (.aload_n 0, 1) := by decide +kernel
theorem dX1_integrate_125 : decode cX1_integrate 125 = .ok (.getfield 17, 3) := by decide +kernel
theorem dX1_integrate_128 : decode cX1_integrate 128 = .ok (.iconst 3, 1) := by decide +kernel
theorem dX1_integrate_129 : decode cX1_integrate 129 = .ok (.iconst (-1), 1) := by decide +kernel
theorem dX1_integrate_130 : decode cX1_integrate 130 = .ok (.invokestatic 60, 3) := by decide +kernel
theorem dX1_integrate_133 : decode cX1_integrate 133 = .ok (.laload, 1) := by decide +kernel
theorem dX1_integrate_134 : decode cX1_integrate 134 = .ok (.lconst 0, 1) := by decide +kernel
theorem dX1_integrate_135 : decode cX1_integrate 135 = .ok (.lcmp, 1) := by decide +kernel
theorem dX1_integrate_136 : decode cX1_integrate 136 = .ok (.ifCond .eq 9, 3) := by decide +kernel
theorem dX1_integrate_139 : decode cX1_integrate 139 = .ok (.aload_n 0, 1) := by decide +kernel
theorem dX1_integrate_140 : decode cX1_integrate 140 = .ok (.iconst 2, 1) := by decide +kernel
theorem dX1_integrate_141 : decode cX1_integrate 141 = .ok (.invokevirtual 82, 3) := by decide +kernel
theorem dX1_integrate_144 : decode cX1_integrate 144 = .ok (.ireturn, 1) := by decide +kernel
theorem dX1_integrate_145 : decode cX1_integrate 145 = .ok (.bipush (-4), 2) := by decide +kernel
theorem dX1_integrate_147 : decode cX1_integrate 147 = .ok (.istore_n 2, 1) := by decide +kernel
theorem dX1_integrate_148 : decode cX1_integrate 148 = .ok (.iload_n 2, 1) := by decide +kernel
theorem dX1_integrate_149 : decode cX1_integrate 149 = .ok (.iconst 4, 1) := by decide +kernel
theorem dX1_integrate_150 : decode cX1_integrate 150 = .ok (.if_icmp .ge 96, 3) := by decide +kernel
theorem dX1_integrate_153 : decode cX1_integrate 153 = .ok (.iconst 3, 1) := by decide +kernel
theorem dX1_integrate_154 : decode cX1_integrate 154 = .ok (.istore_n 3, 1) := by decide +kernel
theorem dX1_integrate_155 : decode cX1_integrate 155 = .ok (.iload_n 3, 1) := by decide +kernel
theorem dX1_integrate_156 : decode cX1_integrate 156 = .ok (.ifCond .lt 84, 3) := by decide +kernel
theorem dX1_integrate_159 : decode cX1_integrate 159 = .ok (.iload_n 2, 1) := by decide +kernel
theorem dX1_integrate_160 : decode cX1_integrate 160 = .ok (.iconst (-1), 1) := by decide +kernel
theorem dX1_integrate_161 : decode cX1_integrate 161 = .ok (.if_icmp .eq 79, 3) := by decide +kernel
theorem dX1_integrate_164 : decode cX1_integrate 164 = .ok (.aload_n 0, 1) := by decide +kernel
theorem dX1_integrate_165 : decode cX1_integrate 165 = .ok (.getfield 17, 3) := by decide +kernel
theorem dX1_integrate_168 : decode cX1_integrate 168 = .ok (.iload_n 3, 1) := by decide +kernel
theorem dX1_integrate_169 : decode cX1_integrate 169 = .ok (.iload_n 2, 1) := by decide +kernel
theorem dX1_integrate_170 : decode cX1_integrate 170 = .ok (.invokestatic 60, 3) := by decide +kernel
theorem dX1_integrate_173 : decode cX1_integrate 173 = .ok (.laload, 1) := by decide +kernel
theorem dX1_integrate_174 : decode cX1_integrate 174 = .ok (.iload_n 3, 1) := by decide +kernel
theorem dX1_integrate_175 : decode cX1_integrate 175 = .ok (.iconst 3, 1) := by decide +kernel
theorem dX1_integrate_176 : decode cX1_integrate 176 = .ok (.if_icmp .ge 25, 3) := by decide +kernel
theorem dX1_integrate_179 : decode cX1_integrate 179 = .ok (.iload_n 3, 1) := by decide +kernel
theorem dX1_integrate_180 : decode cX1_integrate 180 = .ok (.iconst 1, 1) := by decide +kernel
theorem dX1_integrate_181 : decode cX1_integrate 181 = .ok (.iadd, 1) := by decide +kernel
theorem dX1_integrate_182 : decode cX1_integrate 182 = .ok (.i2l, 1) := by decide +kernel
theorem dX1_integrate_183 : decode cX1_integrate 183 = .ok (.aload_n 0, 1) := by decide +kernel
theorem dX1_integrate_184 : decode cX1_integrate 184 = .ok (.getfield 13, 3) := by decide +kernel
theorem dX1_integrate_187 : decode cX1_integrate 187 = .ok (.iload_n 3, 1) := by decide +kernel
theorem dX1_integrate_188 : decode cX1_integrate 188 = .ok (.iconst 1, 1) := by decide +kernel
theorem dX1_integrate_189 : decode cX1_integrate 189 = .ok (.iadd, 1) := by decide +kernel
theorem dX1_integrate_190 : decode cX1_integrate 190 = .ok (.iload_n 2, 1) := by decide +kernel
theorem dX1_integrate_191 : decode cX1_integrate 191 = .ok (.iconst 1, 1) := by decide +kernel
theorem dX1_integrate_192 : decode cX1_integrate 192 = .ok (.iadd, 1) := by decide +kernel
theorem dX1_integrate_193 : decode cX1_integrate 193 = .ok (.invokestatic 60, 3) := by decide +kernel
theorem dX1_integrate_196 : decode cX1_integrate 196 = .ok (.laload, 1) := by decide +kernel
theorem dX1_integrate_197 : decode cX1_integrate 197 = .ok (.lmul, 1) := by decide +kernel
theorem dX1_integrate_198 : decode cX1_integrate 198 = .ok (.goto 4, 3) := by decide +kernel
theorem dX1_integrate_201 : decode cX1_integrate 201 = .ok (.lconst 0, 1) := by decide +kernel
theorem dX1_integrate_202 : decode cX1_integrate 202 = .ok (.lsub, 1) := by decide +kernel
theorem dX1_integrate_203 : decode cX1_integrate 203 = .ok (.lstore 4, 2) := by decide +kernel
theorem dX1_integrate_205 : decode cX1_integrate 205 = .ok (.aload_n 0, 1) := by decide +kernel
theorem dX1_integrate_206 : decode cX1_integrate 206 = .ok (.getfield 13, 3) := by decide +kernel
theorem dX1_integrate_209 : decode cX1_integrate 209 = .ok (.iload_n 3, 1) := by decide +kernel
theorem dX1_integrate_210 : decode cX1_integrate 210 = .ok (.iload_n 2, 1) := by decide +kernel
theorem dX1_integrate_211 : decode cX1_integrate 211 = .ok (.iconst 1, 1) := by decide +kernel
theorem dX1_integrate_212 : decode cX1_integrate 212 = .ok (.iadd, 1) := by decide +kernel
theorem dX1_integrate_213 : decode cX1_integrate 213 = .ok (.invokestatic 60, 3) := by decide +kernel
theorem dX1_integrate_216 : decode cX1_integrate 216 = .ok (.lload 4, 2) := by decide +kernel
theorem dX1_integrate_218 : decode cX1_integrate 218 = .ok (.invokestatic 35, 3) := by decide +kernel
theorem dX1_integrate_221 : decode cX1_integrate 221 = .ok (.iload_n 2, 1) := by decide +kernel
theorem dX1_integrate_222 : decode cX1_integrate 222 = .ok (.iconst 1, 1) := by decide +kernel
theorem dX1_integrate_223 : decode cX1_integrate 223 = .ok (.iadd, 1) := by decide +kernel
theorem dX1_integrate_224 : decode cX1_integrate 224 = .ok (.i2l, 1) := by decide +kernel
theorem dX1_integrate_225 : decode cX1_integrate 225 = .ok (.invokestatic 98, 3) := by decide +kernel
theorem dX1_integrate_228 : decode cX1_integrate 228 = .ok (.lmul, 1) := by decide +kernel
theorem dX1_integrate_229 : decode cX1_integrate 229 = .ok (.ldc2_w 33, 3) := by decide +kernel
theorem dX1_integrate_232 : decode cX1_integrate 232 = .ok (.lrem, 1) := by decide +kernel
theorem dX1_integrate_233 : decode cX1_integrate 233 = .ok (.lastore, 1) := by decide +kernel
theorem dX1_integrate_234 : decode cX1_integrate 234 = .ok (.iinc 3 (-1), 3) := by decide +kernel
theorem dX1_integrate_237 : decode cX1_integrate 237 = .ok (.goto (-82), 3) := by decide +kernel
end
section
theorem dX1_integrate_240 : decode cX1_integrate 240 = .ok (.iinc 2 1, 3) := by decide +kernel
theorem dX1_integrate_243 : decode cX1_integrate 243 = .ok (.goto (-95), 3) := by decide +kernel
theorem dX1_integrate_246 : decode cX1_integrate 246 = .ok (.iconst 0, 1) := by decide +kernel
theorem dX1_integrate_247 : decode cX1_integrate 247 = .ok (.istore_n 2, 1) := by decide +kernel
theorem dX1_integrate_248 : decode cX1_integrate 248 = .ok (.iload_n 2, 1) := by decide +kernel
theorem dX1_integrate_249 : decode cX1_integrate 249 = .ok (.iconst 3, 1) := by decide +kernel
theorem dX1_integrate_250 : decode cX1_integrate 250 = .ok (.if_icmp .ge 43, 3) := by decide +kernel
theorem dX1_integrate_253 : decode cX1_integrate 253 = .ok (.aload_n 0, 1) := by decide +kernel
theorem dX1_integrate_254 : decode cX1_integrate 254 = .ok (.getfield 13, 3) := by decide +kernel
theorem dX1_integrate_257 : decode cX1_integrate 257 = .ok (.iload_n 2, 1) := by decide +kernel
theorem dX1_integrate_258 : decode cX1_integrate 258 = .ok (.iconst 1, 1) := by decide +kernel
theorem dX1_integrate_259 : decode cX1_integrate 259 = .ok (.iadd, 1) := by decide +kernel
theorem dX1_integrate_260 : decode cX1_integrate 260 = .ok (.iconst 0, 1) := by decide +kernel
theorem dX1_integrate_261 : decode cX1_integrate 261 = .ok (.invokestatic 60, 3) := by decide +kernel
theorem dX1_integrate_264 : decode cX1_integrate 264 = .ok (.aload_n 0, 1) := by decide +kernel
theorem dX1_integrate_265 : decode cX1_integrate 265 = .ok (.getfield 17, 3) := by decide +kernel
theorem dX1_integrate_268 : decode cX1_integrate 268 = .ok (.iload_n 2, 1) := by decide +kernel
theorem dX1_integrate_269 : decode cX1_integrate 269 = .ok (.iconst (-1), 1) := by decide +kernel
theorem dX1_integrate_270 : decode cX1_integrate 270 = .ok (.invokestatic 60, 3) := by decide +kernel
theorem dX1_integrate_273 : decode cX1_integrate 273 = .ok (.laload, 1) := by decide +kernel
theorem dX1_integrate_274 : decode cX1_integrate 274 = .ok (.iload_n 2, 1) := by decide +kernel
theorem dX1_integrate_275 : decode cX1_integrate 275 = .ok (.iconst 1, 1) := by decide +kernel
theorem dX1_integrate_276 : decode cX1_integrate 276 = .ok (.iadd, 1) := by decide +kernel
theorem dX1_integrate_277 : decode cX1_integrate 277 = .ok (.i2l, 1) := by decide +kernel
theorem dX1_integrate_278 : decode cX1_integrate 278 = .ok (.invokestatic 98, 3) := by decide +kernel
theorem dX1_integrate_281 : decode cX1_integrate 281 = .ok (.lmul, 1) := by decide +kernel
theorem dX1_integrate_282 : decode cX1_integrate 282 = .ok (.ldc2_w 33, 3) := by decide +kernel
theorem dX1_integrate_285 : decode cX1_integrate 285 = .ok (.lrem, 1) := by decide +kernel
theorem dX1_integrate_286 : decode cX1_integrate 286 = .ok (.lastore, 1) := by decide +kernel
theorem dX1_integrate_287 : decode cX1_integrate 287 = .ok (.iinc 2 1, 3) := by decide +kernel
theorem dX1_integrate_290 : decode cX1_integrate 290 = .ok (.goto (-42), 3) := by decide +kernel
theorem dX1_integrate_293 : decode cX1_integrate 293 = .ok (.aload_n 0, 1) := by decide +kernel
theorem dX1_integrate_294 : decode cX1_integrate 294 = .ok (.invokevirtual 64, 3) := by decide +kernel
theorem dX1_integrate_297 : decode cX1_integrate 297 = .ok (.ireturn, 1) := by decide +kernel
theorem dX1_at_0 : decode cX1_at 0 = .ok (.aload_n 0, 1) := by decide +kernel
theorem dX1_at_1 : decode cX1_at 1 = .ok (.aload_n 0, 1) := by decide +kernel
theorem dX1_at_2 : decode cX1_at 2 = .ok (.iload_n 1, 1) := by decide +kernel
theorem dX1_at_3 : decode cX1_at 3 = .ok (.invokevirtual 46, 3) := by decide +kernel
theorem dX1_at_6 : decode cX1_at 6 = .ok (.ifCond .ne 7, 3) := by decide +kernel
theorem dX1_at_9 : decode cX1_at 9 = .ok (.iconst 1, 1) := by decide +kernel
theorem dX1_at_10 : decode cX1_at 10 = .ok (.goto 34, 3) := by decide +kernel
theorem dX1_at_13 : decode cX1_at 13 = .ok (.iload_n 2, 1) := by decide +kernel
theorem dX1_at_14 : decode cX1_at 14 = .ok (.i2l, 1) := by decide +kernel
theorem dX1_at_15 : decode cX1_at 15 = .ok (.lconst 0, 1) := by decide +kernel
theorem dX1_at_16 : decode cX1_at 16 = .ok (.ldc2_w 54, 3) := by decide +kernel
theorem dX1_at_19 : decode cX1_at 19 = .ok (.invokestatic 42, 3) := by decide +kernel
theorem dX1_at_22 : decode cX1_at 22 = .ok (.ifCond .eq 17, 3) := by decide +kernel
theorem dX1_at_25 : decode cX1_at 25 = .ok (.iload_n 3, 1) := by decide +kernel
theorem dX1_at_26 : decode cX1_at 26 = .ok (.i2l, 1) := by decide +kernel
theorem dX1_at_27 : decode cX1_at 27 = .ok (.ldc2_w 56, 3) := by decide +kernel
theorem dX1_at_30 : decode cX1_at 30 = .ok (.ldc2_w 58, 3) := by decide +kernel
theorem dX1_at_33 : decode cX1_at 33 = .ok (.invokestatic 42, 3) := by decide +kernel
theorem dX1_at_36 : decode cX1_at 36 = .ok (.ifCond .ne 7, 3) := by decide +kernel
theorem dX1_at_39 : decode cX1_at 39 = .ok (.iconst 2, 1) := by decide +kernel
theorem dX1_at_40 : decode cX1_at 40 = .ok (.goto 4, 3) := by decide +kernel
theorem dX1_at_43 : decode cX1_at 43 = .ok (.iconst 0, 1) := by decide +kernel
theorem dX1_at_44 : decode cX1_at 44 = .ok (.putfield 29, 3) := by decide +kernel
theorem dX1_at_47 : decode cX1_at 47 = .ok (.aload_n 0, 1) := by decide +kernel
theorem dX1_at_48 : decode cX1_at 48 = .ok (.getfield 29, 3) := by decide +kernel
theorem dX1_at_51 : decode cX1_at 51 = .ok (.ifCond .le 7, 3) := by decide +kernel
theorem dX1_at_54 : decode cX1_at 54 = .ok (.iconst 0, 1) := by decide +kernel
theorem dX1_at_55 : decode cX1_at 55 = .ok (.goto 18, 3) := by decide +kernel
theorem dX1_at_58 : decode cX1_at 58 = .ok (.aload_n 0, 1) := by decide +kernel
theorem dX1_at_59 : decode cX1_at 59 = .ok (.getfield 7, 3) := by decide +kernel
theorem dX1_at_62 : decode cX1_at 62 = .ok (.bipush 72, 2) := by decide +kernel
theorem dX1_at_64 : decode cX1_at 64 = .ok (.iload_n 1, 1) := by decide +kernel
theorem dX1_at_65 : decode cX1_at 65 = .ok (.imul, 1) := by decide +kernel
theorem dX1_at_66 : decode cX1_at 66 = .ok (.iload_n 2, 1) := by decide +kernel
theorem dX1_at_67 : decode cX1_at 67 = .ok (.iload_n 3, 1) := by decide +kernel
theorem dX1_at_68 : decode cX1_at 68 = .ok (.invokestatic 60, 3) := by decide +kernel
theorem dX1_at_71 : decode cX1_at 71 = .ok (.iadd, 1) := by decide +kernel
theorem dX1_at_72 : decode cX1_at 72 = .ok (.iaload, 1) := by decide +kernel
theorem dX1_at_73 : decode cX1_at 73 = .ok (.ireturn, 1) := by decide +kernel
theorem dX1_terms_0 : decode cX1_terms 0 = .ok (.aload_n 0, 1) := by decide +kernel
theorem dX1_terms_1 : decode cX1_terms 1 = .ok (.aload_n 0, 1) := by decide +kernel
theorem dX1_terms_2 : decode cX1_terms 2 = .ok (.iload_n 1, 1) := by decide +kernel
theorem dX1_terms_3 : decode cX1_terms 3 = .ok (.invokevirtual 46, 3) := by decide +kernel
theorem dX1_terms_6 : decode cX1_terms 6 = .ok (.ifCond .ne 7, 3) := by decide +kernel
theorem dX1_terms_9 : decode cX1_terms 9 = .ok (.iconst 1, 1) := by decide +kernel
theorem dX1_terms_10 : decode cX1_terms 10 = .ok (.goto 22, 3) := by decide +kernel
theorem dX1_terms_13 : decode cX1_terms 13 = .ok (.iload_n 2, 1) := by decide +kernel
theorem dX1_terms_14 : decode cX1_terms 14 = .ok (.i2l, 1) := by decide +kernel
theorem dX1_terms_15 : decode cX1_terms 15 = .ok (.ldc2_w 68, 3) := by decide +kernel
theorem dX1_terms_18 : decode cX1_terms 18 = .ok (.ldc2_w 54, 3) := by decide +kernel
theorem dX1_terms_21 : decode cX1_terms 21 = .ok (.invokestatic 42, 3) := by decide +kernel
theorem dX1_terms_24 : decode cX1_terms 24 = .ok (.ifCond .eq 7, 3) := by decide +kernel
theorem dX1_terms_27 : decode cX1_terms 27 = .ok (.iconst 0, 1) := by decide +kernel
theorem dX1_terms_28 : decode cX1_terms 28 = .ok (.goto 4, 3) := by decide +kernel
theorem dX1_terms_31 : decode cX1_terms 31 = .ok (.iconst 2, 1) := by decide +kernel
theorem dX1_terms_32 : decode cX1_terms 32 = .ok (.putfield 29, 3) := by decide +kernel
theorem dX1_terms_35 : decode cX1_terms 35 = .ok (.iconst 0, 1) := by decide +kernel
theorem dX1_terms_36 : decode cX1_terms 36 = .ok (.istore_n 3, 1) := by decide +kernel
theorem dX1_terms_37 : decode cX1_terms 37 = .ok (.iconst 0, 1) := by decide +kernel
theorem dX1_terms_38 : decode cX1_terms 38 = .ok (.istore 4, 2) := by decide +kernel
theorem dX1_terms_40 : decode cX1_terms 40 = .ok (.iload 4, 2) := by decide +kernel
theorem dX1_terms_42 : decode cX1_terms 42 = .ok (.bipush 72, 2) := by decide +kernel
theorem dX1_terms_44 : decode cX1_terms 44 = .ok (.if_icmp .ge 48, 3) := by decide +kernel
theorem dX1_terms_47 : decode cX1_terms 47 = .ok (.aload_n 0, 1) := by decide +kernel
theorem dX1_terms_48 : decode cX1_terms 48 = .ok (.getfield 29, 3) := by decide +kernel
theorem dX1_terms_51 : decode cX1_terms 51 = .ok (.ifCond .ne 41, 3) := by decide +kernel
theorem dX1_terms_54 : decode cX1_terms 54 = .ok (.aload_n 0, 1) := by decide +kernel
theorem dX1_terms_55 : decode cX1_terms 55 = .ok (.getfield 7, 3) := by decide +kernel
theorem dX1_terms_58 : decode cX1_terms 58 = .ok (.bipush 72, 2) := by decide +kernel
theorem dX1_terms_60 : decode cX1_terms 60 = .ok (.iload_n 1, 1) := by decide +kernel
theorem dX1_terms_61 : decode cX1_terms 61 = .ok (.imul, 1) := by decide +kernel
theorem dX1_terms_62 : decode cX1_terms 62 = .ok (.iload 4, 2) := by decide +kernel
theorem dX1_terms_64 : decode cX1_terms 64 = .ok (.iadd, 1) := by decide +kernel
theorem dX1_terms_65 : decode cX1_terms 65 = .ok (.iaload, 1) := by decide +kernel
theorem dX1_terms_66 : decode cX1_terms 66 = .ok (.ifCond .eq 20, 3) := by decide +kernel
theorem dX1_terms_69 : decode cX1_terms 69 = .ok (.iload_n 2, 1) := by decide +kernel
theorem dX1_terms_70 : decode cX1_terms 70 = .ok (.iconst (-1), 1) := by decide +kernel
theorem dX1_terms_71 : decode cX1_terms 71 = .ok (.if_icmp .eq 12, 3) := by decide +kernel
theorem dX1_terms_74 : decode cX1_terms 74 = .ok (.iload 4, 2) := by decide +kernel
theorem dX1_terms_76 : decode cX1_terms 76 = .ok (.bipush 9, 2) := by decide +kernel
theorem dX1_terms_78 : decode cX1_terms 78 = .ok (.idiv, 1) := by decide +kernel
theorem dX1_terms_79 : decode cX1_terms 79 = .ok (.iload_n 2, 1) := by decide +kernel
theorem dX1_terms_80 : decode cX1_terms 80 = .ok (.if_icmp .ne 6, 3) := by decide +kernel
theorem dX1_terms_83 : decode cX1_terms 83 = .ok (.iinc 3 1, 3) := by decide +kernel
theorem dX1_terms_86 : decode cX1_terms 86 = .ok (.iinc 4 1, 3) := by decide +kernel
theorem dX1_terms_89 : decode cX1_terms 89 = .ok (.goto (-49), 3) := by decide +kernel
theorem dX1_terms_92 : decode cX1_terms 92 = .ok (.iload_n 3, 1) := by decide +kernel
theorem dX1_terms_93 : decode cX1_terms 93 = .ok (.ireturn, 1) := by decide +kernel
theorem dX1_degree_0 : decode cX1_degree 0 = .ok (.aload_n 0, 1) := by decide +kernel
theorem dX1_degree_1 : decode cX1_degree 1 = .ok (.aload_n 0, 1) := by decide +kernel
theorem dX1_degree_2 : decode cX1_degree 2 = .ok (.iload_n 1, 1) := by decide +kernel
theorem dX1_degree_3 : decode cX1_degree 3 = .ok (.invokevirtual 46, 3) := by decide +kernel
theorem dX1_degree_6 : decode cX1_degree 6 = .ok (.ifCond .ne 7, 3) := by decide +kernel
theorem dX1_degree_9 : decode cX1_degree 9 = .ok (.iconst 1, 1) := by decide +kernel
theorem dX1_degree_10 : decode cX1_degree 10 = .ok (.goto 20, 3) := by decide +kernel
theorem dX1_degree_13 : decode cX1_degree 13 = .ok (.iload_n 2, 1) := by decide +kernel
theorem dX1_degree_14 : decode cX1_degree 14 = .ok (.i2l, 1) := by decide +kernel
theorem dX1_degree_15 : decode cX1_degree 15 = .ok (.lconst 0, 1) := by decide +kernel
theorem dX1_degree_16 : decode cX1_degree 16 = .ok (.ldc2_w 54, 3) := by decide +kernel
theorem dX1_degree_19 : decode cX1_degree 19 = .ok (.invokestatic 42, 3) := by decide +kernel
theorem dX1_degree_22 : decode cX1_degree 22 = .ok (.ifCond .eq 7, 3) := by decide +kernel
theorem dX1_degree_25 : decode cX1_degree 25 = .ok (.iconst 0, 1) := by decide +kernel
theorem dX1_degree_26 : decode cX1_degree 26 = .ok (.goto 4, 3) := by decide +kernel
theorem dX1_degree_29 : decode cX1_degree 29 = .ok (.iconst 2, 1) := by decide +kernel
theorem dX1_degree_30 : decode cX1_degree 30 = .ok (.putfield 29, 3) := by decide +kernel
theorem dX1_degree_33 : decode cX1_degree 33 = .ok (.aload_n 0, 1) := by decide +kernel
theorem dX1_degree_34 : decode cX1_degree 34 = .ok (.getfield 29, 3) := by decide +kernel
theorem dX1_degree_37 : decode cX1_degree 37 = .ok (.ifCond .le 5, 3) := by decide +kernel
theorem dX1_degree_40 : decode cX1_degree 40 = .ok (.iconst 0, 1) := by decide +kernel
theorem dX1_degree_41 : decode cX1_degree 41 = .ok (.ireturn, 1) := by decide +kernel
theorem dX1_degree_42 : decode cX1_degree 42 = .ok (.iconst 4, 1) := by decide +kernel
theorem dX1_degree_43 : decode cX1_degree 43 = .ok (.istore_n 3, 1) := by decide +kernel
theorem dX1_degree_44 : decode cX1_degree 44 = .ok (.iload_n 3, 1) := by decide +kernel
theorem dX1_degree_45 : decode cX1_degree 45 = .ok (.bipush (-4), 2) := by decide +kernel
theorem dX1_degree_47 : decode cX1_degree 47 = .ok (.if_icmp .lt 27, 3) := by decide +kernel
theorem dX1_degree_50 : decode cX1_degree 50 = .ok (.aload_n 0, 1) := by decide +kernel
theorem dX1_degree_51 : decode cX1_degree 51 = .ok (.getfield 7, 3) := by decide +kernel
theorem dX1_degree_54 : decode cX1_degree 54 = .ok (.bipush 72, 2) := by decide +kernel
theorem dX1_degree_56 : decode cX1_degree 56 = .ok (.iload_n 1, 1) := by decide +kernel
theorem dX1_degree_57 : decode cX1_degree 57 = .ok (.imul, 1) := by decide +kernel
theorem dX1_degree_58 : decode cX1_degree 58 = .ok (.iload_n 2, 1) := by decide +kernel
theorem dX1_degree_59 : decode cX1_degree 59 = .ok (.iload_n 3, 1) := by decide +kernel
theorem dX1_degree_60 : decode cX1_degree 60 = .ok (.invokestatic 60, 3) := by decide +kernel
theorem dX1_degree_63 : decode cX1_degree 63 = .ok (.iadd, 1) := by decide +kernel
theorem dX1_degree_64 : decode cX1_degree 64 = .ok (.iaload, 1) := by decide +kernel
theorem dX1_degree_65 : decode cX1_degree 65 = .ok (.ifCond .ne 9, 3) := by decide +kernel
theorem dX1_degree_68 : decode cX1_degree 68 = .ok (.iinc 3 (-1), 3) := by decide +kernel
theorem dX1_degree_71 : decode cX1_degree 71 = .ok (.goto (-27), 3) := by decide +kernel
theorem dX1_degree_74 : decode cX1_degree 74 = .ok (.iload_n 3, 1) := by decide +kernel
theorem dX1_degree_75 : decode cX1_degree 75 = .ok (.ireturn, 1) := by decide +kernel
theorem dX1_power_0 : decode cX1_power 0 = .ok (.lconst 1, 1) := by decide +kernel
theorem dX1_power_1 : decode cX1_power 1 = .ok (.lstore_n 3, 1) := by decide +kernel
theorem dX1_power_2 : decode cX1_power 2 = .ok (.iload_n 2, 1) := by decide +kernel
theorem dX1_power_3 : decode cX1_power 3 = .ok (.ifCond .ge 10, 3) := by decide +kernel
theorem dX1_power_6 : decode cX1_power 6 = .ok (.lload_n 0, 1) := by decide +kernel
theorem dX1_power_7 : decode cX1_power 7 = .ok (.invokestatic 98, 3) := by decide +kernel
theorem dX1_power_10 : decode cX1_power 10 = .ok (.goto 4, 3) := by decide +kernel
theorem dX1_power_13 : decode cX1_power 13 = .ok (.lload_n 0, 1) := by decide +kernel
theorem dX1_power_14 : decode cX1_power 14 = .ok (.lstore 5, 2) := by decide +kernel
theorem dX1_power_16 : decode cX1_power 16 = .ok (.iload_n 2, 1) := by decide +kernel
theorem dX1_power_17 : decode cX1_power 17 = .ok (.ifCond .ge 8, 3) := by decide +kernel
theorem dX1_power_20 : decode cX1_power 20 = .ok (.iload_n 2, 1) := by decide +kernel
theorem dX1_power_21 : decode cX1_power 21 = .ok (.ineg, 1) := by decide +kernel
theorem dX1_power_22 : decode cX1_power 22 = .ok (.goto 4, 3) := by decide +kernel
theorem dX1_power_25 : decode cX1_power 25 = .ok (.iload_n 2, 1) := by decide +kernel
theorem dX1_power_26 : decode cX1_power 26 = .ok (.istore 7, 2) := by decide +kernel
theorem dX1_power_28 : decode cX1_power 28 = .ok (.iload 7, 2) := by decide +kernel
theorem dX1_power_30 : decode cX1_power 30 = .ok (.ifCond .le 18, 3) := by decide +kernel
theorem dX1_power_33 : decode cX1_power 33 = .ok (.lload_n 3, 1) := by decide +kernel
theorem dX1_power_34 : decode cX1_power 34 = .ok (.lload 5, 2) := by decide +kernel
theorem dX1_power_36 : decode cX1_power 36 = .ok (.lmul, 1) := by decide +kernel
theorem dX1_power_37 : decode cX1_power 37 = .ok (.ldc2_w 33, 3) := by decide +kernel
theorem dX1_power_40 : decode cX1_power 40 = .ok (.lrem, 1) := by decide +kernel
theorem dX1_power_41 : decode cX1_power 41 = .ok (.lstore_n 3, 1) := by decide +kernel
theorem dX1_power_42 : decode cX1_power 42 = .ok (.iinc 7 (-1), 3) := by decide +kernel
theorem dX1_power_45 : decode cX1_power 45 = .ok (.goto (-17), 3) := by decide +kernel
theorem dX1_power_48 : decode cX1_power 48 = .ok (.lload_n 3, 1) := by decide +kernel
theorem dX1_power_49 : decode cX1_power 49 = .ok (.lreturn, 1) := by decide +kernel
theorem dX1_value_0 : decode cX1_value 0 = .ok (.aload_n 0, 1) := by decide +kernel
theorem dX1_value_1 : decode cX1_value 1 = .ok (.aload_n 0, 1) := by decide +kernel
theorem dX1_value_2 : decode cX1_value 2 = .ok (.iload_n 1, 1) := by decide +kernel
theorem dX1_value_3 : decode cX1_value 3 = .ok (.invokevirtual 46, 3) := by decide +kernel
theorem dX1_value_6 : decode cX1_value 6 = .ok (.ifCond .eq 7, 3) := by decide +kernel
theorem dX1_value_9 : decode cX1_value 9 = .ok (.iconst 0, 1) := by decide +kernel
theorem dX1_value_10 : decode cX1_value 10 = .ok (.goto 4, 3) := by decide +kernel
theorem dX1_value_13 : decode cX1_value 13 = .ok (.iconst 1, 1) := by decide +kernel
theorem dX1_value_14 : decode cX1_value 14 = .ok (.putfield 29, 3) := by decide +kernel
theorem dX1_value_17 : decode cX1_value 17 = .ok (.aload_n 0, 1) := by decide +kernel
theorem dX1_value_18 : decode cX1_value 18 = .ok (.getfield 29, 3) := by decide +kernel
theorem dX1_value_21 : decode cX1_value 21 = .ok (.ifCond .le 5, 3) := by decide +kernel
theorem dX1_value_24 : decode cX1_value 24 = .ok (.iconst 0, 1) := by decide +kernel
theorem dX1_value_25 : decode cX1_value 25 = .ok (.ireturn, 1) := by decide +kernel
theorem dX1_value_26 : decode cX1_value 26 = .ok (.lload_n 2, 1) := by decide +kernel
theorem dX1_value_27 : decode cX1_value 27 = .ok (.invokestatic 35, 3) := by decide +kernel
theorem dX1_value_30 : decode cX1_value 30 = .ok (.lstore 8, 2) := by decide +kernel
theorem dX1_value_32 : decode cX1_value 32 = .ok (.lload 4, 2) := by decide +kernel
theorem dX1_value_34 : decode cX1_value 34 = .ok (.invokestatic 35, 3) := by decide +kernel
theorem dX1_value_37 : decode cX1_value 37 = .ok (.lstore 10, 2) := by decide +kernel
theorem dX1_value_39 : decode cX1_value 39 = .ok (.lload 6, 2) := by decide +kernel
theorem dX1_value_41 : decode cX1_value 41 = .ok (.invokestatic 35, 3) := by decide +kernel
theorem dX1_value_44 : decode cX1_value 44 = .ok (.lstore 12, 2) := by decide +kernel
theorem dX1_value_46 : decode cX1_value 46 = .ok (.lconst 0, 1) := by decide +kernel
theorem dX1_value_47 : decode cX1_value 47 = .ok (.lstore 14, 2) := by decide +kernel
theorem dX1_value_49 : decode cX1_value 49 = .ok (.iconst 0, 1) := by decide +kernel
theorem dX1_value_50 : decode cX1_value 50 = .ok (.istore 16, 2) := by decide +kernel
theorem dX1_value_52 : decode cX1_value 52 = .ok (.iload 16, 2) := by decide +kernel
theorem dX1_value_54 : decode cX1_value 54 = .ok (.bipush 8, 2) := by decide +kernel
theorem dX1_value_56 : decode cX1_value 56 = .ok (.if_icmp .ge 134, 3) := by decide +kernel
theorem dX1_value_59 : decode cX1_value 59 = .ok (.bipush (-4), 2) := by decide +kernel
theorem dX1_value_61 : decode cX1_value 61 = .ok (.istore 17, 2) := by decide +kernel
theorem dX1_value_63 : decode cX1_value 63 = .ok (.iload 17, 2) := by decide +kernel
theorem dX1_value_65 : decode cX1_value 65 = .ok (.iconst 4, 1) := by decide +kernel
theorem dX1_value_66 : decode cX1_value 66 = .ok (.if_icmp .gt 118, 3) := by decide +kernel
theorem dX1_value_69 : decode cX1_value 69 = .ok (.aload_n 0, 1) := by decide +kernel
theorem dX1_value_70 : decode cX1_value 70 = .ok (.getfield 7, 3) := by decide +kernel
theorem dX1_value_73 : decode cX1_value 73 = .ok (.bipush 72, 2) := by decide +kernel
theorem dX1_value_75 : decode cX1_value 75 = .ok (.iload_n 1, 1) := by decide +kernel
theorem dX1_value_76 : decode cX1_value 76 = .ok (.imul, 1) := by decide +kernel
theorem dX1_value_77 : decode cX1_value 77 = .ok (.iload 16, 2) := by decide +kernel
theorem dX1_value_79 : decode cX1_value 79 = .ok (.iload 17, 2) := by decide +kernel
theorem dX1_value_81 : decode cX1_value 81 = .ok (.invokestatic 60, 3) := by decide +kernel
theorem dX1_value_84 : decode cX1_value 84 = .ok (.iadd, 1) := by decide +kernel
theorem dX1_value_85 : decode cX1_value 85 = .ok (.iaload, 1) := by decide +kernel
theorem dX1_value_86 : decode cX1_value 86 = .ok (.i2l, 1) := by decide +kernel
theorem dX1_value_87 : decode cX1_value 87 = .ok (.lstore 18, 2) := by decide +kernel
theorem dX1_value_89 : decode cX1_value 89 = .ok (.lload 18, 2) := by decide +kernel
theorem dX1_value_91 : decode cX1_value 91 = .ok (.lconst 0, 1) := by decide +kernel
theorem dX1_value_92 : decode cX1_value 92 = .ok (.lcmp, 1) := by decide +kernel
theorem dX1_value_93 : decode cX1_value 93 = .ok (.ifCond .ne 6, 3) := by decide +kernel
theorem dX1_value_96 : decode cX1_value 96 = .ok (.goto 82, 3) := by decide +kernel
theorem dX1_value_99 : decode cX1_value 99 = .ok (.iload 17, 2) := by decide +kernel
theorem dX1_value_101 : decode cX1_value 101 = .ok (.ifCond .ge 10, 3) := by decide +kernel
theorem dX1_value_104 : decode cX1_value 104 = .ok (.lload 8, 2) := by decide +kernel
theorem dX1_value_106 : decode cX1_value 106 = .ok (.lconst 0, 1) := by decide +kernel
theorem dX1_value_107 : decode cX1_value 107 = .ok (.lcmp, 1) := by decide +kernel
theorem dX1_value_108 : decode cX1_value 108 = .ok (.ifCond .eq 18, 3) := by decide +kernel
theorem dX1_value_111 : decode cX1_value 111 = .ok (.iload 16, 2) := by decide +kernel
theorem dX1_value_113 : decode cX1_value 113 = .ok (.invokestatic 78, 3) := by decide +kernel
theorem dX1_value_116 : decode cX1_value 116 = .ok (.ifCond .ge 12, 3) := by decide +kernel
theorem dX1_value_119 : decode cX1_value 119 = .ok (.lload 12, 2) := by decide +kernel
theorem dX1_value_121 : decode cX1_value 121 = .ok (.lconst 0, 1) := by decide +kernel
theorem dX1_value_122 : decode cX1_value 122 = .ok (.lcmp, 1) := by decide +kernel
theorem dX1_value_123 : decode cX1_value 123 = .ok (.ifCond .ne 5, 3) := by decide +kernel
theorem dX1_value_126 : decode cX1_value 126 = .ok (.iconst (-1), 1) := by decide +kernel
theorem dX1_value_127 : decode cX1_value 127 = .ok (.ireturn, 1) := by decide +kernel
theorem dX1_value_128 : decode cX1_value 128 = .ok (.lload 14, 2) := by decide +kernel
theorem dX1_value_130 : decode cX1_value 130 = .ok (.lload 18, 2) := by decide +kernel
theorem dX1_value_132 : decode cX1_value 132 = .ok (.lload 8, 2) := by decide +kernel
theorem dX1_value_134 : decode cX1_value 134 = .ok (.iload 17, 2) := by decide +kernel
theorem dX1_value_136 : decode cX1_value 136 = .ok (.invokestatic 105, 3) := by decide +kernel
theorem dX1_value_139 : decode cX1_value 139 = .ok (.lmul, 1) := by decide +kernel
theorem dX1_value_140 : decode cX1_value 140 = .ok (.ldc2_w 33, 3) := by decide +kernel
theorem dX1_value_143 : decode cX1_value 143 = .ok (.lrem, 1) := by decide +kernel
theorem dX1_value_144 : decode cX1_value 144 = .ok (.iload 16, 2) := by decide +kernel
theorem dX1_value_146 : decode cX1_value 146 = .ok (.iconst 4, 1) := by decide +kernel
theorem dX1_value_147 : decode cX1_value 147 = .ok (.if_icmp .ge 13, 3) := by decide +kernel
theorem dX1_value_150 : decode cX1_value 150 = .ok (.lload 10, 2) := by decide +kernel
theorem dX1_value_152 : decode cX1_value 152 = .ok (.iload 16, 2) := by decide +kernel
theorem dX1_value_154 : decode cX1_value 154 = .ok (.invokestatic 105, 3) := by decide +kernel
theorem dX1_value_157 : decode cX1_value 157 = .ok (.goto 13, 3) := by decide +kernel
theorem dX1_value_160 : decode cX1_value 160 = .ok (.lload 12, 2) := by decide +kernel
theorem dX1_value_162 : decode cX1_value 162 = .ok (.iload 16, 2) := by decide +kernel
theorem dX1_value_164 : decode cX1_value 164 = .ok (.invokestatic 78, 3) := by decide +kernel
theorem dX1_value_167 : decode cX1_value 167 = .ok (.invokestatic 105, 3) := by decide +kernel
theorem dX1_value_170 : decode cX1_value 170 = .ok (.lmul, 1) := by decide +kernel
theorem dX1_value_171 : decode cX1_value 171 = .ok (.ladd, 1) := by decide +kernel
theorem dX1_value_172 : decode cX1_value 172 = .ok (.ldc2_w 33, 3) := by decide +kernel
theorem dX1_value_175 : decode cX1_value 175 = .ok (.lrem, 1) := by decide +kernel
theorem dX1_value_176 : decode cX1_value 176 = .ok (.lstore 14, 2) := by decide +kernel
theorem dX1_value_178 : decode cX1_value 178 = .ok (.iinc 17 1, 3) := by decide +kernel
theorem dX1_value_181 : decode cX1_value 181 = .ok (.goto (-118), 3) := by decide +kernel
theorem dX1_value_184 : decode cX1_value 184 = .ok (.iinc 16 1, 3) := by decide +kernel
theorem dX1_value_187 : decode cX1_value 187 = .ok (.goto (-135), 3) := by decide +kernel
theorem dX1_value_190 : decode cX1_value 190 = .ok (.lload 14, 2) := by decide +kernel
theorem dX1_value_192 : decode cX1_value 192 = .ok (.l2i, 1) := by decide +kernel
theorem dX1_value_193 : decode cX1_value 193 = .ok (.ireturn, 1) := by decide +kernel
theorem dX1_same_0 : decode cX1_same 0 = .ok (.aload_n 0, 1) := by decide +kernel
theorem dX1_same_1 : decode cX1_same 1 = .ok (.aload_n 0, 1) := by decide +kernel
theorem dX1_same_2 : decode cX1_same 2 = .ok (.iload_n 1, 1) := by decide +kernel
theorem dX1_same_3 : decode cX1_same 3 = .ok (.invokevirtual 46, 3) := by decide +kernel
theorem dX1_same_6 : decode cX1_same 6 = .ok (.ifCond .eq 15, 3) := by decide +kernel
theorem dX1_same_9 : decode cX1_same 9 = .ok (.aload_n 0, 1) := by decide +kernel
theorem dX1_same_10 : decode cX1_same 10 = .ok (.iload_n 2, 1) := by decide +kernel
theorem dX1_same_11 : decode cX1_same 11 = .ok (.invokevirtual 46, 3) := by decide +kernel
theorem dX1_same_14 : decode cX1_same 14 = .ok (.ifCond .eq 7, 3) := by decide +kernel
theorem dX1_same_17 : decode cX1_same 17 = .ok (.iconst 0, 1) := by decide +kernel
theorem dX1_same_18 : decode cX1_same 18 = .ok (.goto 4, 3) := by decide +kernel
theorem dX1_same_21 : decode cX1_same 21 = .ok (.iconst 1, 1) := by decide +kernel
theorem dX1_same_22 : decode cX1_same 22 = .ok (.putfield 29, 3) := by decide +kernel
theorem dX1_same_25 : decode cX1_same 25 = .ok (.aload_n 0, 1) := by decide +kernel
theorem dX1_same_26 : decode cX1_same 26 = .ok (.getfield 29, 3) := by decide +kernel
theorem dX1_same_29 : decode cX1_same 29 = .ok (.ifCond .le 5, 3) := by decide +kernel
theorem dX1_same_32 : decode cX1_same 32 = .ok (.iconst 0, 1) := by decide +kernel
theorem dX1_same_33 : decode cX1_same 33 = .ok (.ireturn, 1) := by decide +kernel
theorem dX1_same_34 : decode cX1_same 34 = .ok (.iconst 0, 1) := by decide +kernel
theorem dX1_same_35 : decode cX1_same 35 = .ok (.istore_n 3, 1) := by decide +kernel
theorem dX1_same_36 : decode cX1_same 36 = .ok (.iload_n 3, 1) := by decide +kernel
theorem dX1_same_37 : decode cX1_same 37 = .ok (.bipush 72, 2) := by decide +kernel
theorem dX1_same_39 : decode cX1_same 39 = .ok (.if_icmp .ge 36, 3) := by decide +kernel
theorem dX1_same_42 : decode cX1_same 42 = .ok (.aload_n 0, 1) := by decide +kernel
theorem dX1_same_43 : decode cX1_same 43 = .ok (.getfield 7, 3) := by decide +kernel
theorem dX1_same_46 : decode cX1_same 46 = .ok (.bipush 72, 2) := by decide +kernel
theorem dX1_same_48 : decode cX1_same 48 = .ok (.iload_n 1, 1) := by decide +kernel
theorem dX1_same_49 : decode cX1_same 49 = .ok (.imul, 1) := by decide +kernel
theorem dX1_same_50 : decode cX1_same 50 = .ok (.iload_n 3, 1) := by decide +kernel
theorem dX1_same_51 : decode cX1_same 51 = .ok (.iadd, 1) := by decide +kernel
theorem dX1_same_52 : decode cX1_same 52 = .ok (.iaload, 1) := by decide +kernel
theorem dX1_same_53 : decode cX1_same 53 = .ok (.aload_n 0, 1) := by decide +kernel
theorem dX1_same_54 : decode cX1_same 54 = .ok (.getfield 7, 3) := by decide +kernel
theorem dX1_same_57 : decode cX1_same 57 = .ok (.bipush 72, 2) := by decide +kernel
theorem dX1_same_59 : decode cX1_same 59 = .ok (.iload_n 2, 1) := by decide +kernel
theorem dX1_same_60 : decode cX1_same 60 = .ok (.imul, 1) := by decide +kernel
theorem dX1_same_61 : decode cX1_same 61 = .ok (.iload_n 3, 1) := by decide +kernel
theorem dX1_same_62 : decode cX1_same 62 = .ok (.iadd, 1) := by decide +kernel
theorem dX1_same_63 : decode cX1_same 63 = .ok (.iaload, 1) := by decide +kernel
theorem dX1_same_64 : decode cX1_same 64 = .ok (.if_icmp .eq 5, 3) := by decide +kernel
theorem dX1_same_67 : decode cX1_same 67 = .ok (.iconst 0, 1) := by decide +kernel
theorem dX1_same_68 : decode cX1_same 68 = .ok (.ireturn, 1) := by decide +kernel
theorem dX1_same_69 : decode cX1_same 69 = .ok (.iinc 3 1, 3) := by decide +kernel
theorem dX1_same_72 : decode cX1_same 72 = .ok (.goto (-36), 3) := by decide +kernel
theorem dX1_same_75 : decode cX1_same 75 = .ok (.iconst 1, 1) := by decide +kernel
theorem dX1_same_76 : decode cX1_same 76 = .ok (.ireturn, 1) := by decide +kernel
theorem dX1_count_0 : decode cX1_count 0 = .ok (.aload_n 0, 1) := by decide +kernel
theorem dX1_count_1 : decode cX1_count 1 = .ok (.iconst 0, 1) := by decide +kernel
theorem dX1_count_2 : decode cX1_count 2 = .ok (.putfield 29, 3) := by decide +kernel
theorem dX1_count_5 : decode cX1_count 5 = .ok (.aload_n 0, 1) := by decide +kernel
theorem dX1_count_6 : decode cX1_count 6 = .ok (.getfield 39, 3) := by decide +kernel
theorem dX1_count_9 : decode cX1_count 9 = .ok (.ireturn, 1) := by decide +kernel
theorem dL_term_0 : decode cL_term 0 = .ok (.aload 5, 2) := by decide +kernel
theorem dL_term_2 : decode cL_term 2 = .ok (.iconst 0, 1) := by decide +kernel
theorem dL_term_3 : decode cL_term 3 = .ok (.aload_n 0, 1) := by decide +kernel
theorem dL_term_4 : decode cL_term 4 = .ok (.iload_n 1, 1) := by decide +kernel
theorem dL_term_5 : decode cL_term 5 = .ok (.iload_n 2, 1) := by decide +kernel
theorem dL_term_6 : decode cL_term 6 = .ok (.lload_n 3, 1) := by decide +kernel
theorem dL_term_7 : decode cL_term 7 = .ok (.invokevirtual 7, 3) := by decide +kernel
theorem dL_term_10 : decode cL_term 10 = .ok (.i2l, 1) := by decide +kernel
theorem dL_term_11 : decode cL_term 11 = .ok (.lastore, 1) := by decide +kernel
theorem dL_term_12 : decode cL_term 12 = .ok (.goto 11, 3) := by decide +kernel
theorem dL_term_15 : decode cL_term 15 = .ok (.astore 6, 2) := by decide +kernel
theorem dL_term_17 : decode cL_term 17 = .ok (.iconst 1, 1) := by decide +kernel
theorem dL_term_18 : decode cL_term 18 = .ok (.ireturn, 1) := by decide +kernel
theorem dL_term_19 : decode cL_term 19 = .ok (.astore 6, 2) := by decide +kernel
theorem dL_term_21 : decode cL_term 21 = .ok (.iconst 2, 1) := by decide +kernel
theorem dL_term_22 : decode cL_term 22 = .ok (.ireturn, 1) := by decide +kernel
theorem dL_term_23 : decode cL_term 23 = .ok (.iconst 0, 1) := by decide +kernel
theorem dL_term_24 : decode cL_term 24 = .ok (.ireturn, 1) := by decide +kernel
theorem dL_add_0 : decode cL_add 0 = .ok (.aload_n 3, 1) := by decide +kernel
theorem dL_add_1 : decode cL_add 1 = .ok (.iconst 0, 1) := by decide +kernel
theorem dL_add_2 : decode cL_add 2 = .ok (.aload_n 0, 1) := by decide +kernel
theorem dL_add_3 : decode cL_add 3 = .ok (.iload_n 1, 1) := by decide +kernel
theorem dL_add_4 : decode cL_add 4 = .ok (.iload_n 2, 1) := by decide +kernel
theorem dL_add_5 : decode cL_add 5 = .ok (.invokevirtual 17, 3) := by decide +kernel
theorem dL_add_8 : decode cL_add 8 = .ok (.i2l, 1) := by decide +kernel
theorem dL_add_9 : decode cL_add 9 = .ok (.lastore, 1) := by decide +kernel
theorem dL_add_10 : decode cL_add 10 = .ok (.goto 11, 3) := by decide +kernel
theorem dL_add_13 : decode cL_add 13 = .ok (.astore 4, 2) := by decide +kernel
theorem dL_add_15 : decode cL_add 15 = .ok (.iconst 1, 1) := by decide +kernel
theorem dL_add_16 : decode cL_add 16 = .ok (.ireturn, 1) := by decide +kernel
theorem dL_add_17 : decode cL_add 17 = .ok (.astore 4, 2) := by decide +kernel
theorem dL_add_19 : decode cL_add 19 = .ok (.iconst 2, 1) := by decide +kernel
theorem dL_add_20 : decode cL_add 20 = .ok (.ireturn, 1) := by decide +kernel
theorem dL_add_21 : decode cL_add 21 = .ok (.iconst 0, 1) := by decide +kernel
theorem dL_add_22 : decode cL_add 22 = .ok (.ireturn, 1) := by decide +kernel
theorem dL_less_0 : decode cL_less 0 = .ok (.aload 5, 2) := by decide +kernel
theorem dL_less_2 : decode cL_less 2 = .ok (.iconst 0, 1) := by decide +kernel
theorem dL_less_3 : decode cL_less 3 = .ok (.aload_n 0, 1) := by decide +kernel
theorem dL_less_4 : decode cL_less 4 = .ok (.iload_n 1, 1) := by decide +kernel
theorem dL_less_5 : decode cL_less 5 = .ok (.iload_n 2, 1) := by decide +kernel
theorem dL_less_6 : decode cL_less 6 = .ok (.lload_n 3, 1) := by decide +kernel
theorem dL_less_7 : decode cL_less 7 = .ok (.invokevirtual 23, 3) := by decide +kernel
theorem dL_less_10 : decode cL_less 10 = .ok (.i2l, 1) := by decide +kernel
theorem dL_less_11 : decode cL_less 11 = .ok (.lastore, 1) := by decide +kernel
theorem dL_less_12 : decode cL_less 12 = .ok (.goto 11, 3) := by decide +kernel
theorem dL_less_15 : decode cL_less 15 = .ok (.astore 6, 2) := by decide +kernel
theorem dL_less_17 : decode cL_less 17 = .ok (.iconst 1, 1) := by decide +kernel
theorem dL_less_18 : decode cL_less 18 = .ok (.ireturn, 1) := by decide +kernel
theorem dL_less_19 : decode cL_less 19 = .ok (.astore 6, 2) := by decide +kernel
theorem dL_less_21 : decode cL_less 21 = .ok (.iconst 2, 1) := by decide +kernel
theorem dL_less_22 : decode cL_less 22 = .ok (.ireturn, 1) := by decide +kernel
theorem dL_less_23 : decode cL_less 23 = .ok (.iconst 0, 1) := by decide +kernel
theorem dL_less_24 : decode cL_less 24 = .ok (.ireturn, 1) := by decide +kernel
theorem dL_times_0 : decode cL_times 0 = .ok (.aload_n 3, 1) := by decide +kernel
theorem dL_times_1 : decode cL_times 1 = .ok (.iconst 0, 1) := by decide +kernel
theorem dL_times_2 : decode cL_times 2 = .ok (.aload_n 0, 1) := by decide +kernel
theorem dL_times_3 : decode cL_times 3 = .ok (.iload_n 1, 1) := by decide +kernel
theorem dL_times_4 : decode cL_times 4 = .ok (.iload_n 2, 1) := by decide +kernel
theorem dL_times_5 : decode cL_times 5 = .ok (.invokevirtual 26, 3) := by decide +kernel
theorem dL_times_8 : decode cL_times 8 = .ok (.i2l, 1) := by decide +kernel
theorem dL_times_9 : decode cL_times 9 = .ok (.lastore, 1) := by decide +kernel
theorem dL_times_10 : decode cL_times 10 = .ok (.goto 11, 3) := by decide +kernel
theorem dL_times_13 : decode cL_times 13 = .ok (.astore 4, 2) := by decide +kernel
theorem dL_times_15 : decode cL_times 15 = .ok (.iconst 1, 1) := by decide +kernel
theorem dL_times_16 : decode cL_times 16 = .ok (.ireturn, 1) := by decide +kernel
theorem dL_times_17 : decode cL_times 17 = .ok (.astore 4, 2) := by decide +kernel
theorem dL_times_19 : decode cL_times 19 = .ok (.iconst 2, 1) := by decide +kernel
theorem dL_times_20 : decode cL_times 20 = .ok (.ireturn, 1) := by decide +kernel
theorem dL_times_21 : decode cL_times 21 = .ok (.iconst 0, 1) := by decide +kernel
theorem dL_times_22 : decode cL_times 22 = .ok (.ireturn, 1) := by decide +kernel
theorem dL_derive_0 : decode cL_derive 0 = .ok (.aload_n 2, 1) := by decide +kernel
theorem dL_derive_1 : decode cL_derive 1 = .ok (.iconst 0, 1) := by decide +kernel
theorem dL_derive_2 : decode cL_derive 2 = .ok (.aload_n 0, 1) := by decide +kernel
theorem dL_derive_3 : decode cL_derive 3 = .ok (.iload_n 1, 1) := by decide +kernel
theorem dL_derive_4 : decode cL_derive 4 = .ok (.invokevirtual 29, 3) := by decide +kernel
theorem dL_derive_7 : decode cL_derive 7 = .ok (.i2l, 1) := by decide +kernel
theorem dL_derive_8 : decode cL_derive 8 = .ok (.lastore, 1) := by decide +kernel
theorem dL_derive_9 : decode cL_derive 9 = .ok (.goto 9, 3) := by decide +kernel
theorem dL_derive_12 : decode cL_derive 12 = .ok (.astore_n 3, 1) := by decide +kernel
theorem dL_derive_13 : decode cL_derive 13 = .ok (.iconst 1, 1) := by decide +kernel
theorem dL_derive_14 : decode cL_derive 14 = .ok (.ireturn, 1) := by decide +kernel
theorem dL_derive_15 : decode cL_derive 15 = .ok (.astore_n 3, 1) := by decide +kernel
theorem dL_derive_16 : decode cL_derive 16 = .ok (.iconst 2, 1) := by decide +kernel
theorem dL_derive_17 : decode cL_derive 17 = .ok (.ireturn, 1) := by decide +kernel
theorem dL_derive_18 : decode cL_derive 18 = .ok (.iconst 0, 1) := by decide +kernel
theorem dL_derive_19 : decode cL_derive 19 = .ok (.ireturn, 1) := by decide +kernel
theorem dL_integrate_0 : decode cL_integrate 0 = .ok (.aload_n 2, 1) := by decide +kernel
theorem dL_integrate_1 : decode cL_integrate 1 = .ok (.iconst 0, 1) := by decide +kernel
theorem dL_integrate_2 : decode cL_integrate 2 = .ok (.aload_n 0, 1) := by decide +kernel
theorem dL_integrate_3 : decode cL_integrate 3 = .ok (.iload_n 1, 1) := by decide +kernel
theorem dL_integrate_4 : decode cL_integrate 4 = .ok (.invokevirtual 33, 3) := by decide +kernel
theorem dL_integrate_7 : decode cL_integrate 7 = .ok (.i2l, 1) := by decide +kernel
theorem dL_integrate_8 : decode cL_integrate 8 = .ok (.lastore, 1) := by decide +kernel
theorem dL_integrate_9 : decode cL_integrate 9 = .ok (.goto 9, 3) := by decide +kernel
theorem dL_integrate_12 : decode cL_integrate 12 = .ok (.astore_n 3, 1) := by decide +kernel
theorem dL_integrate_13 : decode cL_integrate 13 = .ok (.iconst 1, 1) := by decide +kernel
theorem dL_integrate_14 : decode cL_integrate 14 = .ok (.ireturn, 1) := by decide +kernel
theorem dL_integrate_15 : decode cL_integrate 15 = .ok (.astore_n 3, 1) := by decide +kernel
theorem dL_integrate_16 : decode cL_integrate 16 = .ok (.iconst 2, 1) := by decide +kernel
theorem dL_integrate_17 : decode cL_integrate 17 = .ok (.ireturn, 1) := by decide +kernel
theorem dL_integrate_18 : decode cL_integrate 18 = .ok (.iconst 0, 1) := by decide +kernel
theorem dL_integrate_19 : decode cL_integrate 19 = .ok (.ireturn, 1) := by decide +kernel
theorem dL_rest_0 : decode cL_rest 0 = .ok (.aload_n 3, 1) := by decide +kernel
theorem dL_rest_1 : decode cL_rest 1 = .ok (.iconst 0, 1) := by decide +kernel
theorem dL_rest_2 : decode cL_rest 2 = .ok (.aload_n 0, 1) := by decide +kernel
theorem dL_rest_3 : decode cL_rest 3 = .ok (.iload_n 1, 1) := by decide +kernel
theorem dL_rest_4 : decode cL_rest 4 = .ok (.iload_n 2, 1) := by decide +kernel
theorem dL_rest_5 : decode cL_rest 5 = .ok (.invokevirtual 36, 3) := by decide +kernel
end
section
theorem dL_rest_8 : decode cL_rest 8 = .ok (.i2l, 1) := by decide +kernel
theorem dL_rest_9 : decode cL_rest 9 = .ok (.lastore, 1) := by decide +kernel
theorem dL_rest_10 : decode cL_rest 10 = .ok (.goto 11, 3) := by decide +kernel
theorem dL_rest_13 : decode cL_rest 13 = .ok (.astore 4, 2) := by decide +kernel
theorem dL_rest_15 : decode cL_rest 15 = .ok (.iconst 1, 1) := by decide +kernel
theorem dL_rest_16 : decode cL_rest 16 = .ok (.ireturn, 1) := by decide +kernel
theorem dL_rest_17 : decode cL_rest 17 = .ok (.astore 4, 2) := by decide +kernel
theorem dL_rest_19 : decode cL_rest 19 = .ok (.iconst 2, 1) := by decide +kernel
theorem dL_rest_20 : decode cL_rest 20 = .ok (.ireturn, 1) := by decide +kernel
theorem dL_rest_21 : decode cL_rest 21 = .ok (.iconst 0, 1) := by decide +kernel
theorem dL_rest_22 : decode cL_rest 22 = .ok (.ireturn, 1) := by decide +kernel
theorem dL_at_0 : decode cL_at 0 = .ok (.aload 4, 2) := by decide +kernel
theorem dL_at_2 : decode cL_at 2 = .ok (.iconst 0, 1) := by decide +kernel
theorem dL_at_3 : decode cL_at 3 = .ok (.aload_n 0, 1) := by decide +kernel
theorem dL_at_4 : decode cL_at 4 = .ok (.iload_n 1, 1) := by decide +kernel
theorem dL_at_5 : decode cL_at 5 = .ok (.iload_n 2, 1) := by decide +kernel
theorem dL_at_6 : decode cL_at 6 = .ok (.iload_n 3, 1) := by decide +kernel
theorem dL_at_7 : decode cL_at 7 = .ok (.invokevirtual 39, 3) := by decide +kernel
theorem dL_at_10 : decode cL_at 10 = .ok (.i2l, 1) := by decide +kernel
theorem dL_at_11 : decode cL_at 11 = .ok (.lastore, 1) := by decide +kernel
theorem dL_at_12 : decode cL_at 12 = .ok (.goto 11, 3) := by decide +kernel
theorem dL_at_15 : decode cL_at 15 = .ok (.astore 5, 2) := by decide +kernel
theorem dL_at_17 : decode cL_at 17 = .ok (.iconst 1, 1) := by decide +kernel
theorem dL_at_18 : decode cL_at 18 = .ok (.ireturn, 1) := by decide +kernel
theorem dL_at_19 : decode cL_at 19 = .ok (.astore 5, 2) := by decide +kernel
theorem dL_at_21 : decode cL_at 21 = .ok (.iconst 2, 1) := by decide +kernel
theorem dL_at_22 : decode cL_at 22 = .ok (.ireturn, 1) := by decide +kernel
theorem dL_at_23 : decode cL_at 23 = .ok (.iconst 0, 1) := by decide +kernel
theorem dL_at_24 : decode cL_at 24 = .ok (.ireturn, 1) := by decide +kernel
theorem dL_terms_0 : decode cL_terms 0 = .ok (.aload_n 3, 1) := by decide +kernel
theorem dL_terms_1 : decode cL_terms 1 = .ok (.iconst 0, 1) := by decide +kernel
theorem dL_terms_2 : decode cL_terms 2 = .ok (.aload_n 0, 1) := by decide +kernel
theorem dL_terms_3 : decode cL_terms 3 = .ok (.iload_n 1, 1) := by decide +kernel
theorem dL_terms_4 : decode cL_terms 4 = .ok (.iload_n 2, 1) := by decide +kernel
theorem dL_terms_5 : decode cL_terms 5 = .ok (.invokevirtual 43, 3) := by decide +kernel
theorem dL_terms_8 : decode cL_terms 8 = .ok (.i2l, 1) := by decide +kernel
theorem dL_terms_9 : decode cL_terms 9 = .ok (.lastore, 1) := by decide +kernel
theorem dL_terms_10 : decode cL_terms 10 = .ok (.goto 11, 3) := by decide +kernel
theorem dL_terms_13 : decode cL_terms 13 = .ok (.astore 4, 2) := by decide +kernel
theorem dL_terms_15 : decode cL_terms 15 = .ok (.iconst 1, 1) := by decide +kernel
theorem dL_terms_16 : decode cL_terms 16 = .ok (.ireturn, 1) := by decide +kernel
theorem dL_terms_17 : decode cL_terms 17 = .ok (.astore 4, 2) := by decide +kernel
theorem dL_terms_19 : decode cL_terms 19 = .ok (.iconst 2, 1) := by decide +kernel
theorem dL_terms_20 : decode cL_terms 20 = .ok (.ireturn, 1) := by decide +kernel
theorem dL_terms_21 : decode cL_terms 21 = .ok (.iconst 0, 1) := by decide +kernel
theorem dL_terms_22 : decode cL_terms 22 = .ok (.ireturn, 1) := by decide +kernel
theorem dL_degree_0 : decode cL_degree 0 = .ok (.aload_n 3, 1) := by decide +kernel
theorem dL_degree_1 : decode cL_degree 1 = .ok (.iconst 0, 1) := by decide +kernel
theorem dL_degree_2 : decode cL_degree 2 = .ok (.aload_n 0, 1) := by decide +kernel
theorem dL_degree_3 : decode cL_degree 3 = .ok (.iload_n 1, 1) := by decide +kernel
theorem dL_degree_4 : decode cL_degree 4 = .ok (.iload_n 2, 1) := by decide +kernel
theorem dL_degree_5 : decode cL_degree 5 = .ok (.invokevirtual 46, 3) := by decide +kernel
theorem dL_degree_8 : decode cL_degree 8 = .ok (.i2l, 1) := by decide +kernel
theorem dL_degree_9 : decode cL_degree 9 = .ok (.lastore, 1) := by decide +kernel
theorem dL_degree_10 : decode cL_degree 10 = .ok (.goto 11, 3) := by decide +kernel
theorem dL_degree_13 : decode cL_degree 13 = .ok (.astore 4, 2) := by decide +kernel
theorem dL_degree_15 : decode cL_degree 15 = .ok (.iconst 1, 1) := by decide +kernel
theorem dL_degree_16 : decode cL_degree 16 = .ok (.ireturn, 1) := by decide +kernel
theorem dL_degree_17 : decode cL_degree 17 = .ok (.astore 4, 2) := by decide +kernel
theorem dL_degree_19 : decode cL_degree 19 = .ok (.iconst 2, 1) := by decide +kernel
theorem dL_degree_20 : decode cL_degree 20 = .ok (.ireturn, 1) := by decide +kernel
theorem dL_degree_21 : decode cL_degree 21 = .ok (.iconst 0, 1) := by decide +kernel
theorem dL_degree_22 : decode cL_degree 22 = .ok (.ireturn, 1) := by decide +kernel
theorem dL_value_0 : decode cL_value 0 = .ok (.aload 8, 2) := by decide +kernel
theorem dL_value_2 : decode cL_value 2 = .ok (.iconst 0, 1) := by decide +kernel
theorem dL_value_3 : decode cL_value 3 = .ok (.aload_n 0, 1) := by decide +kernel
theorem dL_value_4 : decode cL_value 4 = .ok (.iload_n 1, 1) := by decide +kernel
theorem dL_value_5 : decode cL_value 5 = .ok (.lload_n 2, 1) := by decide +kernel
theorem dL_value_6 : decode cL_value 6 = .ok (.lload 4, 2) := by decide +kernel
theorem dL_value_8 : decode cL_value 8 = .ok (.lload 6, 2) := by decide +kernel
theorem dL_value_10 : decode cL_value 10 = .ok (.invokevirtual 49, 3) := by decide +kernel
theorem dL_value_13 : decode cL_value 13 = .ok (.i2l, 1) := by decide +kernel
theorem dL_value_14 : decode cL_value 14 = .ok (.lastore, 1) := by decide +kernel
theorem dL_value_15 : decode cL_value 15 = .ok (.goto 7, 3) := by decide +kernel
theorem dL_value_18 : decode cL_value 18 = .ok (.astore 9, 2) := by decide +kernel
theorem dL_value_20 : decode cL_value 20 = .ok (.iconst 1, 1) := by decide +kernel
theorem dL_value_21 : decode cL_value 21 = .ok (.ireturn, 1) := by decide +kernel
theorem dL_value_22 : decode cL_value 22 = .ok (.iconst 0, 1) := by decide +kernel
theorem dL_value_23 : decode cL_value 23 = .ok (.ireturn, 1) := by decide +kernel
theorem dL_same_0 : decode cL_same 0 = .ok (.aload_n 3, 1) := by decide +kernel
theorem dL_same_1 : decode cL_same 1 = .ok (.iconst 0, 1) := by decide +kernel
theorem dL_same_2 : decode cL_same 2 = .ok (.aload_n 0, 1) := by decide +kernel
theorem dL_same_3 : decode cL_same 3 = .ok (.iload_n 1, 1) := by decide +kernel
theorem dL_same_4 : decode cL_same 4 = .ok (.iload_n 2, 1) := by decide +kernel
theorem dL_same_5 : decode cL_same 5 = .ok (.invokevirtual 53, 3) := by decide +kernel
theorem dL_same_8 : decode cL_same 8 = .ok (.ifCond .eq 7, 3) := by decide +kernel
theorem dL_same_11 : decode cL_same 11 = .ok (.lconst 1, 1) := by decide +kernel
theorem dL_same_12 : decode cL_same 12 = .ok (.goto 4, 3) := by decide +kernel
theorem dL_same_15 : decode cL_same 15 = .ok (.lconst 0, 1) := by decide +kernel
theorem dL_same_16 : decode cL_same 16 = .ok (.lastore, 1) := by decide +kernel
theorem dL_same_17 : decode cL_same 17 = .ok (.goto 7, 3) := by decide +kernel
theorem dL_same_20 : decode cL_same 20 = .ok (.astore 4, 2) := by decide +kernel
theorem dL_same_22 : decode cL_same 22 = .ok (.iconst 1, 1) := by decide +kernel
theorem dL_same_23 : decode cL_same 23 = .ok (.ireturn, 1) := by decide +kernel
theorem dL_same_24 : decode cL_same 24 = .ok (.iconst 0, 1) := by decide +kernel
theorem dL_same_25 : decode cL_same 25 = .ok (.ireturn, 1) := by decide +kernel
theorem dL_law_0 : decode cL_law 0 = .ok (.new 8, 3) := by decide +kernel
theorem dL_law_3 : decode cL_law 3 = .ok (.dup, 1) := by decide +kernel
theorem dL_law_4 : decode cL_law 4 = .ok (.invokespecial 57, 3) := by decide +kernel
theorem dL_law_7 : decode cL_law 7 = .ok (.astore_n 1, 1) := by decide +kernel
theorem dL_law_8 : decode cL_law 8 = .ok (.new 58, 3) := by decide +kernel
theorem dL_law_11 : decode cL_law 11 = .ok (.dup, 1) := by decide +kernel
theorem dL_law_12 : decode cL_law 12 = .ok (.invokespecial 60, 3) := by decide +kernel
theorem dL_law_15 : decode cL_law 15 = .ok (.astore_n 2, 1) := by decide +kernel
theorem dL_law_16 : decode cL_law 16 = .ok (.iconst 1, 1) := by decide +kernel
theorem dL_law_17 : decode cL_law 17 = .ok (.newarray .long, 2) := by decide +kernel
theorem dL_law_19 : decode cL_law 19 = .ok (.astore_n 3, 1) := by decide +kernel
theorem dL_law_20 : decode cL_law 20 = .ok (.iconst 0, 1) := by decide +kernel
theorem dL_law_21 : decode cL_law 21 = .ok (.istore 4, 2) := by decide +kernel
theorem dL_law_23 : decode cL_law 23 = .ok (.iload 4, 2) := by decide +kernel
theorem dL_law_25 : decode cL_law 25 = .ok (.aload_n 0, 1) := by decide +kernel
theorem dL_law_26 : decode cL_law 26 = .ok (.arraylength, 1) := by decide +kernel
theorem dL_law_27 : decode cL_law 27 = .ok (.bipush 8, 2) := by decide +kernel
theorem dL_law_29 : decode cL_law 29 = .ok (.isub, 1) := by decide +kernel
theorem dL_law_30 : decode cL_law 30 = .ok (.if_icmp .gt 1120, 3) := by decide +kernel
theorem dL_law_33 : decode cL_law 33 = .ok (.aload_n 0, 1) := by decide +kernel
theorem dL_law_34 : decode cL_law 34 = .ok (.iload 4, 2) := by decide +kernel
theorem dL_law_36 : decode cL_law 36 = .ok (.iaload, 1) := by decide +kernel
theorem dL_law_37 : decode cL_law 37 = .ok (.bipush 15, 2) := by decide +kernel
theorem dL_law_39 : decode cL_law 39 = .ok (.iand, 1) := by decide +kernel
theorem dL_law_40 : decode cL_law 40 = .ok (.tableswitch 1104 0 12 #[68, 180, 248, 360, 428, 484, 540, 608, 688, 756, 824, 1016, 1091], 68) := by decide +kernel
theorem dL_law_108 : decode cL_law 108 = .ok (.aload_n 1, 1) := by decide +kernel
theorem dL_law_109 : decode cL_law 109 = .ok (.aload_n 0, 1) := by decide +kernel
theorem dL_law_110 : decode cL_law 110 = .ok (.iload 4, 2) := by decide +kernel
theorem dL_law_112 : decode cL_law 112 = .ok (.iconst 1, 1) := by decide +kernel
theorem dL_law_113 : decode cL_law 113 = .ok (.iadd, 1) := by decide +kernel
theorem dL_law_114 : decode cL_law 114 = .ok (.iaload, 1) := by decide +kernel
theorem dL_law_115 : decode cL_law 115 = .ok (.aload_n 0, 1) := by decide +kernel
theorem dL_law_116 : decode cL_law 116 = .ok (.iload 4, 2) := by decide +kernel
theorem dL_law_118 : decode cL_law 118 = .ok (.iconst 2, 1) := by decide +kernel
theorem dL_law_119 : decode cL_law 119 = .ok (.iadd, 1) := by decide +kernel
theorem dL_law_120 : decode cL_law 120 = .ok (.iaload, 1) := by decide +kernel
theorem dL_law_121 : decode cL_law 121 = .ok (.aload_n 0, 1) := by decide +kernel
theorem dL_law_122 : decode cL_law 122 = .ok (.iload 4, 2) := by decide +kernel
theorem dL_law_124 : decode cL_law 124 = .ok (.iconst 3, 1) := by decide +kernel
theorem dL_law_125 : decode cL_law 125 = .ok (.iadd, 1) := by decide +kernel
theorem dL_law_126 : decode cL_law 126 = .ok (.iaload, 1) := by decide +kernel
theorem dL_law_127 : decode cL_law 127 = .ok (.i2l, 1) := by decide +kernel
theorem dL_law_128 : decode cL_law 128 = .ok (.bipush 32, 2) := by decide +kernel
theorem dL_law_130 : decode cL_law 130 = .ok (.lshl, 1) := by decide +kernel
theorem dL_law_131 : decode cL_law 131 = .ok (.aload_n 0, 1) := by decide +kernel
theorem dL_law_132 : decode cL_law 132 = .ok (.iload 4, 2) := by decide +kernel
theorem dL_law_134 : decode cL_law 134 = .ok (.iconst 4, 1) := by decide +kernel
theorem dL_law_135 : decode cL_law 135 = .ok (.iadd, 1) := by decide +kernel
theorem dL_law_136 : decode cL_law 136 = .ok (.iaload, 1) := by decide +kernel
theorem dL_law_137 : decode cL_law 137 = .ok (.i2l, 1) := by decide +kernel
theorem dL_law_138 : decode cL_law 138 = .ok (.ldc2_w 61, 3) := by decide +kernel
theorem dL_law_141 : decode cL_law 141 = .ok (.land, 1) := by decide +kernel
theorem dL_law_142 : decode cL_law 142 = .ok (.lor, 1) := by decide +kernel
theorem dL_law_143 : decode cL_law 143 = .ok (.aload_n 3, 1) := by decide +kernel
theorem dL_law_144 : decode cL_law 144 = .ok (.invokestatic 63, 3) := by decide +kernel
theorem dL_law_147 : decode cL_law 147 = .ok (.istore 5, 2) := by decide +kernel
theorem dL_law_149 : decode cL_law 149 = .ok (.aload_n 2, 1) := by decide +kernel
theorem dL_law_150 : decode cL_law 150 = .ok (.aload_n 0, 1) := by decide +kernel
theorem dL_law_151 : decode cL_law 151 = .ok (.iload 4, 2) := by decide +kernel
theorem dL_law_153 : decode cL_law 153 = .ok (.iconst 1, 1) := by decide +kernel
theorem dL_law_154 : decode cL_law 154 = .ok (.iadd, 1) := by decide +kernel
theorem dL_law_155 : decode cL_law 155 = .ok (.iaload, 1) := by decide +kernel
theorem dL_law_156 : decode cL_law 156 = .ok (.aload_n 0, 1) := by decide +kernel
theorem dL_law_157 : decode cL_law 157 = .ok (.iload 4, 2) := by decide +kernel
theorem dL_law_159 : decode cL_law 159 = .ok (.iconst 2, 1) := by decide +kernel
theorem dL_law_160 : decode cL_law 160 = .ok (.iadd, 1) := by decide +kernel
theorem dL_law_161 : decode cL_law 161 = .ok (.iaload, 1) := by decide +kernel
theorem dL_law_162 : decode cL_law 162 = .ok (.aload_n 0, 1) := by decide +kernel
theorem dL_law_163 : decode cL_law 163 = .ok (.iload 4, 2) := by decide +kernel
theorem dL_law_165 : decode cL_law 165 = .ok (.iconst 3, 1) := by decide +kernel
theorem dL_law_166 : decode cL_law 166 = .ok (.iadd, 1) := by decide +kernel
theorem dL_law_167 : decode cL_law 167 = .ok (.iaload, 1) := by decide +kernel
theorem dL_law_168 : decode cL_law 168 = .ok (.i2l, 1) := by decide +kernel
theorem dL_law_169 : decode cL_law 169 = .ok (.bipush 32, 2) := by decide +kernel
theorem dL_law_171 : decode cL_law 171 = .ok (.lshl, 1) := by decide +kernel
theorem dL_law_172 : decode cL_law 172 = .ok (.aload_n 0, 1) := by decide +kernel
theorem dL_law_173 : decode cL_law 173 = .ok (.iload 4, 2) := by decide +kernel
theorem dL_law_175 : decode cL_law 175 = .ok (.iconst 4, 1) := by decide +kernel
theorem dL_law_176 : decode cL_law 176 = .ok (.iadd, 1) := by decide +kernel
theorem dL_law_177 : decode cL_law 177 = .ok (.iaload, 1) := by decide +kernel
theorem dL_law_178 : decode cL_law 178 = .ok (.i2l, 1) := by decide +kernel
theorem dL_law_179 : decode cL_law 179 = .ok (.ldc2_w 61, 3) := by decide +kernel
theorem dL_law_182 : decode cL_law 182 = .ok (.land, 1) := by decide +kernel
theorem dL_law_183 : decode cL_law 183 = .ok (.lor, 1) := by decide +kernel
theorem dL_law_184 : decode cL_law 184 = .ok (.invokevirtual 68, 3) := by decide +kernel
theorem dL_law_187 : decode cL_law 187 = .ok (.istore 6, 2) := by decide +kernel
theorem dL_law_189 : decode cL_law 189 = .ok (.aload_n 2, 1) := by decide +kernel
theorem dL_law_190 : decode cL_law 190 = .ok (.invokevirtual 69, 3) := by decide +kernel
theorem dL_law_193 : decode cL_law 193 = .ok (.iload 5, 2) := by decide +kernel
theorem dL_law_195 : decode cL_law 195 = .ok (.if_icmp .eq 5, 3) := by decide +kernel
theorem dL_law_198 : decode cL_law 198 = .ok (.iconst 0, 1) := by decide +kernel
theorem dL_law_199 : decode cL_law 199 = .ok (.ireturn, 1) := by decide +kernel
theorem dL_law_200 : decode cL_law 200 = .ok (.iload 5, 2) := by decide +kernel
theorem dL_law_202 : decode cL_law 202 = .ok (.ifCond .ne 15, 3) := by decide +kernel
theorem dL_law_205 : decode cL_law 205 = .ok (.aload_n 3, 1) := by decide +kernel
theorem dL_law_206 : decode cL_law 206 = .ok (.iconst 0, 1) := by decide +kernel
theorem dL_law_207 : decode cL_law 207 = .ok (.laload, 1) := by decide +kernel
theorem dL_law_208 : decode cL_law 208 = .ok (.iload 6, 2) := by decide +kernel
theorem dL_law_210 : decode cL_law 210 = .ok (.i2l, 1) := by decide +kernel
theorem dL_law_211 : decode cL_law 211 = .ok (.lcmp, 1) := by decide +kernel
theorem dL_law_212 : decode cL_law 212 = .ok (.ifCond .eq 5, 3) := by decide +kernel
theorem dL_law_215 : decode cL_law 215 = .ok (.iconst 0, 1) := by decide +kernel
theorem dL_law_216 : decode cL_law 216 = .ok (.ireturn, 1) := by decide +kernel
theorem dL_law_217 : decode cL_law 217 = .ok (.goto 927, 3) := by decide +kernel
theorem dL_law_220 : decode cL_law 220 = .ok (.aload_n 1, 1) := by decide +kernel
theorem dL_law_221 : decode cL_law 221 = .ok (.aload_n 0, 1) := by decide +kernel
theorem dL_law_222 : decode cL_law 222 = .ok (.iload 4, 2) := by decide +kernel
theorem dL_law_224 : decode cL_law 224 = .ok (.iconst 1, 1) := by decide +kernel
theorem dL_law_225 : decode cL_law 225 = .ok (.iadd, 1) := by decide +kernel
theorem dL_law_226 : decode cL_law 226 = .ok (.iaload, 1) := by decide +kernel
theorem dL_law_227 : decode cL_law 227 = .ok (.aload_n 0, 1) := by decide +kernel
theorem dL_law_228 : decode cL_law 228 = .ok (.iload 4, 2) := by decide +kernel
theorem dL_law_230 : decode cL_law 230 = .ok (.iconst 2, 1) := by decide +kernel
theorem dL_law_231 : decode cL_law 231 = .ok (.iadd, 1) := by decide +kernel
theorem dL_law_232 : decode cL_law 232 = .ok (.iaload, 1) := by decide +kernel
theorem dL_law_233 : decode cL_law 233 = .ok (.aload_n 3, 1) := by decide +kernel
theorem dL_law_234 : decode cL_law 234 = .ok (.invokestatic 73, 3) := by decide +kernel
theorem dL_law_237 : decode cL_law 237 = .ok (.istore 5, 2) := by decide +kernel
theorem dL_law_239 : decode cL_law 239 = .ok (.aload_n 2, 1) := by decide +kernel
theorem dL_law_240 : decode cL_law 240 = .ok (.aload_n 0, 1) := by decide +kernel
theorem dL_law_241 : decode cL_law 241 = .ok (.iload 4, 2) := by decide +kernel
theorem dL_law_243 : decode cL_law 243 = .ok (.iconst 1, 1) := by decide +kernel
theorem dL_law_244 : decode cL_law 244 = .ok (.iadd, 1) := by decide +kernel
theorem dL_law_245 : decode cL_law 245 = .ok (.iaload, 1) := by decide +kernel
theorem dL_law_246 : decode cL_law 246 = .ok (.aload_n 0, 1) := by decide +kernel
theorem dL_law_247 : decode cL_law 247 = .ok (.iload 4, 2) := by decide +kernel
theorem dL_law_249 : decode cL_law 249 = .ok (.iconst 2, 1) := by decide +kernel
theorem dL_law_250 : decode cL_law 250 = .ok (.iadd, 1) := by decide +kernel
theorem dL_law_251 : decode cL_law 251 = .ok (.iaload, 1) := by decide +kernel
theorem dL_law_252 : decode cL_law 252 = .ok (.invokevirtual 76, 3) := by decide +kernel
theorem dL_law_255 : decode cL_law 255 = .ok (.istore 6, 2) := by decide +kernel
theorem dL_law_257 : decode cL_law 257 = .ok (.aload_n 2, 1) := by decide +kernel
theorem dL_law_258 : decode cL_law 258 = .ok (.invokevirtual 69, 3) := by decide +kernel
theorem dL_law_261 : decode cL_law 261 = .ok (.iload 5, 2) := by decide +kernel
theorem dL_law_263 : decode cL_law 263 = .ok (.if_icmp .eq 5, 3) := by decide +kernel
theorem dL_law_266 : decode cL_law 266 = .ok (.iconst 0, 1) := by decide +kernel
theorem dL_law_267 : decode cL_law 267 = .ok (.ireturn, 1) := by decide +kernel
theorem dL_law_268 : decode cL_law 268 = .ok (.iload 5, 2) := by decide +kernel
theorem dL_law_270 : decode cL_law 270 = .ok (.ifCond .ne 15, 3) := by decide +kernel
theorem dL_law_273 : decode cL_law 273 = .ok (.aload_n 3, 1) := by decide +kernel
theorem dL_law_274 : decode cL_law 274 = .ok (.iconst 0, 1) := by decide +kernel
theorem dL_law_275 : decode cL_law 275 = .ok (.laload, 1) := by decide +kernel
theorem dL_law_276 : decode cL_law 276 = .ok (.iload 6, 2) := by decide +kernel
theorem dL_law_278 : decode cL_law 278 = .ok (.i2l, 1) := by decide +kernel
theorem dL_law_279 : decode cL_law 279 = .ok (.lcmp, 1) := by decide +kernel
theorem dL_law_280 : decode cL_law 280 = .ok (.ifCond .eq 5, 3) := by decide +kernel
theorem dL_law_283 : decode cL_law 283 = .ok (.iconst 0, 1) := by decide +kernel
theorem dL_law_284 : decode cL_law 284 = .ok (.ireturn, 1) := by decide +kernel
theorem dL_law_285 : decode cL_law 285 = .ok (.goto 859, 3) := by decide +kernel
theorem dL_law_288 : decode cL_law 288 = .ok (.aload_n 1, 1) := by decide +kernel
theorem dL_law_289 : decode cL_law 289 = .ok (.aload_n 0, 1) := by decide +kernel
theorem dL_law_290 : decode cL_law 290 = .ok (.iload 4, 2) := by decide +kernel
theorem dL_law_292 : decode cL_law 292 = .ok (.iconst 1, 1) := by decide +kernel
theorem dL_law_293 : decode cL_law 293 = .ok (.iadd, 1) := by decide +kernel
theorem dL_law_294 : decode cL_law 294 = .ok (.iaload, 1) := by decide +kernel
theorem dL_law_295 : decode cL_law 295 = .ok (.aload_n 0, 1) := by decide +kernel
theorem dL_law_296 : decode cL_law 296 = .ok (.iload 4, 2) := by decide +kernel
theorem dL_law_298 : decode cL_law 298 = .ok (.iconst 2, 1) := by decide +kernel
theorem dL_law_299 : decode cL_law 299 = .ok (.iadd, 1) := by decide +kernel
theorem dL_law_300 : decode cL_law 300 = .ok (.iaload, 1) := by decide +kernel
theorem dL_law_301 : decode cL_law 301 = .ok (.aload_n 0, 1) := by decide +kernel
theorem dL_law_302 : decode cL_law 302 = .ok (.iload 4, 2) := by decide +kernel
theorem dL_law_304 : decode cL_law 304 = .ok (.iconst 3, 1) := by decide +kernel
theorem dL_law_305 : decode cL_law 305 = .ok (.iadd, 1) := by decide +kernel
theorem dL_law_306 : decode cL_law 306 = .ok (.iaload, 1) := by decide +kernel
theorem dL_law_307 : decode cL_law 307 = .ok (.i2l, 1) := by decide +kernel
theorem dL_law_308 : decode cL_law 308 = .ok (.bipush 32, 2) := by decide +kernel
theorem dL_law_310 : decode cL_law 310 = .ok (.lshl, 1) := by decide +kernel
theorem dL_law_311 : decode cL_law 311 = .ok (.aload_n 0, 1) := by decide +kernel
theorem dL_law_312 : decode cL_law 312 = .ok (.iload 4, 2) := by decide +kernel
theorem dL_law_314 : decode cL_law 314 = .ok (.iconst 4, 1) := by decide +kernel
theorem dL_law_315 : decode cL_law 315 = .ok (.iadd, 1) := by decide +kernel
theorem dL_law_316 : decode cL_law 316 = .ok (.iaload, 1) := by decide +kernel
theorem dL_law_317 : decode cL_law 317 = .ok (.i2l, 1) := by decide +kernel
theorem dL_law_318 : decode cL_law 318 = .ok (.ldc2_w 61, 3) := by decide +kernel
theorem dL_law_321 : decode cL_law 321 = .ok (.land, 1) := by decide +kernel
theorem dL_law_322 : decode cL_law 322 = .ok (.lor, 1) := by decide +kernel
theorem dL_law_323 : decode cL_law 323 = .ok (.aload_n 3, 1) := by decide +kernel
theorem dL_law_324 : decode cL_law 324 = .ok (.invokestatic 77, 3) := by decide +kernel
theorem dL_law_327 : decode cL_law 327 = .ok (.istore 5, 2) := by decide +kernel
theorem dL_law_329 : decode cL_law 329 = .ok (.aload_n 2, 1) := by decide +kernel
theorem dL_law_330 : decode cL_law 330 = .ok (.aload_n 0, 1) := by decide +kernel
theorem dL_law_331 : decode cL_law 331 = .ok (.iload 4, 2) := by decide +kernel
theorem dL_law_333 : decode cL_law 333 = .ok (.iconst 1, 1) := by decide +kernel
theorem dL_law_334 : decode cL_law 334 = .ok (.iadd, 1) := by decide +kernel
theorem dL_law_335 : decode cL_law 335 = .ok (.iaload, 1) := by decide +kernel
theorem dL_law_336 : decode cL_law 336 = .ok (.aload_n 0, 1) := by decide +kernel
theorem dL_law_337 : decode cL_law 337 = .ok (.iload 4, 2) := by decide +kernel
theorem dL_law_339 : decode cL_law 339 = .ok (.iconst 2, 1) := by decide +kernel
theorem dL_law_340 : decode cL_law 340 = .ok (.iadd, 1) := by decide +kernel
theorem dL_law_341 : decode cL_law 341 = .ok (.iaload, 1) := by decide +kernel
theorem dL_law_342 : decode cL_law 342 = .ok (.aload_n 0, 1) := by decide +kernel
theorem dL_law_343 : decode cL_law 343 = .ok (.iload 4, 2) := by decide +kernel
theorem dL_law_345 : decode cL_law 345 = .ok (.iconst 3, 1) := by decide +kernel
theorem dL_law_346 : decode cL_law 346 = .ok (.iadd, 1) := by decide +kernel
theorem dL_law_347 : decode cL_law 347 = .ok (.iaload, 1) := by decide +kernel
theorem dL_law_348 : decode cL_law 348 = .ok (.i2l, 1) := by decide +kernel
theorem dL_law_349 : decode cL_law 349 = .ok (.bipush 32, 2) := by decide +kernel
theorem dL_law_351 : decode cL_law 351 = .ok (.lshl, 1) := by decide +kernel
theorem dL_law_352 : decode cL_law 352 = .ok (.aload_n 0, 1) := by decide +kernel
theorem dL_law_353 : decode cL_law 353 = .ok (.iload 4, 2) := by decide +kernel
theorem dL_law_355 : decode cL_law 355 = .ok (.iconst 4, 1) := by decide +kernel
theorem dL_law_356 : decode cL_law 356 = .ok (.iadd, 1) := by decide +kernel
theorem dL_law_357 : decode cL_law 357 = .ok (.iaload, 1) := by decide +kernel
theorem dL_law_358 : decode cL_law 358 = .ok (.i2l, 1) := by decide +kernel
theorem dL_law_359 : decode cL_law 359 = .ok (.ldc2_w 61, 3) := by decide +kernel
theorem dL_law_362 : decode cL_law 362 = .ok (.land, 1) := by decide +kernel
theorem dL_law_363 : decode cL_law 363 = .ok (.lor, 1) := by decide +kernel
theorem dL_law_364 : decode cL_law 364 = .ok (.invokevirtual 79, 3) := by decide +kernel
theorem dL_law_367 : decode cL_law 367 = .ok (.istore 6, 2) := by decide +kernel
theorem dL_law_369 : decode cL_law 369 = .ok (.aload_n 2, 1) := by decide +kernel
theorem dL_law_370 : decode cL_law 370 = .ok (.invokevirtual 69, 3) := by decide +kernel
theorem dL_law_373 : decode cL_law 373 = .ok (.iload 5, 2) := by decide +kernel
theorem dL_law_375 : decode cL_law 375 = .ok (.if_icmp .eq 5, 3) := by decide +kernel
theorem dL_law_378 : decode cL_law 378 = .ok (.iconst 0, 1) := by decide +kernel
theorem dL_law_379 : decode cL_law 379 = .ok (.ireturn, 1) := by decide +kernel
theorem dL_law_380 : decode cL_law 380 = .ok (.iload 5, 2) := by decide +kernel
theorem dL_law_382 : decode cL_law 382 = .ok (.ifCond .ne 15, 3) := by decide +kernel
theorem dL_law_385 : decode cL_law 385 = .ok (.aload_n 3, 1) := by decide +kernel
theorem dL_law_386 : decode cL_law 386 = .ok (.iconst 0, 1) := by decide +kernel
theorem dL_law_387 : decode cL_law 387 = .ok (.laload, 1) := by decide +kernel
theorem dL_law_388 : decode cL_law 388 = .ok (.iload 6, 2) := by decide +kernel
theorem dL_law_390 : decode cL_law 390 = .ok (.i2l, 1) := by decide +kernel
theorem dL_law_391 : decode cL_law 391 = .ok (.lcmp, 1) := by decide +kernel
theorem dL_law_392 : decode cL_law 392 = .ok (.ifCond .eq 5, 3) := by decide +kernel
theorem dL_law_395 : decode cL_law 395 = .ok (.iconst 0, 1) := by decide +kernel
theorem dL_law_396 : decode cL_law 396 = .ok (.ireturn, 1) := by decide +kernel
theorem dL_law_397 : decode cL_law 397 = .ok (.goto 747, 3) := by decide +kernel
theorem dL_law_400 : decode cL_law 400 = .ok (.aload_n 1, 1) := by decide +kernel
theorem dL_law_401 : decode cL_law 401 = .ok (.aload_n 0, 1) := by decide +kernel
theorem dL_law_402 : decode cL_law 402 = .ok (.iload 4, 2) := by decide +kernel
theorem dL_law_404 : decode cL_law 404 = .ok (.iconst 1, 1) := by decide +kernel
theorem dL_law_405 : decode cL_law 405 = .ok (.iadd, 1) := by decide +kernel
theorem dL_law_406 : decode cL_law 406 = .ok (.iaload, 1) := by decide +kernel
theorem dL_law_407 : decode cL_law 407 = .ok (.aload_n 0, 1) := by decide +kernel
theorem dL_law_408 : decode cL_law 408 = .ok (.iload 4, 2) := by decide +kernel
theorem dL_law_410 : decode cL_law 410 = .ok (.iconst 2, 1) := by decide +kernel
theorem dL_law_411 : decode cL_law 411 = .ok (.iadd, 1) := by decide +kernel
theorem dL_law_412 : decode cL_law 412 = .ok (.iaload, 1) := by decide +kernel
theorem dL_law_413 : decode cL_law 413 = .ok (.aload_n 3, 1) := by decide +kernel
theorem dL_law_414 : decode cL_law 414 = .ok (.invokestatic 80, 3) := by decide +kernel
theorem dL_law_417 : decode cL_law 417 = .ok (.istore 5, 2) := by decide +kernel
theorem dL_law_419 : decode cL_law 419 = .ok (.aload_n 2, 1) := by decide +kernel
theorem dL_law_420 : decode cL_law 420 = .ok (.aload_n 0, 1) := by decide +kernel
theorem dL_law_421 : decode cL_law 421 = .ok (.iload 4, 2) := by decide +kernel
theorem dL_law_423 : decode cL_law 423 = .ok (.iconst 1, 1) := by decide +kernel
theorem dL_law_424 : decode cL_law 424 = .ok (.iadd, 1) := by decide +kernel
theorem dL_law_425 : decode cL_law 425 = .ok (.iaload, 1) := by decide +kernel
theorem dL_law_426 : decode cL_law 426 = .ok (.aload_n 0, 1) := by decide +kernel
theorem dL_law_427 : decode cL_law 427 = .ok (.iload 4, 2) := by decide +kernel
theorem dL_law_429 : decode cL_law 429 = .ok (.iconst 2, 1) := by decide +kernel
theorem dL_law_430 : decode cL_law 430 = .ok (.iadd, 1) := by decide +kernel
theorem dL_law_431 : decode cL_law 431 = .ok (.iaload, 1) := by decide +kernel
theorem dL_law_432 : decode cL_law 432 = .ok (.invokevirtual 82, 3) := by decide +kernel
theorem dL_law_435 : decode cL_law 435 = .ok (.istore 6, 2) := by decide +kernel
theorem dL_law_437 : decode cL_law 437 = .ok (.aload_n 2, 1) := by decide +kernel
theorem dL_law_438 : decode cL_law 438 = .ok (.invokevirtual 69, 3) := by decide +kernel
theorem dL_law_441 : decode cL_law 441 = .ok (.iload 5, 2) := by decide +kernel
theorem dL_law_443 : decode cL_law 443 = .ok (.if_icmp .eq 5, 3) := by decide +kernel
theorem dL_law_446 : decode cL_law 446 = .ok (.iconst 0, 1) := by decide +kernel
theorem dL_law_447 : decode cL_law 447 = .ok (.ireturn, 1) := by decide +kernel
theorem dL_law_448 : decode cL_law 448 = .ok (.iload 5, 2) := by decide +kernel
theorem dL_law_450 : decode cL_law 450 = .ok (.ifCond .ne 15, 3) := by decide +kernel
theorem dL_law_453 : decode cL_law 453 = .ok (.aload_n 3, 1) := by decide +kernel
theorem dL_law_454 : decode cL_law 454 = .ok (.iconst 0, 1) := by decide +kernel
theorem dL_law_455 : decode cL_law 455 = .ok (.laload, 1) := by decide +kernel
theorem dL_law_456 : decode cL_law 456 = .ok (.iload 6, 2) := by decide +kernel
theorem dL_law_458 : decode cL_law 458 = .ok (.i2l, 1) := by decide +kernel
theorem dL_law_459 : decode cL_law 459 = .ok (.lcmp, 1) := by decide +kernel
theorem dL_law_460 : decode cL_law 460 = .ok (.ifCond .eq 5, 3) := by decide +kernel
theorem dL_law_463 : decode cL_law 463 = .ok (.iconst 0, 1) := by decide +kernel
theorem dL_law_464 : decode cL_law 464 = .ok (.ireturn, 1) := by decide +kernel
theorem dL_law_465 : decode cL_law 465 = .ok (.goto 679, 3) := by decide +kernel
theorem dL_law_468 : decode cL_law 468 = .ok (.aload_n 1, 1) := by decide +kernel
theorem dL_law_469 : decode cL_law 469 = .ok (.aload_n 0, 1) := by decide +kernel
theorem dL_law_470 : decode cL_law 470 = .ok (.iload 4, 2) := by decide +kernel
theorem dL_law_472 : decode cL_law 472 = .ok (.iconst 1, 1) := by decide +kernel
theorem dL_law_473 : decode cL_law 473 = .ok (.iadd, 1) := by decide +kernel
theorem dL_law_474 : decode cL_law 474 = .ok (.iaload, 1) := by decide +kernel
theorem dL_law_475 : decode cL_law 475 = .ok (.aload_n 3, 1) := by decide +kernel
theorem dL_law_476 : decode cL_law 476 = .ok (.invokestatic 83, 3) := by decide +kernel
theorem dL_law_479 : decode cL_law 479 = .ok (.istore 5, 2) := by decide +kernel
theorem dL_law_481 : decode cL_law 481 = .ok (.aload_n 2, 1) := by decide +kernel
theorem dL_law_482 : decode cL_law 482 = .ok (.aload_n 0, 1) := by decide +kernel
theorem dL_law_483 : decode cL_law 483 = .ok (.iload 4, 2) := by decide +kernel
theorem dL_law_485 : decode cL_law 485 = .ok (.iconst 1, 1) := by decide +kernel
theorem dL_law_486 : decode cL_law 486 = .ok (.iadd, 1) := by decide +kernel
theorem dL_law_487 : decode cL_law 487 = .ok (.iaload, 1) := by decide +kernel
theorem dL_law_488 : decode cL_law 488 = .ok (.invokevirtual 86, 3) := by decide +kernel
theorem dL_law_491 : decode cL_law 491 = .ok (.istore 6, 2) := by decide +kernel
theorem dL_law_493 : decode cL_law 493 = .ok (.aload_n 2, 1) := by decide +kernel
theorem dL_law_494 : decode cL_law 494 = .ok (.invokevirtual 69, 3) := by decide +kernel
theorem dL_law_497 : decode cL_law 497 = .ok (.iload 5, 2) := by decide +kernel
theorem dL_law_499 : decode cL_law 499 = .ok (.if_icmp .eq 5, 3) := by decide +kernel
theorem dL_law_502 : decode cL_law 502 = .ok (.iconst 0, 1) := by decide +kernel
theorem dL_law_503 : decode cL_law 503 = .ok (.ireturn, 1) := by decide +kernel
theorem dL_law_504 : decode cL_law 504 = .ok (.iload 5, 2) := by decide +kernel
theorem dL_law_506 : decode cL_law 506 = .ok (.ifCond .ne 15, 3) := by decide +kernel
theorem dL_law_509 : decode cL_law 509 = .ok (.aload_n 3, 1) := by decide +kernel
theorem dL_law_510 : decode cL_law 510 = .ok (.iconst 0, 1) := by decide +kernel
theorem dL_law_511 : decode cL_law 511 = .ok (.laload, 1) := by decide +kernel
theorem dL_law_512 : decode cL_law 512 = .ok (.iload 6, 2) := by decide +kernel
theorem dL_law_514 : decode cL_law 514 = .ok (.i2l, 1) := by decide +kernel
theorem dL_law_515 : decode cL_law 515 = .ok (.lcmp, 1) := by decide +kernel
theorem dL_law_516 : decode cL_law 516 = .ok (.ifCond .eq 5, 3) := by decide +kernel
theorem dL_law_519 : decode cL_law 519 = .ok (.iconst 0, 1) := by decide +kernel
theorem dL_law_520 : decode cL_law 520 = .ok (.ireturn, 1) := by decide +kernel
theorem dL_law_521 : decode cL_law 521 = .ok (.goto 623, 3) := by decide +kernel
theorem dL_law_524 : decode cL_law 524 = .ok (.aload_n 1, 1) := by decide +kernel
theorem dL_law_525 : decode cL_law 525 = .ok (.aload_n 0, 1) := by decide +kernel
theorem dL_law_526 : decode cL_law 526 = .ok (.iload 4, 2) := by decide +kernel
theorem dL_law_528 : decode cL_law 528 = .ok (.iconst 1, 1) := by decide +kernel
theorem dL_law_529 : decode cL_law 529 = .ok (.iadd, 1) := by decide +kernel
theorem dL_law_530 : decode cL_law 530 = .ok (.iaload, 1) := by decide +kernel
theorem dL_law_531 : decode cL_law 531 = .ok (.aload_n 3, 1) := by decide +kernel
theorem dL_law_532 : decode cL_law 532 = .ok (.invokestatic 87, 3) := by decide +kernel
theorem dL_law_535 : decode cL_law 535 = .ok (.istore 5, 2) := by decide +kernel
theorem dL_law_537 : decode cL_law 537 = .ok (.aload_n 2, 1) := by decide +kernel
theorem dL_law_538 : decode cL_law 538 = .ok (.aload_n 0, 1) := by decide +kernel
theorem dL_law_539 : decode cL_law 539 = .ok (.iload 4, 2) := by decide +kernel
theorem dL_law_541 : decode cL_law 541 = .ok (.iconst 1, 1) := by decide +kernel
theorem dL_law_542 : decode cL_law 542 = .ok (.iadd, 1) := by decide +kernel
theorem dL_law_543 : decode cL_law 543 = .ok (.iaload, 1) := by decide +kernel
theorem dL_law_544 : decode cL_law 544 = .ok (.invokevirtual 89, 3) := by decide +kernel
theorem dL_law_547 : decode cL_law 547 = .ok (.istore 6, 2) := by decide +kernel
theorem dL_law_549 : decode cL_law 549 = .ok (.aload_n 2, 1) := by decide +kernel
theorem dL_law_550 : decode cL_law 550 = .ok (.invokevirtual 69, 3) := by decide +kernel
theorem dL_law_553 : decode cL_law 553 = .ok (.iload 5, 2) := by decide +kernel
theorem dL_law_555 : decode cL_law 555 = .ok (.if_icmp .eq 5, 3) := by decide +kernel
theorem dL_law_558 : decode cL_law 558 = .ok (.iconst 0, 1) := by decide +kernel
theorem dL_law_559 : decode cL_law 559 = .ok (.ireturn, 1) := by decide +kernel
theorem dL_law_560 : decode cL_law 560 = .ok (.iload 5, 2) := by decide +kernel
theorem dL_law_562 : decode cL_law 562 = .ok (.ifCond .ne 15, 3) := by decide +kernel
theorem dL_law_565 : decode cL_law 565 = .ok (.aload_n 3, 1) := by decide +kernel
theorem dL_law_566 : decode cL_law 566 = .ok (.iconst 0, 1) := by decide +kernel
theorem dL_law_567 : decode cL_law 567 = .ok (.laload, 1) := by decide +kernel
theorem dL_law_568 : decode cL_law 568 = .ok (.iload 6, 2) := by decide +kernel
theorem dL_law_570 : decode cL_law 570 = .ok (.i2l, 1) := by decide +kernel
theorem dL_law_571 : decode cL_law 571 = .ok (.lcmp, 1) := by decide +kernel
theorem dL_law_572 : decode cL_law 572 = .ok (.ifCond .eq 5, 3) := by decide +kernel
theorem dL_law_575 : decode cL_law 575 = .ok (.iconst 0, 1) := by decide +kernel
theorem dL_law_576 : decode cL_law 576 = .ok (.ireturn, 1) := by decide +kernel
theorem dL_law_577 : decode cL_law 577 = .ok (.goto 567, 3) := by decide +kernel
theorem dL_law_580 : decode cL_law 580 = .ok (.aload_n 1, 1) := by decide +kernel
theorem dL_law_581 : decode cL_law 581 = .ok (.aload_n 0, 1) := by decide +kernel
theorem dL_law_582 : decode cL_law 582 = .ok (.iload 4, 2) := by decide +kernel
theorem dL_law_584 : decode cL_law 584 = .ok (.iconst 1, 1) := by decide +kernel
theorem dL_law_585 : decode cL_law 585 = .ok (.iadd, 1) := by decide +kernel
theorem dL_law_586 : decode cL_law 586 = .ok (.iaload, 1) := by decide +kernel
theorem dL_law_587 : decode cL_law 587 = .ok (.aload_n 0, 1) := by decide +kernel
theorem dL_law_588 : decode cL_law 588 = .ok (.iload 4, 2) := by decide +kernel
theorem dL_law_590 : decode cL_law 590 = .ok (.iconst 2, 1) := by decide +kernel
theorem dL_law_591 : decode cL_law 591 = .ok (.iadd, 1) := by decide +kernel
theorem dL_law_592 : decode cL_law 592 = .ok (.iaload, 1) := by decide +kernel
end
section
theorem dL_law_593 : decode cL_law 593 = .ok (.aload_n 3, 1) := by decide +kernel
theorem dL_law_594 : decode cL_law 594 = .ok (.invokestatic 90, 3) := by decide +kernel
theorem dL_law_597 : decode cL_law 597 = .ok (.istore 5, 2) := by decide +kernel
theorem dL_law_599 : decode cL_law 599 = .ok (.aload_n 2, 1) := by decide +kernel
theorem dL_law_600 : decode cL_law 600 = .ok (.aload_n 0, 1) := by decide +kernel
theorem dL_law_601 : decode cL_law 601 = .ok (.iload 4, 2) := by decide +kernel
theorem dL_law_603 : decode cL_law 603 = .ok (.iconst 1, 1) := by decide +kernel
theorem dL_law_604 : decode cL_law 604 = .ok (.iadd, 1) := by decide +kernel
theorem dL_law_605 : decode cL_law 605 = .ok (.iaload, 1) := by decide +kernel
theorem dL_law_606 : decode cL_law 606 = .ok (.aload_n 0, 1) := by decide +kernel
theorem dL_law_607 : decode cL_law 607 = .ok (.iload 4, 2) := by decide +kernel
theorem dL_law_609 : decode cL_law 609 = .ok (.iconst 2, 1) := by decide +kernel
theorem dL_law_610 : decode cL_law 610 = .ok (.iadd, 1) := by decide +kernel
theorem dL_law_611 : decode cL_law 611 = .ok (.iaload, 1) := by decide +kernel
theorem dL_law_612 : decode cL_law 612 = .ok (.invokevirtual 92, 3) := by decide +kernel
theorem dL_law_615 : decode cL_law 615 = .ok (.istore 6, 2) := by decide +kernel
theorem dL_law_617 : decode cL_law 617 = .ok (.aload_n 2, 1) := by decide +kernel
theorem dL_law_618 : decode cL_law 618 = .ok (.invokevirtual 69, 3) := by decide +kernel
theorem dL_law_621 : decode cL_law 621 = .ok (.iload 5, 2) := by decide +kernel
theorem dL_law_623 : decode cL_law 623 = .ok (.if_icmp .eq 5, 3) := by decide +kernel
theorem dL_law_626 : decode cL_law 626 = .ok (.iconst 0, 1) := by decide +kernel
theorem dL_law_627 : decode cL_law 627 = .ok (.ireturn, 1) := by decide +kernel
theorem dL_law_628 : decode cL_law 628 = .ok (.iload 5, 2) := by decide +kernel
theorem dL_law_630 : decode cL_law 630 = .ok (.ifCond .ne 15, 3) := by decide +kernel
theorem dL_law_633 : decode cL_law 633 = .ok (.aload_n 3, 1) := by decide +kernel
theorem dL_law_634 : decode cL_law 634 = .ok (.iconst 0, 1) := by decide +kernel
theorem dL_law_635 : decode cL_law 635 = .ok (.laload, 1) := by decide +kernel
theorem dL_law_636 : decode cL_law 636 = .ok (.iload 6, 2) := by decide +kernel
theorem dL_law_638 : decode cL_law 638 = .ok (.i2l, 1) := by decide +kernel
theorem dL_law_639 : decode cL_law 639 = .ok (.lcmp, 1) := by decide +kernel
theorem dL_law_640 : decode cL_law 640 = .ok (.ifCond .eq 5, 3) := by decide +kernel
theorem dL_law_643 : decode cL_law 643 = .ok (.iconst 0, 1) := by decide +kernel
theorem dL_law_644 : decode cL_law 644 = .ok (.ireturn, 1) := by decide +kernel
theorem dL_law_645 : decode cL_law 645 = .ok (.goto 499, 3) := by decide +kernel
theorem dL_law_648 : decode cL_law 648 = .ok (.aload_n 1, 1) := by decide +kernel
theorem dL_law_649 : decode cL_law 649 = .ok (.aload_n 0, 1) := by decide +kernel
theorem dL_law_650 : decode cL_law 650 = .ok (.iload 4, 2) := by decide +kernel
theorem dL_law_652 : decode cL_law 652 = .ok (.iconst 1, 1) := by decide +kernel
theorem dL_law_653 : decode cL_law 653 = .ok (.iadd, 1) := by decide +kernel
theorem dL_law_654 : decode cL_law 654 = .ok (.iaload, 1) := by decide +kernel
theorem dL_law_655 : decode cL_law 655 = .ok (.aload_n 0, 1) := by decide +kernel
theorem dL_law_656 : decode cL_law 656 = .ok (.iload 4, 2) := by decide +kernel
theorem dL_law_658 : decode cL_law 658 = .ok (.iconst 2, 1) := by decide +kernel
theorem dL_law_659 : decode cL_law 659 = .ok (.iadd, 1) := by decide +kernel
theorem dL_law_660 : decode cL_law 660 = .ok (.iaload, 1) := by decide +kernel
theorem dL_law_661 : decode cL_law 661 = .ok (.aload_n 0, 1) := by decide +kernel
theorem dL_law_662 : decode cL_law 662 = .ok (.iload 4, 2) := by decide +kernel
theorem dL_law_664 : decode cL_law 664 = .ok (.iconst 3, 1) := by decide +kernel
theorem dL_law_665 : decode cL_law 665 = .ok (.iadd, 1) := by decide +kernel
theorem dL_law_666 : decode cL_law 666 = .ok (.iaload, 1) := by decide +kernel
theorem dL_law_667 : decode cL_law 667 = .ok (.aload_n 3, 1) := by decide +kernel
theorem dL_law_668 : decode cL_law 668 = .ok (.invokestatic 93, 3) := by decide +kernel
theorem dL_law_671 : decode cL_law 671 = .ok (.istore 5, 2) := by decide +kernel
theorem dL_law_673 : decode cL_law 673 = .ok (.aload_n 2, 1) := by decide +kernel
theorem dL_law_674 : decode cL_law 674 = .ok (.aload_n 0, 1) := by decide +kernel
theorem dL_law_675 : decode cL_law 675 = .ok (.iload 4, 2) := by decide +kernel
theorem dL_law_677 : decode cL_law 677 = .ok (.iconst 1, 1) := by decide +kernel
theorem dL_law_678 : decode cL_law 678 = .ok (.iadd, 1) := by decide +kernel
theorem dL_law_679 : decode cL_law 679 = .ok (.iaload, 1) := by decide +kernel
theorem dL_law_680 : decode cL_law 680 = .ok (.aload_n 0, 1) := by decide +kernel
theorem dL_law_681 : decode cL_law 681 = .ok (.iload 4, 2) := by decide +kernel
theorem dL_law_683 : decode cL_law 683 = .ok (.iconst 2, 1) := by decide +kernel
theorem dL_law_684 : decode cL_law 684 = .ok (.iadd, 1) := by decide +kernel
theorem dL_law_685 : decode cL_law 685 = .ok (.iaload, 1) := by decide +kernel
theorem dL_law_686 : decode cL_law 686 = .ok (.aload_n 0, 1) := by decide +kernel
theorem dL_law_687 : decode cL_law 687 = .ok (.iload 4, 2) := by decide +kernel
theorem dL_law_689 : decode cL_law 689 = .ok (.iconst 3, 1) := by decide +kernel
theorem dL_law_690 : decode cL_law 690 = .ok (.iadd, 1) := by decide +kernel
theorem dL_law_691 : decode cL_law 691 = .ok (.iaload, 1) := by decide +kernel
theorem dL_law_692 : decode cL_law 692 = .ok (.invokevirtual 96, 3) := by decide +kernel
theorem dL_law_695 : decode cL_law 695 = .ok (.istore 6, 2) := by decide +kernel
theorem dL_law_697 : decode cL_law 697 = .ok (.aload_n 2, 1) := by decide +kernel
theorem dL_law_698 : decode cL_law 698 = .ok (.invokevirtual 69, 3) := by decide +kernel
theorem dL_law_701 : decode cL_law 701 = .ok (.iload 5, 2) := by decide +kernel
theorem dL_law_703 : decode cL_law 703 = .ok (.if_icmp .eq 5, 3) := by decide +kernel
theorem dL_law_706 : decode cL_law 706 = .ok (.iconst 0, 1) := by decide +kernel
theorem dL_law_707 : decode cL_law 707 = .ok (.ireturn, 1) := by decide +kernel
theorem dL_law_708 : decode cL_law 708 = .ok (.iload 5, 2) := by decide +kernel
theorem dL_law_710 : decode cL_law 710 = .ok (.ifCond .ne 15, 3) := by decide +kernel
theorem dL_law_713 : decode cL_law 713 = .ok (.aload_n 3, 1) := by decide +kernel
theorem dL_law_714 : decode cL_law 714 = .ok (.iconst 0, 1) := by decide +kernel
theorem dL_law_715 : decode cL_law 715 = .ok (.laload, 1) := by decide +kernel
theorem dL_law_716 : decode cL_law 716 = .ok (.iload 6, 2) := by decide +kernel
theorem dL_law_718 : decode cL_law 718 = .ok (.i2l, 1) := by decide +kernel
theorem dL_law_719 : decode cL_law 719 = .ok (.lcmp, 1) := by decide +kernel
theorem dL_law_720 : decode cL_law 720 = .ok (.ifCond .eq 5, 3) := by decide +kernel
theorem dL_law_723 : decode cL_law 723 = .ok (.iconst 0, 1) := by decide +kernel
theorem dL_law_724 : decode cL_law 724 = .ok (.ireturn, 1) := by decide +kernel
theorem dL_law_725 : decode cL_law 725 = .ok (.goto 419, 3) := by decide +kernel
theorem dL_law_728 : decode cL_law 728 = .ok (.aload_n 1, 1) := by decide +kernel
theorem dL_law_729 : decode cL_law 729 = .ok (.aload_n 0, 1) := by decide +kernel
theorem dL_law_730 : decode cL_law 730 = .ok (.iload 4, 2) := by decide +kernel
theorem dL_law_732 : decode cL_law 732 = .ok (.iconst 1, 1) := by decide +kernel
theorem dL_law_733 : decode cL_law 733 = .ok (.iadd, 1) := by decide +kernel
theorem dL_law_734 : decode cL_law 734 = .ok (.iaload, 1) := by decide +kernel
theorem dL_law_735 : decode cL_law 735 = .ok (.aload_n 0, 1) := by decide +kernel
theorem dL_law_736 : decode cL_law 736 = .ok (.iload 4, 2) := by decide +kernel
theorem dL_law_738 : decode cL_law 738 = .ok (.iconst 2, 1) := by decide +kernel
theorem dL_law_739 : decode cL_law 739 = .ok (.iadd, 1) := by decide +kernel
theorem dL_law_740 : decode cL_law 740 = .ok (.iaload, 1) := by decide +kernel
theorem dL_law_741 : decode cL_law 741 = .ok (.aload_n 3, 1) := by decide +kernel
theorem dL_law_742 : decode cL_law 742 = .ok (.invokestatic 97, 3) := by decide +kernel
theorem dL_law_745 : decode cL_law 745 = .ok (.istore 5, 2) := by decide +kernel
theorem dL_law_747 : decode cL_law 747 = .ok (.aload_n 2, 1) := by decide +kernel
theorem dL_law_748 : decode cL_law 748 = .ok (.aload_n 0, 1) := by decide +kernel
theorem dL_law_749 : decode cL_law 749 = .ok (.iload 4, 2) := by decide +kernel
theorem dL_law_751 : decode cL_law 751 = .ok (.iconst 1, 1) := by decide +kernel
theorem dL_law_752 : decode cL_law 752 = .ok (.iadd, 1) := by decide +kernel
theorem dL_law_753 : decode cL_law 753 = .ok (.iaload, 1) := by decide +kernel
theorem dL_law_754 : decode cL_law 754 = .ok (.aload_n 0, 1) := by decide +kernel
theorem dL_law_755 : decode cL_law 755 = .ok (.iload 4, 2) := by decide +kernel
theorem dL_law_757 : decode cL_law 757 = .ok (.iconst 2, 1) := by decide +kernel
theorem dL_law_758 : decode cL_law 758 = .ok (.iadd, 1) := by decide +kernel
theorem dL_law_759 : decode cL_law 759 = .ok (.iaload, 1) := by decide +kernel
theorem dL_law_760 : decode cL_law 760 = .ok (.invokevirtual 99, 3) := by decide +kernel
theorem dL_law_763 : decode cL_law 763 = .ok (.istore 6, 2) := by decide +kernel
theorem dL_law_765 : decode cL_law 765 = .ok (.aload_n 2, 1) := by decide +kernel
theorem dL_law_766 : decode cL_law 766 = .ok (.invokevirtual 69, 3) := by decide +kernel
theorem dL_law_769 : decode cL_law 769 = .ok (.iload 5, 2) := by decide +kernel
theorem dL_law_771 : decode cL_law 771 = .ok (.if_icmp .eq 5, 3) := by decide +kernel
theorem dL_law_774 : decode cL_law 774 = .ok (.iconst 0, 1) := by decide +kernel
theorem dL_law_775 : decode cL_law 775 = .ok (.ireturn, 1) := by decide +kernel
theorem dL_law_776 : decode cL_law 776 = .ok (.iload 5, 2) := by decide +kernel
theorem dL_law_778 : decode cL_law 778 = .ok (.ifCond .ne 15, 3) := by decide +kernel
theorem dL_law_781 : decode cL_law 781 = .ok (.aload_n 3, 1) := by decide +kernel
theorem dL_law_782 : decode cL_law 782 = .ok (.iconst 0, 1) := by decide +kernel
theorem dL_law_783 : decode cL_law 783 = .ok (.laload, 1) := by decide +kernel
theorem dL_law_784 : decode cL_law 784 = .ok (.iload 6, 2) := by decide +kernel
theorem dL_law_786 : decode cL_law 786 = .ok (.i2l, 1) := by decide +kernel
theorem dL_law_787 : decode cL_law 787 = .ok (.lcmp, 1) := by decide +kernel
theorem dL_law_788 : decode cL_law 788 = .ok (.ifCond .eq 5, 3) := by decide +kernel
theorem dL_law_791 : decode cL_law 791 = .ok (.iconst 0, 1) := by decide +kernel
theorem dL_law_792 : decode cL_law 792 = .ok (.ireturn, 1) := by decide +kernel
theorem dL_law_793 : decode cL_law 793 = .ok (.goto 351, 3) := by decide +kernel
theorem dL_law_796 : decode cL_law 796 = .ok (.aload_n 1, 1) := by decide +kernel
theorem dL_law_797 : decode cL_law 797 = .ok (.aload_n 0, 1) := by decide +kernel
theorem dL_law_798 : decode cL_law 798 = .ok (.iload 4, 2) := by decide +kernel
theorem dL_law_800 : decode cL_law 800 = .ok (.iconst 1, 1) := by decide +kernel
theorem dL_law_801 : decode cL_law 801 = .ok (.iadd, 1) := by decide +kernel
theorem dL_law_802 : decode cL_law 802 = .ok (.iaload, 1) := by decide +kernel
theorem dL_law_803 : decode cL_law 803 = .ok (.aload_n 0, 1) := by decide +kernel
theorem dL_law_804 : decode cL_law 804 = .ok (.iload 4, 2) := by decide +kernel
theorem dL_law_806 : decode cL_law 806 = .ok (.iconst 2, 1) := by decide +kernel
theorem dL_law_807 : decode cL_law 807 = .ok (.iadd, 1) := by decide +kernel
theorem dL_law_808 : decode cL_law 808 = .ok (.iaload, 1) := by decide +kernel
theorem dL_law_809 : decode cL_law 809 = .ok (.aload_n 3, 1) := by decide +kernel
theorem dL_law_810 : decode cL_law 810 = .ok (.invokestatic 100, 3) := by decide +kernel
theorem dL_law_813 : decode cL_law 813 = .ok (.istore 5, 2) := by decide +kernel
theorem dL_law_815 : decode cL_law 815 = .ok (.aload_n 2, 1) := by decide +kernel
theorem dL_law_816 : decode cL_law 816 = .ok (.aload_n 0, 1) := by decide +kernel
theorem dL_law_817 : decode cL_law 817 = .ok (.iload 4, 2) := by decide +kernel
theorem dL_law_819 : decode cL_law 819 = .ok (.iconst 1, 1) := by decide +kernel
theorem dL_law_820 : decode cL_law 820 = .ok (.iadd, 1) := by decide +kernel
theorem dL_law_821 : decode cL_law 821 = .ok (.iaload, 1) := by decide +kernel
theorem dL_law_822 : decode cL_law 822 = .ok (.aload_n 0, 1) := by decide +kernel
theorem dL_law_823 : decode cL_law 823 = .ok (.iload 4, 2) := by decide +kernel
theorem dL_law_825 : decode cL_law 825 = .ok (.iconst 2, 1) := by decide +kernel
theorem dL_law_826 : decode cL_law 826 = .ok (.iadd, 1) := by decide +kernel
theorem dL_law_827 : decode cL_law 827 = .ok (.iaload, 1) := by decide +kernel
theorem dL_law_828 : decode cL_law 828 = .ok (.invokevirtual 102, 3) := by decide +kernel
theorem dL_law_831 : decode cL_law 831 = .ok (.istore 6, 2) := by decide +kernel
theorem dL_law_833 : decode cL_law 833 = .ok (.aload_n 2, 1) := by decide +kernel
theorem dL_law_834 : decode cL_law 834 = .ok (.invokevirtual 69, 3) := by decide +kernel
theorem dL_law_837 : decode cL_law 837 = .ok (.iload 5, 2) := by decide +kernel
theorem dL_law_839 : decode cL_law 839 = .ok (.if_icmp .eq 5, 3) := by decide +kernel
theorem dL_law_842 : decode cL_law 842 = .ok (.iconst 0, 1) := by decide +kernel
theorem dL_law_843 : decode cL_law 843 = .ok (.ireturn, 1) := by decide +kernel
theorem dL_law_844 : decode cL_law 844 = .ok (.iload 5, 2) := by decide +kernel
theorem dL_law_846 : decode cL_law 846 = .ok (.ifCond .ne 15, 3) := by decide +kernel
theorem dL_law_849 : decode cL_law 849 = .ok (.aload_n 3, 1) := by decide +kernel
theorem dL_law_850 : decode cL_law 850 = .ok (.iconst 0, 1) := by decide +kernel
theorem dL_law_851 : decode cL_law 851 = .ok (.laload, 1) := by decide +kernel
theorem dL_law_852 : decode cL_law 852 = .ok (.iload 6, 2) := by decide +kernel
theorem dL_law_854 : decode cL_law 854 = .ok (.i2l, 1) := by decide +kernel
theorem dL_law_855 : decode cL_law 855 = .ok (.lcmp, 1) := by decide +kernel
theorem dL_law_856 : decode cL_law 856 = .ok (.ifCond .eq 5, 3) := by decide +kernel
theorem dL_law_859 : decode cL_law 859 = .ok (.iconst 0, 1) := by decide +kernel
theorem dL_law_860 : decode cL_law 860 = .ok (.ireturn, 1) := by decide +kernel
theorem dL_law_861 : decode cL_law 861 = .ok (.goto 283, 3) := by decide +kernel
theorem dL_law_864 : decode cL_law 864 = .ok (.aload_n 1, 1) := by decide +kernel
theorem dL_law_865 : decode cL_law 865 = .ok (.aload_n 0, 1) := by decide +kernel
theorem dL_law_866 : decode cL_law 866 = .ok (.iload 4, 2) := by decide +kernel
theorem dL_law_868 : decode cL_law 868 = .ok (.iconst 1, 1) := by decide +kernel
theorem dL_law_869 : decode cL_law 869 = .ok (.iadd, 1) := by decide +kernel
theorem dL_law_870 : decode cL_law 870 = .ok (.iaload, 1) := by decide +kernel
theorem dL_law_871 : decode cL_law 871 = .ok (.aload_n 0, 1) := by decide +kernel
theorem dL_law_872 : decode cL_law 872 = .ok (.iload 4, 2) := by decide +kernel
theorem dL_law_874 : decode cL_law 874 = .ok (.iconst 2, 1) := by decide +kernel
theorem dL_law_875 : decode cL_law 875 = .ok (.iadd, 1) := by decide +kernel
theorem dL_law_876 : decode cL_law 876 = .ok (.iaload, 1) := by decide +kernel
theorem dL_law_877 : decode cL_law 877 = .ok (.i2l, 1) := by decide +kernel
theorem dL_law_878 : decode cL_law 878 = .ok (.bipush 32, 2) := by decide +kernel
theorem dL_law_880 : decode cL_law 880 = .ok (.lshl, 1) := by decide +kernel
theorem dL_law_881 : decode cL_law 881 = .ok (.aload_n 0, 1) := by decide +kernel
theorem dL_law_882 : decode cL_law 882 = .ok (.iload 4, 2) := by decide +kernel
theorem dL_law_884 : decode cL_law 884 = .ok (.iconst 3, 1) := by decide +kernel
theorem dL_law_885 : decode cL_law 885 = .ok (.iadd, 1) := by decide +kernel
theorem dL_law_886 : decode cL_law 886 = .ok (.iaload, 1) := by decide +kernel
theorem dL_law_887 : decode cL_law 887 = .ok (.i2l, 1) := by decide +kernel
theorem dL_law_888 : decode cL_law 888 = .ok (.ldc2_w 61, 3) := by decide +kernel
theorem dL_law_891 : decode cL_law 891 = .ok (.land, 1) := by decide +kernel
theorem dL_law_892 : decode cL_law 892 = .ok (.lor, 1) := by decide +kernel
theorem dL_law_893 : decode cL_law 893 = .ok (.aload_n 0, 1) := by decide +kernel
theorem dL_law_894 : decode cL_law 894 = .ok (.iload 4, 2) := by decide +kernel
theorem dL_law_896 : decode cL_law 896 = .ok (.iconst 4, 1) := by decide +kernel
theorem dL_law_897 : decode cL_law 897 = .ok (.iadd, 1) := by decide +kernel
theorem dL_law_898 : decode cL_law 898 = .ok (.iaload, 1) := by decide +kernel
theorem dL_law_899 : decode cL_law 899 = .ok (.i2l, 1) := by decide +kernel
theorem dL_law_900 : decode cL_law 900 = .ok (.bipush 32, 2) := by decide +kernel
theorem dL_law_902 : decode cL_law 902 = .ok (.lshl, 1) := by decide +kernel
theorem dL_law_903 : decode cL_law 903 = .ok (.aload_n 0, 1) := by decide +kernel
theorem dL_law_904 : decode cL_law 904 = .ok (.iload 4, 2) := by decide +kernel
theorem dL_law_906 : decode cL_law 906 = .ok (.iconst 5, 1) := by decide +kernel
theorem dL_law_907 : decode cL_law 907 = .ok (.iadd, 1) := by decide +kernel
theorem dL_law_908 : decode cL_law 908 = .ok (.iaload, 1) := by decide +kernel
theorem dL_law_909 : decode cL_law 909 = .ok (.i2l, 1) := by decide +kernel
theorem dL_law_910 : decode cL_law 910 = .ok (.ldc2_w 61, 3) := by decide +kernel
theorem dL_law_913 : decode cL_law 913 = .ok (.land, 1) := by decide +kernel
theorem dL_law_914 : decode cL_law 914 = .ok (.lor, 1) := by decide +kernel
theorem dL_law_915 : decode cL_law 915 = .ok (.aload_n 0, 1) := by decide +kernel
theorem dL_law_916 : decode cL_law 916 = .ok (.iload 4, 2) := by decide +kernel
theorem dL_law_918 : decode cL_law 918 = .ok (.bipush 6, 2) := by decide +kernel
theorem dL_law_920 : decode cL_law 920 = .ok (.iadd, 1) := by decide +kernel
theorem dL_law_921 : decode cL_law 921 = .ok (.iaload, 1) := by decide +kernel
theorem dL_law_922 : decode cL_law 922 = .ok (.i2l, 1) := by decide +kernel
theorem dL_law_923 : decode cL_law 923 = .ok (.bipush 32, 2) := by decide +kernel
theorem dL_law_925 : decode cL_law 925 = .ok (.lshl, 1) := by decide +kernel
theorem dL_law_926 : decode cL_law 926 = .ok (.aload_n 0, 1) := by decide +kernel
theorem dL_law_927 : decode cL_law 927 = .ok (.iload 4, 2) := by decide +kernel
theorem dL_law_929 : decode cL_law 929 = .ok (.bipush 7, 2) := by decide +kernel
theorem dL_law_931 : decode cL_law 931 = .ok (.iadd, 1) := by decide +kernel
theorem dL_law_932 : decode cL_law 932 = .ok (.iaload, 1) := by decide +kernel
theorem dL_law_933 : decode cL_law 933 = .ok (.i2l, 1) := by decide +kernel
theorem dL_law_934 : decode cL_law 934 = .ok (.ldc2_w 61, 3) := by decide +kernel
theorem dL_law_937 : decode cL_law 937 = .ok (.land, 1) := by decide +kernel
theorem dL_law_938 : decode cL_law 938 = .ok (.lor, 1) := by decide +kernel
theorem dL_law_939 : decode cL_law 939 = .ok (.aload_n 3, 1) := by decide +kernel
theorem dL_law_940 : decode cL_law 940 = .ok (.invokestatic 103, 3) := by decide +kernel
theorem dL_law_943 : decode cL_law 943 = .ok (.istore 5, 2) := by decide +kernel
theorem dL_law_945 : decode cL_law 945 = .ok (.aload_n 2, 1) := by decide +kernel
theorem dL_law_946 : decode cL_law 946 = .ok (.aload_n 0, 1) := by decide +kernel
theorem dL_law_947 : decode cL_law 947 = .ok (.iload 4, 2) := by decide +kernel
theorem dL_law_949 : decode cL_law 949 = .ok (.iconst 1, 1) := by decide +kernel
theorem dL_law_950 : decode cL_law 950 = .ok (.iadd, 1) := by decide +kernel
theorem dL_law_951 : decode cL_law 951 = .ok (.iaload, 1) := by decide +kernel
theorem dL_law_952 : decode cL_law 952 = .ok (.aload_n 0, 1) := by decide +kernel
theorem dL_law_953 : decode cL_law 953 = .ok (.iload 4, 2) := by decide +kernel
theorem dL_law_955 : decode cL_law 955 = .ok (.iconst 2, 1) := by decide +kernel
theorem dL_law_956 : decode cL_law 956 = .ok (.iadd, 1) := by decide +kernel
theorem dL_law_957 : decode cL_law 957 = .ok (.iaload, 1) := by decide +kernel
theorem dL_law_958 : decode cL_law 958 = .ok (.i2l, 1) := by decide +kernel
theorem dL_law_959 : decode cL_law 959 = .ok (.bipush 32, 2) := by decide +kernel
theorem dL_law_961 : decode cL_law 961 = .ok (.lshl, 1) := by decide +kernel
theorem dL_law_962 : decode cL_law 962 = .ok (.aload_n 0, 1) := by decide +kernel
theorem dL_law_963 : decode cL_law 963 = .ok (.iload 4, 2) := by decide +kernel
theorem dL_law_965 : decode cL_law 965 = .ok (.iconst 3, 1) := by decide +kernel
theorem dL_law_966 : decode cL_law 966 = .ok (.iadd, 1) := by decide +kernel
theorem dL_law_967 : decode cL_law 967 = .ok (.iaload, 1) := by decide +kernel
theorem dL_law_968 : decode cL_law 968 = .ok (.i2l, 1) := by decide +kernel
theorem dL_law_969 : decode cL_law 969 = .ok (.ldc2_w 61, 3) := by decide +kernel
theorem dL_law_972 : decode cL_law 972 = .ok (.land, 1) := by decide +kernel
theorem dL_law_973 : decode cL_law 973 = .ok (.lor, 1) := by decide +kernel
theorem dL_law_974 : decode cL_law 974 = .ok (.aload_n 0, 1) := by decide +kernel
theorem dL_law_975 : decode cL_law 975 = .ok (.iload 4, 2) := by decide +kernel
theorem dL_law_977 : decode cL_law 977 = .ok (.iconst 4, 1) := by decide +kernel
theorem dL_law_978 : decode cL_law 978 = .ok (.iadd, 1) := by decide +kernel
theorem dL_law_979 : decode cL_law 979 = .ok (.iaload, 1) := by decide +kernel
theorem dL_law_980 : decode cL_law 980 = .ok (.i2l, 1) := by decide +kernel
theorem dL_law_981 : decode cL_law 981 = .ok (.bipush 32, 2) := by decide +kernel
theorem dL_law_983 : decode cL_law 983 = .ok (.lshl, 1) := by decide +kernel
theorem dL_law_984 : decode cL_law 984 = .ok (.aload_n 0, 1) := by decide +kernel
theorem dL_law_985 : decode cL_law 985 = .ok (.iload 4, 2) := by decide +kernel
theorem dL_law_987 : decode cL_law 987 = .ok (.iconst 5, 1) := by decide +kernel
theorem dL_law_988 : decode cL_law 988 = .ok (.iadd, 1) := by decide +kernel
theorem dL_law_989 : decode cL_law 989 = .ok (.iaload, 1) := by decide +kernel
theorem dL_law_990 : decode cL_law 990 = .ok (.i2l, 1) := by decide +kernel
theorem dL_law_991 : decode cL_law 991 = .ok (.ldc2_w 61, 3) := by decide +kernel
theorem dL_law_994 : decode cL_law 994 = .ok (.land, 1) := by decide +kernel
theorem dL_law_995 : decode cL_law 995 = .ok (.lor, 1) := by decide +kernel
theorem dL_law_996 : decode cL_law 996 = .ok (.aload_n 0, 1) := by decide +kernel
theorem dL_law_997 : decode cL_law 997 = .ok (.iload 4, 2) := by decide +kernel
theorem dL_law_999 : decode cL_law 999 = .ok (.bipush 6, 2) := by decide +kernel
theorem dL_law_1001 : decode cL_law 1001 = .ok (.iadd, 1) := by decide +kernel
theorem dL_law_1002 : decode cL_law 1002 = .ok (.iaload, 1) := by decide +kernel
theorem dL_law_1003 : decode cL_law 1003 = .ok (.i2l, 1) := by decide +kernel
theorem dL_law_1004 : decode cL_law 1004 = .ok (.bipush 32, 2) := by decide +kernel
theorem dL_law_1006 : decode cL_law 1006 = .ok (.lshl, 1) := by decide +kernel
theorem dL_law_1007 : decode cL_law 1007 = .ok (.aload_n 0, 1) := by decide +kernel
theorem dL_law_1008 : decode cL_law 1008 = .ok (.iload 4, 2) := by decide +kernel
theorem dL_law_1010 : decode cL_law 1010 = .ok (.bipush 7, 2) := by decide +kernel
theorem dL_law_1012 : decode cL_law 1012 = .ok (.iadd, 1) := by decide +kernel
theorem dL_law_1013 : decode cL_law 1013 = .ok (.iaload, 1) := by decide +kernel
theorem dL_law_1014 : decode cL_law 1014 = .ok (.i2l, 1) := by decide +kernel
theorem dL_law_1015 : decode cL_law 1015 = .ok (.ldc2_w 61, 3) := by decide +kernel
theorem dL_law_1018 : decode cL_law 1018 = .ok (.land, 1) := by decide +kernel
theorem dL_law_1019 : decode cL_law 1019 = .ok (.lor, 1) := by decide +kernel
theorem dL_law_1020 : decode cL_law 1020 = .ok (.invokevirtual 106, 3) := by decide +kernel
theorem dL_law_1023 : decode cL_law 1023 = .ok (.istore 6, 2) := by decide +kernel
theorem dL_law_1025 : decode cL_law 1025 = .ok (.aload_n 2, 1) := by decide +kernel
theorem dL_law_1026 : decode cL_law 1026 = .ok (.invokevirtual 69, 3) := by decide +kernel
theorem dL_law_1029 : decode cL_law 1029 = .ok (.iload 5, 2) := by decide +kernel
theorem dL_law_1031 : decode cL_law 1031 = .ok (.if_icmp .eq 5, 3) := by decide +kernel
theorem dL_law_1034 : decode cL_law 1034 = .ok (.iconst 0, 1) := by decide +kernel
theorem dL_law_1035 : decode cL_law 1035 = .ok (.ireturn, 1) := by decide +kernel
theorem dL_law_1036 : decode cL_law 1036 = .ok (.iload 5, 2) := by decide +kernel
theorem dL_law_1038 : decode cL_law 1038 = .ok (.ifCond .ne 15, 3) := by decide +kernel
theorem dL_law_1041 : decode cL_law 1041 = .ok (.aload_n 3, 1) := by decide +kernel
theorem dL_law_1042 : decode cL_law 1042 = .ok (.iconst 0, 1) := by decide +kernel
theorem dL_law_1043 : decode cL_law 1043 = .ok (.laload, 1) := by decide +kernel
theorem dL_law_1044 : decode cL_law 1044 = .ok (.iload 6, 2) := by decide +kernel
theorem dL_law_1046 : decode cL_law 1046 = .ok (.i2l, 1) := by decide +kernel
theorem dL_law_1047 : decode cL_law 1047 = .ok (.lcmp, 1) := by decide +kernel
theorem dL_law_1048 : decode cL_law 1048 = .ok (.ifCond .eq 5, 3) := by decide +kernel
theorem dL_law_1051 : decode cL_law 1051 = .ok (.iconst 0, 1) := by decide +kernel
theorem dL_law_1052 : decode cL_law 1052 = .ok (.ireturn, 1) := by decide +kernel
theorem dL_law_1053 : decode cL_law 1053 = .ok (.goto 91, 3) := by decide +kernel
theorem dL_law_1056 : decode cL_law 1056 = .ok (.aload_n 1, 1) := by decide +kernel
theorem dL_law_1057 : decode cL_law 1057 = .ok (.aload_n 0, 1) := by decide +kernel
theorem dL_law_1058 : decode cL_law 1058 = .ok (.iload 4, 2) := by decide +kernel
theorem dL_law_1060 : decode cL_law 1060 = .ok (.iconst 1, 1) := by decide +kernel
theorem dL_law_1061 : decode cL_law 1061 = .ok (.iadd, 1) := by decide +kernel
theorem dL_law_1062 : decode cL_law 1062 = .ok (.iaload, 1) := by decide +kernel
theorem dL_law_1063 : decode cL_law 1063 = .ok (.aload_n 0, 1) := by decide +kernel
theorem dL_law_1064 : decode cL_law 1064 = .ok (.iload 4, 2) := by decide +kernel
theorem dL_law_1066 : decode cL_law 1066 = .ok (.iconst 2, 1) := by decide +kernel
theorem dL_law_1067 : decode cL_law 1067 = .ok (.iadd, 1) := by decide +kernel
theorem dL_law_1068 : decode cL_law 1068 = .ok (.iaload, 1) := by decide +kernel
theorem dL_law_1069 : decode cL_law 1069 = .ok (.aload_n 3, 1) := by decide +kernel
theorem dL_law_1070 : decode cL_law 1070 = .ok (.invokestatic 107, 3) := by decide +kernel
theorem dL_law_1073 : decode cL_law 1073 = .ok (.istore 5, 2) := by decide +kernel
theorem dL_law_1075 : decode cL_law 1075 = .ok (.aload_n 2, 1) := by decide +kernel
theorem dL_law_1076 : decode cL_law 1076 = .ok (.aload_n 0, 1) := by decide +kernel
theorem dL_law_1077 : decode cL_law 1077 = .ok (.iload 4, 2) := by decide +kernel
theorem dL_law_1079 : decode cL_law 1079 = .ok (.iconst 1, 1) := by decide +kernel
theorem dL_law_1080 : decode cL_law 1080 = .ok (.iadd, 1) := by decide +kernel
theorem dL_law_1081 : decode cL_law 1081 = .ok (.iaload, 1) := by decide +kernel
theorem dL_law_1082 : decode cL_law 1082 = .ok (.aload_n 0, 1) := by decide +kernel
theorem dL_law_1083 : decode cL_law 1083 = .ok (.iload 4, 2) := by decide +kernel
theorem dL_law_1085 : decode cL_law 1085 = .ok (.iconst 2, 1) := by decide +kernel
theorem dL_law_1086 : decode cL_law 1086 = .ok (.iadd, 1) := by decide +kernel
theorem dL_law_1087 : decode cL_law 1087 = .ok (.iaload, 1) := by decide +kernel
theorem dL_law_1088 : decode cL_law 1088 = .ok (.invokevirtual 109, 3) := by decide +kernel
theorem dL_law_1091 : decode cL_law 1091 = .ok (.istore 6, 2) := by decide +kernel
theorem dL_law_1093 : decode cL_law 1093 = .ok (.aload_n 2, 1) := by decide +kernel
theorem dL_law_1094 : decode cL_law 1094 = .ok (.invokevirtual 69, 3) := by decide +kernel
theorem dL_law_1097 : decode cL_law 1097 = .ok (.iload 5, 2) := by decide +kernel
theorem dL_law_1099 : decode cL_law 1099 = .ok (.if_icmp .eq 5, 3) := by decide +kernel
theorem dL_law_1102 : decode cL_law 1102 = .ok (.iconst 0, 1) := by decide +kernel
theorem dL_law_1103 : decode cL_law 1103 = .ok (.ireturn, 1) := by decide +kernel
theorem dL_law_1104 : decode cL_law 1104 = .ok (.iload 5, 2) := by decide +kernel
theorem dL_law_1106 : decode cL_law 1106 = .ok (.ifCond .ne 22, 3) := by decide +kernel
theorem dL_law_1109 : decode cL_law 1109 = .ok (.aload_n 3, 1) := by decide +kernel
theorem dL_law_1110 : decode cL_law 1110 = .ok (.iconst 0, 1) := by decide +kernel
theorem dL_law_1111 : decode cL_law 1111 = .ok (.laload, 1) := by decide +kernel
theorem dL_law_1112 : decode cL_law 1112 = .ok (.iload 6, 2) := by decide +kernel
theorem dL_law_1114 : decode cL_law 1114 = .ok (.ifCond .eq 7, 3) := by decide +kernel
theorem dL_law_1117 : decode cL_law 1117 = .ok (.lconst 1, 1) := by decide +kernel
theorem dL_law_1118 : decode cL_law 1118 = .ok (.goto 4, 3) := by decide +kernel
theorem dL_law_1121 : decode cL_law 1121 = .ok (.lconst 0, 1) := by decide +kernel
theorem dL_law_1122 : decode cL_law 1122 = .ok (.lcmp, 1) := by decide +kernel
theorem dL_law_1123 : decode cL_law 1123 = .ok (.ifCond .eq 5, 3) := by decide +kernel
theorem dL_law_1126 : decode cL_law 1126 = .ok (.iconst 0, 1) := by decide +kernel
theorem dL_law_1127 : decode cL_law 1127 = .ok (.ireturn, 1) := by decide +kernel
theorem dL_law_1128 : decode cL_law 1128 = .ok (.goto 16, 3) := by decide +kernel
theorem dL_law_1131 : decode cL_law 1131 = .ok (.aload_n 1, 1) := by decide +kernel
theorem dL_law_1132 : decode cL_law 1132 = .ok (.invokevirtual 110, 3) := by decide +kernel
theorem dL_law_1135 : decode cL_law 1135 = .ok (.aload_n 2, 1) := by decide +kernel
theorem dL_law_1136 : decode cL_law 1136 = .ok (.invokevirtual 113, 3) := by decide +kernel
theorem dL_law_1139 : decode cL_law 1139 = .ok (.if_icmp .eq 5, 3) := by decide +kernel
theorem dL_law_1142 : decode cL_law 1142 = .ok (.iconst 0, 1) := by decide +kernel
theorem dL_law_1143 : decode cL_law 1143 = .ok (.ireturn, 1) := by decide +kernel
theorem dL_law_1144 : decode cL_law 1144 = .ok (.iinc 4 8, 3) := by decide +kernel
theorem dL_law_1147 : decode cL_law 1147 = .ok (.goto (-1124), 3) := by decide +kernel
theorem dL_law_1150 : decode cL_law 1150 = .ok (.iconst 1, 1) := by decide +kernel
theorem dL_law_1151 : decode cL_law 1151 = .ok (.ireturn, 1) := by decide +kernel
end
section
/-! ===== methods that only read: the answer, the heap as it was ===== -/
def rQ (r : Option Value) : Array Value → State → Outcome → State → Prop := fun _ st oc t => oc = .returned r ∧ t.heap = st.heap
def rd_M (l : Launch) (y : MethodName) (cc : ByteArray) (mL : Nat) (ret : Option FieldType) (rm : Room) (As : List Value) (B : State → Prop) (r : Option Value) : Prop :=
  Met l y (.code y cc mL ret :: TB) rm (va_Pc As B) (rQ r) 0 0 (fun _ => False)
def bl_B (B : State → Prop) : Prop := ∀ (U : State) (g : JFrame) (mk : MethodId) (a : Array Value), B U → B (U.calling g mk a)
theorem bl_T : bl_B (fun _ => True) := fun _ _ _ _ _ => trivial
section RD
variable {p : Program} {l : Launch} {e : Env} {R : Room} {s : State} {m : MethodId} {args : Array Value} {below : List Frame} {meth : Method} {c : Code} {H : Heap} {locs : List Loc} {cells slots : Nat} {Q : State → Prop}
variable {pc : Nat} {ls : Array Slot} {rest st0 st1 : List Value} {a : Array Value}
theorem rd_go {r : Option Value} (hr : va_Run p l e R s m args below meth c H locs cells slots 0 0 (F0 m pc ls st0) rest (rQ r a) (fun _ => False)) (kk : W p l e R s m args below meth c H locs cells slots Q (F0 m (pc + 3) ls (r.toList ++ rest))) : W p l e R s m args below meth c H locs cells slots Q (F0 m pc ls st0) := by
  intro T hT X
  obtain ⟨v, st₀, t, T', L, h0, X', hL, e1, e2, ⟨hv, hh⟩, st⟩ := hr T hT X
  cases hv
  have hL0 : L = [] := by
    cases L with
    | nil => rfl
    | cons q _ => exact (hL q List.mem_cons_self).elim
  subst hL0
  rw [List.append_nil] at X'
  obtain ⟨t2, a1, b1⟩ := kk T' (by rw [e1, hh, h0]) X'
  exact ⟨t2, st t2 a1, b1⟩
variable {y : MethodName} {cc cy : ByteArray} {nL mL i n : Nat} {ret : Option FieldType} {rm : Room} {own : String} {As : List Value} {B : State → Prop} {r : Option Value}
/-- a static method of the own class -/
theorem rd_S (S : CallFix p m c cc nL s args TB own) (hM : rd_M l y cy mL ret rm As B r) (h1 : Cond.methodLink own i y ∈ TB) (h2 : Cond.static y ∈ TB) (h4 : Cond.initialized own ∈ TB) (hc : Cond.code y cy mL ret ∈ TB)
    (hd : y.cls = own ∧ y.cls ≠ "java/lang/invoke/MethodHandle" ∧ y.cls ≠ "java/lang/invoke/VarHandle" ∧ (parseMethodDescriptor y.desc).map (fun d => d.parameters.length) = some n) (hrm : rm.cells = 0 ∧ rm.slots = 0 ∧ rm.frames + 1 ≤ R.frames ∧ 8 + (mL + 11) + rm.locals ≤ R.locals)
    (hbl : bl_B B) (hB : ∀ U : State, U.heap = H → s.WarmedH U.vm → B U) (hn : As.length = n) (hnL : ls.size = nL) (hst : st0 = As.reverse ++ rest) (hw : (rest.map fun v => v.category).sum ≤ 8) (hdg : decode cc pc = .ok (.invokestatic i, 3)) (hcs : cells ≤ R.cells ∧ slots ≤ R.slots)
    (hs1 : r.toList ++ rest = st1)
    (kk : W p l e R s m args below meth c H locs cells slots Q (F0 m (pc + 3) ls st1)) : W p l e R s m args below meth c H locs cells slots Q (F0 m pc ls st0) :=
  rd_go (va_runS S hM (cwS n S.2.2.2.2 (gd_S h1 h2 h4 hc) rfl hrm.1 hrm.2.1 hd hrm.2.2) ⟨fun a U g mk q => ⟨q.1, hbl U g mk a q.2⟩, fun U hU hW => ⟨rfl, hB U hU hW⟩⟩ rfl hn hnL hst (lv_room (m := m) (pc := pc) (ls := ls) (rest := st0) hw) hdg hcs) (hs1 ▸ kk)
/-- an instance method; the receiver is an object of class C -/
theorem rd_V {C : String} {b : Addr} (S : CallFix p m c cc nL s args TB own) (hM : rd_M l y cy mL ret rm (.ref b :: As) B r) (h1 : Cond.methodLink own i y ∈ TB) (h2 : Cond.instanceMethod y ∈ TB) (h3 : Cond.selects C y y ∈ TB) (h4 : Cond.initialized C ∈ TB) (hc : Cond.code y cy mL ret ∈ TB)
    (hd : y.cls = C ∧ y.cls ≠ "java/lang/invoke/MethodHandle" ∧ y.cls ≠ "java/lang/invoke/VarHandle" ∧ (parseMethodDescriptor y.desc).map (fun d => d.parameters.length) = some n) (hrm : rm.cells = 0 ∧ rm.slots = 0 ∧ rm.frames + 1 ≤ R.frames ∧ 8 + (mL + 11) + rm.locals ≤ R.locals)
    (hbl : bl_B B) (hB : ∀ U : State, U.heap = H → s.WarmedH U.vm → B U) (hre : ∃ cell : Cell, H[b]? = some cell ∧ cell.vm.isStatics = false ∧ s.vm.findClass C = some cell.cls) (hn : As.length = n) (hnL : ls.size = nL) (hst : st0 = As.reverse ++ .ref b :: rest) (hw : (rest.map fun v => v.category).sum ≤ 8) (hdg : decode cc pc = .ok (.invokevirtual i, 3)) (hcs : cells ≤ R.cells ∧ slots ≤ R.slots)
    (hs1 : r.toList ++ rest = st1)
    (kk : W p l e R s m args below meth c H locs cells slots Q (F0 m (pc + 3) ls st1)) : W p l e R s m args below meth c H locs cells slots Q (F0 m pc ls st0) :=
  rd_go (va_runV S hM (cwV n S.2.2.2.2 (gd_V h1 h2 h3 h4 hc) rfl hrm.1 hrm.2.1 hd hrm.2.2) ⟨fun a U g mk q => ⟨q.1, hbl U g mk a q.2⟩, hre, fun U hU hW => ⟨rfl, hB U hU hW⟩⟩ rfl hn hnL hst (lv_room (m := m) (pc := pc) (ls := ls) (rest := st0) hw) hdg hcs) (hs1 ▸ kk)
/-- a static method of another class -/
theorem rd_S2 (S : CallFix p m c cc nL s args TB own) (hM : rd_M l y cy mL ret rm As B r) (h1 : Cond.methodLink own i y ∈ TB) (h2 : Cond.static y ∈ TB) (h4 : Cond.initialized y.cls ∈ TB) (hc : Cond.code y cy mL ret ∈ TB)
    (hd : y.cls ≠ "java/lang/invoke/MethodHandle" ∧ y.cls ≠ "java/lang/invoke/VarHandle" ∧ (parseMethodDescriptor y.desc).map (fun d => d.parameters.length) = some n) (hrm : rm.cells = 0 ∧ rm.slots = 0 ∧ rm.frames + 1 ≤ R.frames ∧ 8 + (mL + 11) + rm.locals ≤ R.locals)
    (hbl : bl_B B) (hB : ∀ U : State, U.heap = H → s.WarmedH U.vm → B U) (hn : As.length = n) (hnL : ls.size = nL) (hst : st0 = As.reverse ++ rest) (hw : (rest.map fun v => v.category).sum ≤ 8) (hdg : decode cc pc = .ok (.invokestatic i, 3)) (hcs : cells ≤ R.cells ∧ slots ≤ R.slots)
    (hs1 : r.toList ++ rest = st1)
    (kk : W p l e R s m args below meth c H locs cells slots Q (F0 m (pc + 3) ls st1)) : W p l e R s m args below meth c H locs cells slots Q (F0 m pc ls st0) :=
  rd_go (va_runS S hM (va_cwS n S.2.2.2.2 (gd_vS h1 h2 h4 hc) rfl hrm.1 hrm.2.1 hd hrm.2.2) ⟨fun a U g mk q => ⟨q.1, hbl U g mk a q.2⟩, fun U hU hW => ⟨rfl, hB U hU hW⟩⟩ rfl hn hnL hst (lv_room (m := m) (pc := pc) (ls := ls) (rest := st0) hw) hdg hcs) (hs1 ▸ kk)
end RD
/-- a reading method's body -/
theorem rd_of {l : Launch} (own : String) {y : MethodName} {cc : ByteArray} {mL : Nat} {ret : Option FieldType} {rm : Room} {As : List Value} {B : State → Prop} {r : Option Value} (hy : plainName y.cls = true) (ho : y.cls = own) (hL : (lg_sl As).length ≤ mL)
    (body : ∀ (p : Program) (e : Env) (s : State) (m : MethodId) (below : List Frame) (meth : Method) (c : Code), CallFix p m c cc mL s As.toArray TB own → meth.sig.returnType = ret → meth.locks = false → B s → ∀ ls : Array Slot, lv_has ls mL (lv_args 0 As) →
      W p l e rm s m As.toArray below meth c s.heap [] 0 0 (MQ below (rQ r) As.toArray s 0 0 (fun _ => False)) (F0 m 0 ls [])) : rd_M l y cc mL ret rm As B r := by
  refine Met.ofW (cc := cc) (maxL := mL) (ret := ret) hy rfl ?_
  intro p e s m args below meth c s₁ D hml hv
  obtain ⟨rfl, hB⟩ := hv
  have hts := atoms_spec (ws := .code y cc mL ret :: TB) D.pre
  have hl := lv_entry As (n := mL) hL
  rw [lg_entry_eq]
  exact body p e s m below meth c ⟨D.exec, D.bytes, hml, ho ▸ findClass_of_methodNamed D.named, fun w hw => hts w (List.mem_cons_of_mem _ hw)⟩ D.returns D.notSynchronized hB _ hl
section RE
variable {p : Program} {l : Launch} {e : Env} {R : Room} {s : State} {m : MethodId} {args : Array Value} {below : List Frame} {meth : Method} {c : Code} {cells slots : Nat}
theorem rd_iret {cc : ByteArray} {v : Int32} {pc : Nat} {ls : Array Slot} (hx : p.tables.exec = Jvm.exec) (hb : c.code = cc) (hr : meth.sig.returnType = some .int) (hlk : meth.locks = false) {r : Option Value} (hv : r = some (.int v)) (hdg : decode cc pc = .ok (.ireturn, 1)) : W p l e R s m args below meth c s.heap [] 0 0 (MQ below (rQ r) args s 0 0 (fun _ => False)) (F0 m pc ls [.int v]) :=
  W.iret hx hb hr (fun t ht _ => ⟨by rw [hv], ht⟩) (fun _ h => nomatch h) hdg hlk
theorem rd_zret {cc : ByteArray} {v : Int32} {pc : Nat} {ls : Array Slot} (hx : p.tables.exec = Jvm.exec) (hb : c.code = cc) (hr : meth.sig.returnType = some .boolean) (hlk : meth.locks = false) {r : Option Value} (hv : r = some (.int v)) (hn : narrow .boolean (.int v) = .int v) (hdg : decode cc pc = .ok (.ireturn, 1)) : W p l e R s m args below meth c s.heap [] 0 0 (MQ below (rQ r) args s 0 0 (fun _ => False)) (F0 m pc ls [.int v]) :=
  W.zret hx hb hr hn (fun t ht _ => ⟨by rw [hv], ht⟩) (fun _ h => nomatch h) hdg hlk
theorem rd_vret {cc : ByteArray} {pc : Nat} {ls : Array Slot} (hx : p.tables.exec = Jvm.exec) (hb : c.code = cc) (hr : meth.sig.returnType = none) (hlk : meth.locks = false) {r : Option Value} (hv : r = none) (hdg : decode cc pc = .ok (.return_, 1)) : W p l e R s m args below meth c s.heap [] 0 0 (MQ below (rQ r) args s 0 0 (fun _ => False)) (F0 m pc ls []) :=
  W.vret hx hb hr (fun t ht _ => ⟨by rw [hv], ht⟩) (fun _ h => nomatch h) hdg hlk
theorem rd_lret {cc : ByteArray} {v : Int64} {pc : Nat} {ls : Array Slot} (hx : p.tables.exec = Jvm.exec) (hb : c.code = cc) (hr : meth.sig.returnType = some .long) (hlk : meth.locks = false) {r : Option Value} (hv : r = some (.long v)) (hdg : decode cc pc = .ok (.lreturn, 1)) : W p l e R s m args below meth c s.heap [] 0 0 (MQ below (rQ r) args s 0 0 (fun _ => False)) (F0 m pc ls [.long v]) :=
  W.lret hx hb hr (fun t ht _ => ⟨by rw [hv], ht⟩) (fun _ h => nomatch h) hdg hlk
end RE
end
section
/-! ===== whole numbers behind ints and longs ===== -/
def iZ (z : Int) : Int32 := Int32.ofInt z
def lZ (z : Int) : Int64 := Int64.ofInt z
theorem iZ_of (x : Int32) : x = iZ x.toInt := (Int32.ofInt_toInt x).symm
theorem lZ_of (x : Int64) : x = lZ x.toInt := (Int64.ofInt_toInt x).symm
theorem iZ_int {z : Int} (h : -2147483648 ≤ z ∧ z ≤ 2147483647) : (iZ z).toInt = z := by
  unfold iZ
  rw [Int32.toInt_ofInt]
  have hs : (Int32.size : Int) = 4294967296 := rfl
  exact Int.bmod_eq_of_le (by omega) (by omega)
theorem lZ_int {z : Int} (h : -9223372036854775808 ≤ z ∧ z ≤ 9223372036854775807) : (lZ z).toInt = z := by
  unfold lZ
  rw [Int64.toInt_ofInt]
  have hs : (Int64.size : Int) = 18446744073709551616 := rfl
  exact Int.bmod_eq_of_le (by omega) (by omega)
theorem iZ_rng (x : Int32) : -2147483648 ≤ x.toInt ∧ x.toInt ≤ 2147483647 := ⟨Int32.le_toInt x, by have := Int32.toInt_lt x; omega⟩
theorem lZ_rng (x : Int64) : -9223372036854775808 ≤ x.toInt ∧ x.toInt ≤ 9223372036854775807 := ⟨Int64.le_toInt x, by have := Int64.toInt_lt x; omega⟩
theorem iZ_nI (n : Nat) : nI n = iZ n := by
  unfold nI iZ
  exact (Int32.ofInt_eq_ofNat).symm
theorem iZ_lt {a b : Int} (ha : -2147483648 ≤ a ∧ a ≤ 2147483647) (hb : -2147483648 ≤ b ∧ b ≤ 2147483647) : iZ a < iZ b ↔ a < b := by
  rw [Int32.lt_iff_toInt_lt, iZ_int ha, iZ_int hb]
theorem iZ_le {a b : Int} (ha : -2147483648 ≤ a ∧ a ≤ 2147483647) (hb : -2147483648 ≤ b ∧ b ≤ 2147483647) : iZ a ≤ iZ b ↔ a ≤ b := by
  rw [Int32.le_iff_toInt_le, iZ_int ha, iZ_int hb]
theorem iZ_eq {a b : Int} (ha : -2147483648 ≤ a ∧ a ≤ 2147483647) (hb : -2147483648 ≤ b ∧ b ≤ 2147483647) : iZ a = iZ b ↔ a = b := by
  rw [← Int32.toInt_inj, iZ_int ha, iZ_int hb]
theorem lZ_lt {a b : Int} (ha : -9223372036854775808 ≤ a ∧ a ≤ 9223372036854775807) (hb : -9223372036854775808 ≤ b ∧ b ≤ 9223372036854775807) : lZ a < lZ b ↔ a < b := by
  rw [Int64.lt_iff_toInt_lt, lZ_int ha, lZ_int hb]
theorem lZ_le {a b : Int} (ha : -9223372036854775808 ≤ a ∧ a ≤ 9223372036854775807) (hb : -9223372036854775808 ≤ b ∧ b ≤ 9223372036854775807) : lZ a ≤ lZ b ↔ a ≤ b := by
  rw [Int64.le_iff_toInt_le, lZ_int ha, lZ_int hb]
theorem lZ_eq {a b : Int} (ha : -9223372036854775808 ≤ a ∧ a ≤ 9223372036854775807) (hb : -9223372036854775808 ≤ b ∧ b ≤ 9223372036854775807) : lZ a = lZ b ↔ a = b := by
  rw [← Int64.toInt_inj, lZ_int ha, lZ_int hb]
theorem iZ_add (a b : Int) : iZ a + iZ b = iZ (a + b) := (Int32.ofInt_add a b).symm
theorem iZ_sub (a b : Int) : iZ a - iZ b = iZ (a - b) := (Int32.ofInt_sub a b).symm
theorem iZ_mul (a b : Int) : iZ a * iZ b = iZ (a * b) := (Int32.ofInt_mul a b).symm
theorem iZ_neg (a : Int) : -iZ a = iZ (-a) := (Int32.ofInt_neg a).symm
theorem lZ_add (a b : Int) : lZ a + lZ b = lZ (a + b) := (Int64.ofInt_add a b).symm
theorem lZ_sub (a b : Int) : lZ a - lZ b = lZ (a - b) := (Int64.ofInt_sub a b).symm
theorem lZ_mul (a b : Int) : lZ a * lZ b = lZ (a * b) := (Int64.ofInt_mul a b).symm
theorem lZ_neg (a : Int) : -lZ a = lZ (-a) := (Int64.ofInt_neg a).symm
theorem iZ_l {a : Int} (h : -2147483648 ≤ a ∧ a ≤ 2147483647) : (iZ a).toInt64 = lZ a := by
  rw [← Int64.toInt_inj, Int32.toInt_toInt64, iZ_int h, lZ_int (by omega)]
theorem lZ_i (a : Int) : (lZ a).toInt32 = iZ a := Int64.toInt32_ofInt
theorem iZ_cl {a : Int} (h0 : 0 ≤ a) (h : a ≤ 2147483647) : (iZ a).toNatClampNeg = a.toNat := by
  show (iZ a).toInt.toNat = a.toNat
  rw [iZ_int (by omega)]
theorem iZ_in {a : Int} {n : Nat} (h0 : 0 ≤ a) (h : a < n) (hn : n < 2147483648) : vp_in (iZ a) n := by
  rw [vp_in_iff, iZ_int (by omega)]
  exact ⟨h0, h⟩
theorem tmod_e {a b : Int} (hb : 0 < b) (h : 0 ≤ a) : a.tmod b = a % b := Int.tmod_eq_emod_of_nonneg h
/-- Java's remainder of longs, as the machine has it -/
theorem lZ_rem {a b : Int} (ha : -9223372036854775808 ≤ a ∧ a ≤ 9223372036854775807) (hb : 0 < b ∧ b ≤ 9223372036854775807) : lZ a - lZ a / lZ b * lZ b = lZ (a.tmod b) := by
  have hq : (lZ a / lZ b).toInt = a.tdiv b := by
    rw [Int64.toInt_div_of_ne_right, lZ_int ha, lZ_int (by omega)]
    intro h
    have := congrArg Int64.toInt h
    rw [lZ_int (by omega)] at this
    have h2 : (-1 : Int64).toInt = -1 := by decide
    omega
  have h1 : lZ a / lZ b = lZ (a.tdiv b) := by
    rw [lZ_of (lZ a / lZ b), hq]
  rw [h1, lZ_mul, lZ_sub]
  congr 1
  have := Int.tmod_add_mul_tdiv a b
  have h3 : a.tdiv b * b = b * a.tdiv b := Int.mul_comm _ _
  omega
theorem iZ_rem {a b : Int} (ha : -2147483648 ≤ a ∧ a ≤ 2147483647) (hb : 0 < b ∧ b ≤ 2147483647) : iZ a - iZ a / iZ b * iZ b = iZ (a.tmod b) := by
  have hq : (iZ a / iZ b).toInt = a.tdiv b := by
    rw [Int32.toInt_div_of_ne_right, iZ_int ha, iZ_int (by omega)]
    intro h
    have := congrArg Int32.toInt h
    rw [iZ_int (by omega)] at this
    have h2 : (-1 : Int32).toInt = -1 := by decide
    omega
  have h1 : iZ a / iZ b = iZ (a.tdiv b) := by
    rw [iZ_of (iZ a / iZ b), hq]
  rw [h1, iZ_mul, iZ_sub]
  congr 1
  have := Int.tmod_add_mul_tdiv a b
  have h3 : a.tdiv b * b = b * a.tdiv b := Int.mul_comm _ _
  omega
theorem iZ_div {a b : Int} (ha : -2147483648 ≤ a ∧ a ≤ 2147483647) (hb : 0 < b ∧ b ≤ 2147483647) : iZ a / iZ b = iZ (a.tdiv b) := by
  have hq : (iZ a / iZ b).toInt = a.tdiv b := by
    rw [Int32.toInt_div_of_ne_right, iZ_int ha, iZ_int (by omega)]
    intro h
    have := congrArg Int32.toInt h
    rw [iZ_int (by omega)] at this
    have h2 : (-1 : Int32).toInt = -1 := by decide
    omega
  rw [iZ_of (iZ a / iZ b), hq]
section ZR
variable {p : Program} {l : Launch} {e : Env} {R : Room} {s : State} {m : MethodId} {args : Array Value} {below : List Frame} {meth : Method} {c : Code} {H : Heap} {locs : List Loc} {cells slots : Nat} {Q : State → Prop}
variable {cc : ByteArray} {pc : Nat} {ls : Array Slot} {rest : List Value} {a b : Int}
theorem zi_const (hx : p.tables.exec = Jvm.exec) (hb : c.code = cc) (z : Int) (hdg : decode cc pc = .ok (.iconst z, 1)) (k : W p l e R s m args below meth c H locs cells slots Q (F0 m (pc + 1) ls (.int (iZ z) :: rest))) : W p l e R s m args below meth c H locs cells slots Q (F0 m pc ls rest) := lv_iconst hx hb hdg rfl k
theorem zi_bi (hx : p.tables.exec = Jvm.exec) (hb : c.code = cc) (z : Int) (hdg : decode cc pc = .ok (.bipush z, 2)) (hz : (Int8.ofInt z).toInt32 = iZ z) (k : W p l e R s m args below meth c H locs cells slots Q (F0 m (pc + 2) ls (.int (iZ z) :: rest))) : W p l e R s m args below meth c H locs cells slots Q (F0 m pc ls rest) := lv_bipush hx hb hdg hz k
theorem zi_si (hx : p.tables.exec = Jvm.exec) (hb : c.code = cc) (z : Int) (hdg : decode cc pc = .ok (.sipush z, 3)) (hz : (Int16.ofInt z).toInt32 = iZ z) (k : W p l e R s m args below meth c H locs cells slots Q (F0 m (pc + 3) ls (.int (iZ z) :: rest))) : W p l e R s m args below meth c H locs cells slots Q (F0 m pc ls rest) := lv_sipush hx hb hdg hz k
theorem zl_const (hx : p.tables.exec = Jvm.exec) (hb : c.code = cc) (z : Int) {n : Fin 2} (hdg : decode cc pc = .ok (.lconst n, 1)) (hz : Int64.ofNat (n : Nat) = lZ z) (k : W p l e R s m args below meth c H locs cells slots Q (F0 m (pc + 1) ls (.long (lZ z) :: rest))) : W p l e R s m args below meth c H locs cells slots Q (F0 m pc ls rest) := lv_lconst hx hb hdg hz k
theorem zl_ldc (hx : p.tables.exec = Jvm.exec) (hb : c.code = cc) (z : Int) {own : String} {i : Nat} {v : Int64} (hown : s.vm.findClass own = some m.cls) (hc : (Jvm.Cond.constantLong own i v).before args s = true) (hz : v = lZ z) (hdg : decode cc pc = .ok (.ldc2_w i, 3)) (k : W p l e R s m args below meth c H locs cells slots Q (F0 m (pc + 3) ls (.long (lZ z) :: rest))) : W p l e R s m args below meth c H locs cells slots Q (F0 m pc ls rest) := lv_ldc2 hx hb hown hc hdg (hz ▸ k)
theorem zi_add (hx : p.tables.exec = Jvm.exec) (hb : c.code = cc) (hdg : decode cc pc = .ok (.iadd, 1)) (k : W p l e R s m args below meth c H locs cells slots Q (F0 m (pc + 1) ls (.int (iZ (a + b)) :: rest))) : W p l e R s m args below meth c H locs cells slots Q (F0 m pc ls (.int (iZ b) :: .int (iZ a) :: rest)) := lv_iadd hx hb hdg (by rw [iZ_add]; exact k)
theorem zi_sub (hx : p.tables.exec = Jvm.exec) (hb : c.code = cc) (hdg : decode cc pc = .ok (.isub, 1)) (k : W p l e R s m args below meth c H locs cells slots Q (F0 m (pc + 1) ls (.int (iZ (a - b)) :: rest))) : W p l e R s m args below meth c H locs cells slots Q (F0 m pc ls (.int (iZ b) :: .int (iZ a) :: rest)) := lv_isub hx hb hdg (by rw [iZ_sub]; exact k)
theorem zi_mul (hx : p.tables.exec = Jvm.exec) (hb : c.code = cc) (hdg : decode cc pc = .ok (.imul, 1)) (k : W p l e R s m args below meth c H locs cells slots Q (F0 m (pc + 1) ls (.int (iZ (a * b)) :: rest))) : W p l e R s m args below meth c H locs cells slots Q (F0 m pc ls (.int (iZ b) :: .int (iZ a) :: rest)) := lv_imul hx hb hdg (by rw [iZ_mul]; exact k)
theorem zi_neg (hx : p.tables.exec = Jvm.exec) (hb : c.code = cc) (hdg : decode cc pc = .ok (.ineg, 1)) (k : W p l e R s m args below meth c H locs cells slots Q (F0 m (pc + 1) ls (.int (iZ (-a)) :: rest))) : W p l e R s m args below meth c H locs cells slots Q (F0 m pc ls (.int (iZ a) :: rest)) := lv_ineg hx hb hdg (by rw [iZ_neg]; exact k)
theorem zl_add (hx : p.tables.exec = Jvm.exec) (hb : c.code = cc) (hdg : decode cc pc = .ok (.ladd, 1)) (k : W p l e R s m args below meth c H locs cells slots Q (F0 m (pc + 1) ls (.long (lZ (a + b)) :: rest))) : W p l e R s m args below meth c H locs cells slots Q (F0 m pc ls (.long (lZ b) :: .long (lZ a) :: rest)) := lv_ladd hx hb hdg (by rw [lZ_add]; exact k)
theorem zl_sub (hx : p.tables.exec = Jvm.exec) (hb : c.code = cc) (hdg : decode cc pc = .ok (.lsub, 1)) (k : W p l e R s m args below meth c H locs cells slots Q (F0 m (pc + 1) ls (.long (lZ (a - b)) :: rest))) : W p l e R s m args below meth c H locs cells slots Q (F0 m pc ls (.long (lZ b) :: .long (lZ a) :: rest)) := lv_lsub hx hb hdg (by rw [lZ_sub]; exact k)
theorem zl_mul (hx : p.tables.exec = Jvm.exec) (hb : c.code = cc) (hdg : decode cc pc = .ok (.lmul, 1)) (k : W p l e R s m args below meth c H locs cells slots Q (F0 m (pc + 1) ls (.long (lZ (a * b)) :: rest))) : W p l e R s m args below meth c H locs cells slots Q (F0 m pc ls (.long (lZ b) :: .long (lZ a) :: rest)) := lv_lmul hx hb hdg (by rw [lZ_mul]; exact k)
theorem zl_neg (hx : p.tables.exec = Jvm.exec) (hb : c.code = cc) (hdg : decode cc pc = .ok (.lneg, 1)) (k : W p l e R s m args below meth c H locs cells slots Q (F0 m (pc + 1) ls (.long (lZ (-a)) :: rest))) : W p l e R s m args below meth c H locs cells slots Q (F0 m pc ls (.long (lZ a) :: rest)) := lv_lneg hx hb hdg (by rw [lZ_neg]; exact k)
theorem zl_rem (hx : p.tables.exec = Jvm.exec) (hb : c.code = cc) (hdg : decode cc pc = .ok (.lrem, 1)) (ha : -9223372036854775808 ≤ a ∧ a ≤ 9223372036854775807) (h2 : 0 < b ∧ b ≤ 9223372036854775807) (k : W p l e R s m args below meth c H locs cells slots Q (F0 m (pc + 1) ls (.long (lZ (a.tmod b)) :: rest))) : W p l e R s m args below meth c H locs cells slots Q (F0 m pc ls (.long (lZ b) :: .long (lZ a) :: rest)) := lv_lrem hx hb hdg (fun h => by
  have := congrArg Int64.toInt h
  rw [lZ_int (by omega)] at this
  have h3 : (0 : Int64).toInt = 0 := by decide
  omega) (by rw [lZ_rem ha h2]; exact k)
theorem zi_rem (hx : p.tables.exec = Jvm.exec) (hb : c.code = cc) (hdg : decode cc pc = .ok (.irem, 1)) (ha : -2147483648 ≤ a ∧ a ≤ 2147483647) (h2 : 0 < b ∧ b ≤ 2147483647) (k : W p l e R s m args below meth c H locs cells slots Q (F0 m (pc + 1) ls (.int (iZ (a.tmod b)) :: rest))) : W p l e R s m args below meth c H locs cells slots Q (F0 m pc ls (.int (iZ b) :: .int (iZ a) :: rest)) := lv_irem hx hb hdg (fun h => by
  have := congrArg Int32.toInt h
  rw [iZ_int (by omega)] at this
  have h3 : (0 : Int32).toInt = 0 := by decide
  omega) (by rw [iZ_rem ha h2]; exact k)
theorem zi_div (hx : p.tables.exec = Jvm.exec) (hb : c.code = cc) (hdg : decode cc pc = .ok (.idiv, 1)) (ha : -2147483648 ≤ a ∧ a ≤ 2147483647) (h2 : 0 < b ∧ b ≤ 2147483647) (k : W p l e R s m args below meth c H locs cells slots Q (F0 m (pc + 1) ls (.int (iZ (a.tdiv b)) :: rest))) : W p l e R s m args below meth c H locs cells slots Q (F0 m pc ls (.int (iZ b) :: .int (iZ a) :: rest)) := lv_idiv hx hb hdg (fun h => by
  have := congrArg Int32.toInt h
  rw [iZ_int (by omega)] at this
  have h3 : (0 : Int32).toInt = 0 := by decide
  omega) (by rw [iZ_div ha h2]; exact k)
theorem zi_i2l (hx : p.tables.exec = Jvm.exec) (hb : c.code = cc) (hdg : decode cc pc = .ok (.i2l, 1)) (ha : -2147483648 ≤ a ∧ a ≤ 2147483647) (k : W p l e R s m args below meth c H locs cells slots Q (F0 m (pc + 1) ls (.long (lZ a) :: rest))) : W p l e R s m args below meth c H locs cells slots Q (F0 m pc ls (.int (iZ a) :: rest)) := lv_i2l hx hb hdg (iZ_l ha) k
theorem zl_l2i (hx : p.tables.exec = Jvm.exec) (hb : c.code = cc) (hdg : decode cc pc = .ok (.l2i, 1)) (k : W p l e R s m args below meth c H locs cells slots Q (F0 m (pc + 1) ls (.int (iZ a) :: rest))) : W p l e R s m args below meth c H locs cells slots Q (F0 m pc ls (.long (lZ a) :: rest)) := lv_l2i hx hb hdg (lZ_i a) k
theorem zi_inc (hx : p.tables.exec = Jvm.exec) (hb : c.code = cc) {i nL k : Nat} {n : Int} {lv lv' : List (Nat × Value)} (hdg : decode cc pc = .ok (.iinc i n, 3)) (h : lv_has ls nL lv) (hk : lv[k]? = some (i, .int (iZ a))) (hn : i < nL) (hl : (i, Value.int (iZ (a + n))) :: lv.filter (fun q => !(q.1 == i) && !(q.1 + 1 == i && q.2.category == 2)) = lv')
    (kk : ∀ ls' : Array Slot, lv_has ls' nL lv' → W p l e R s m args below meth c H locs cells slots Q (F0 m (pc + 3) ls' rest)) : W p l e R s m args below meth c H locs cells slots Q (F0 m pc ls rest) := lv_iinc hx hb hdg h hk (iZ_add a n) hn hl kk
/-- a new name for a number on the stack -/
theorem zi_top (k : ∀ z : Int, z = a → W p l e R s m args below meth c H locs cells slots Q (F0 m pc ls (.int (iZ z) :: rest))) : W p l e R s m args below meth c H locs cells slots Q (F0 m pc ls (.int (iZ a) :: rest)) := k a rfl
theorem zl_top (k : ∀ z : Int, z = a → W p l e R s m args below meth c H locs cells slots Q (F0 m pc ls (.long (lZ z) :: rest))) : W p l e R s m args below meth c H locs cells slots Q (F0 m pc ls (.long (lZ a) :: rest)) := k a rfl
theorem zi_as {x : Int32} (h : x = iZ a) (k : W p l e R s m args below meth c H locs cells slots Q (F0 m pc ls (.int (iZ a) :: rest))) : W p l e R s m args below meth c H locs cells slots Q (F0 m pc ls (.int x :: rest)) := h ▸ k
theorem zl_as {x : Int64} (h : x = lZ a) (k : W p l e R s m args below meth c H locs cells slots Q (F0 m pc ls (.long (lZ a) :: rest))) : W p l e R s m args below meth c H locs cells slots Q (F0 m pc ls (.long x :: rest)) := h ▸ k
theorem zi_ceq (hx : p.tables.exec = Jvm.exec) (hb : c.code = cc) {off : Int} {tgt : Nat} (hdg : decode cc pc = .ok (.if_icmp .eq off, 3)) (ht : (pc : Int) + off = (tgt : Int)) (ha : -2147483648 ≤ a ∧ a ≤ 2147483647) (h2 : -2147483648 ≤ b ∧ b ≤ 2147483647) (kt : a = b → W p l e R s m args below meth c H locs cells slots Q (F0 m tgt ls rest)) (kf : ¬ (a = b) → W p l e R s m args below meth c H locs cells slots Q (F0 m (pc + 3) ls rest)) : W p l e R s m args below meth c H locs cells slots Q (F0 m pc ls (.int (iZ b) :: .int (iZ a) :: rest)) := lv_icmp_eq hx hb hdg ht (fun h => kt ((iZ_eq ha h2).mp h)) (fun h => kf (fun q => h ((iZ_eq ha h2).mpr q)))
theorem zi_feq (hx : p.tables.exec = Jvm.exec) (hb : c.code = cc) {off : Int} {tgt : Nat} (hdg : decode cc pc = .ok (.ifCond .eq off, 3)) (ht : (pc : Int) + off = (tgt : Int)) (ha : -2147483648 ≤ a ∧ a ≤ 2147483647) (kt : a = 0 → W p l e R s m args below meth c H locs cells slots Q (F0 m tgt ls rest)) (kf : ¬ (a = 0) → W p l e R s m args below meth c H locs cells slots Q (F0 m (pc + 3) ls rest)) : W p l e R s m args below meth c H locs cells slots Q (F0 m pc ls (.int (iZ a) :: rest)) := lv_if_eq hx hb hdg ht (fun h => kt ((iZ_eq ha (b := 0) (by omega)).mp h)) (fun h => kf (fun q => h ((iZ_eq ha (b := 0) (by omega)).mpr q)))
theorem zl_ceq (hx : p.tables.exec = Jvm.exec) (hb : c.code = cc) {off : Int} {tgt : Nat} (hd0 : decode cc pc = .ok (.lcmp, 1)) (hdg : decode cc (pc + 1) = .ok (.ifCond .eq off, 3)) (ht : ((pc + 1 : Nat) : Int) + off = (tgt : Int)) (ha : -9223372036854775808 ≤ a ∧ a ≤ 9223372036854775807) (h2 : -9223372036854775808 ≤ b ∧ b ≤ 9223372036854775807) (kt : a = b → W p l e R s m args below meth c H locs cells slots Q (F0 m tgt ls rest)) (kf : ¬ (a = b) → W p l e R s m args below meth c H locs cells slots Q (F0 m (pc + 1 + 3) ls rest)) : W p l e R s m args below meth c H locs cells slots Q (F0 m pc ls (.long (lZ b) :: .long (lZ a) :: rest)) := W.lcmp hx hb hd0 (lv_if_eq hx hb hdg ht (fun h => kt ((lZ_eq ha h2).mp ((lg_cmp_eq _ _).mp h))) (fun h => kf (fun q => h ((lg_cmp_eq _ _).mpr ((lZ_eq ha h2).mpr q)))))
theorem zi_cne (hx : p.tables.exec = Jvm.exec) (hb : c.code = cc) {off : Int} {tgt : Nat} (hdg : decode cc pc = .ok (.if_icmp .ne off, 3)) (ht : (pc : Int) + off = (tgt : Int)) (ha : -2147483648 ≤ a ∧ a ≤ 2147483647) (h2 : -2147483648 ≤ b ∧ b ≤ 2147483647) (kt : a ≠ b → W p l e R s m args below meth c H locs cells slots Q (F0 m tgt ls rest)) (kf : a = b → W p l e R s m args below meth c H locs cells slots Q (F0 m (pc + 3) ls rest)) : W p l e R s m args below meth c H locs cells slots Q (F0 m pc ls (.int (iZ b) :: .int (iZ a) :: rest)) := lv_icmp_ne hx hb hdg ht (fun h => kt ((not_congr (iZ_eq ha h2)).mp h)) (fun h => kf ((iZ_eq ha h2).mp h))
theorem zi_fne (hx : p.tables.exec = Jvm.exec) (hb : c.code = cc) {off : Int} {tgt : Nat} (hdg : decode cc pc = .ok (.ifCond .ne off, 3)) (ht : (pc : Int) + off = (tgt : Int)) (ha : -2147483648 ≤ a ∧ a ≤ 2147483647) (kt : a ≠ 0 → W p l e R s m args below meth c H locs cells slots Q (F0 m tgt ls rest)) (kf : a = 0 → W p l e R s m args below meth c H locs cells slots Q (F0 m (pc + 3) ls rest)) : W p l e R s m args below meth c H locs cells slots Q (F0 m pc ls (.int (iZ a) :: rest)) := lv_if_ne hx hb hdg ht (fun h => kt ((not_congr (iZ_eq ha (b := 0) (by omega))).mp h)) (fun h => kf ((iZ_eq ha (b := 0) (by omega)).mp h))
theorem zl_cne (hx : p.tables.exec = Jvm.exec) (hb : c.code = cc) {off : Int} {tgt : Nat} (hd0 : decode cc pc = .ok (.lcmp, 1)) (hdg : decode cc (pc + 1) = .ok (.ifCond .ne off, 3)) (ht : ((pc + 1 : Nat) : Int) + off = (tgt : Int)) (ha : -9223372036854775808 ≤ a ∧ a ≤ 9223372036854775807) (h2 : -9223372036854775808 ≤ b ∧ b ≤ 9223372036854775807) (kt : a ≠ b → W p l e R s m args below meth c H locs cells slots Q (F0 m tgt ls rest)) (kf : a = b → W p l e R s m args below meth c H locs cells slots Q (F0 m (pc + 1 + 3) ls rest)) : W p l e R s m args below meth c H locs cells slots Q (F0 m pc ls (.long (lZ b) :: .long (lZ a) :: rest)) := W.lcmp hx hb hd0 (lv_if_ne hx hb hdg ht (fun h => kt ((not_congr (lZ_eq ha h2)).mp ((not_congr (lg_cmp_eq _ _)).mp h))) (fun h => kf ((lZ_eq ha h2).mp ((lg_cmp_eq _ _).mp h))))
theorem zi_clt (hx : p.tables.exec = Jvm.exec) (hb : c.code = cc) {off : Int} {tgt : Nat} (hdg : decode cc pc = .ok (.if_icmp .lt off, 3)) (ht : (pc : Int) + off = (tgt : Int)) (ha : -2147483648 ≤ a ∧ a ≤ 2147483647) (h2 : -2147483648 ≤ b ∧ b ≤ 2147483647) (kt : a < b → W p l e R s m args below meth c H locs cells slots Q (F0 m tgt ls rest)) (kf : ¬ (a < b) → W p l e R s m args below meth c H locs cells slots Q (F0 m (pc + 3) ls rest)) : W p l e R s m args below meth c H locs cells slots Q (F0 m pc ls (.int (iZ b) :: .int (iZ a) :: rest)) := lv_icmp_lt hx hb hdg ht (fun h => kt ((iZ_lt ha h2).mp h)) (fun h => kf (fun q => h ((iZ_lt ha h2).mpr q)))
theorem zi_flt (hx : p.tables.exec = Jvm.exec) (hb : c.code = cc) {off : Int} {tgt : Nat} (hdg : decode cc pc = .ok (.ifCond .lt off, 3)) (ht : (pc : Int) + off = (tgt : Int)) (ha : -2147483648 ≤ a ∧ a ≤ 2147483647) (kt : a < 0 → W p l e R s m args below meth c H locs cells slots Q (F0 m tgt ls rest)) (kf : ¬ (a < 0) → W p l e R s m args below meth c H locs cells slots Q (F0 m (pc + 3) ls rest)) : W p l e R s m args below meth c H locs cells slots Q (F0 m pc ls (.int (iZ a) :: rest)) := lv_if_lt hx hb hdg ht (fun h => kt ((iZ_lt ha (b := 0) (by omega)).mp h)) (fun h => kf (fun q => h ((iZ_lt ha (b := 0) (by omega)).mpr q)))
theorem zl_clt (hx : p.tables.exec = Jvm.exec) (hb : c.code = cc) {off : Int} {tgt : Nat} (hd0 : decode cc pc = .ok (.lcmp, 1)) (hdg : decode cc (pc + 1) = .ok (.ifCond .lt off, 3)) (ht : ((pc + 1 : Nat) : Int) + off = (tgt : Int)) (ha : -9223372036854775808 ≤ a ∧ a ≤ 9223372036854775807) (h2 : -9223372036854775808 ≤ b ∧ b ≤ 9223372036854775807) (kt : a < b → W p l e R s m args below meth c H locs cells slots Q (F0 m tgt ls rest)) (kf : ¬ (a < b) → W p l e R s m args below meth c H locs cells slots Q (F0 m (pc + 1 + 3) ls rest)) : W p l e R s m args below meth c H locs cells slots Q (F0 m pc ls (.long (lZ b) :: .long (lZ a) :: rest)) := W.lcmp hx hb hd0 (lv_if_lt hx hb hdg ht (fun h => kt ((lZ_lt ha h2).mp ((lg_cmp_lt _ _).mp h))) (fun h => kf (fun q => h ((lg_cmp_lt _ _).mpr ((lZ_lt ha h2).mpr q)))))
theorem zi_cge (hx : p.tables.exec = Jvm.exec) (hb : c.code = cc) {off : Int} {tgt : Nat} (hdg : decode cc pc = .ok (.if_icmp .ge off, 3)) (ht : (pc : Int) + off = (tgt : Int)) (ha : -2147483648 ≤ a ∧ a ≤ 2147483647) (h2 : -2147483648 ≤ b ∧ b ≤ 2147483647) (kt : b ≤ a → W p l e R s m args below meth c H locs cells slots Q (F0 m tgt ls rest)) (kf : ¬ (b ≤ a) → W p l e R s m args below meth c H locs cells slots Q (F0 m (pc + 3) ls rest)) : W p l e R s m args below meth c H locs cells slots Q (F0 m pc ls (.int (iZ b) :: .int (iZ a) :: rest)) := lv_icmp_ge hx hb hdg ht (fun h => kt ((iZ_le h2 ha).mp h)) (fun h => kf (fun q => h ((iZ_le h2 ha).mpr q)))
theorem zi_fge (hx : p.tables.exec = Jvm.exec) (hb : c.code = cc) {off : Int} {tgt : Nat} (hdg : decode cc pc = .ok (.ifCond .ge off, 3)) (ht : (pc : Int) + off = (tgt : Int)) (ha : -2147483648 ≤ a ∧ a ≤ 2147483647) (kt : 0 ≤ a → W p l e R s m args below meth c H locs cells slots Q (F0 m tgt ls rest)) (kf : ¬ (0 ≤ a) → W p l e R s m args below meth c H locs cells slots Q (F0 m (pc + 3) ls rest)) : W p l e R s m args below meth c H locs cells slots Q (F0 m pc ls (.int (iZ a) :: rest)) := lv_if_ge hx hb hdg ht (fun h => kt ((iZ_le (a := 0) (by omega) ha).mp h)) (fun h => kf (fun q => h ((iZ_le (a := 0) (by omega) ha).mpr q)))
theorem zl_cge (hx : p.tables.exec = Jvm.exec) (hb : c.code = cc) {off : Int} {tgt : Nat} (hd0 : decode cc pc = .ok (.lcmp, 1)) (hdg : decode cc (pc + 1) = .ok (.ifCond .ge off, 3)) (ht : ((pc + 1 : Nat) : Int) + off = (tgt : Int)) (ha : -9223372036854775808 ≤ a ∧ a ≤ 9223372036854775807) (h2 : -9223372036854775808 ≤ b ∧ b ≤ 9223372036854775807) (kt : b ≤ a → W p l e R s m args below meth c H locs cells slots Q (F0 m tgt ls rest)) (kf : ¬ (b ≤ a) → W p l e R s m args below meth c H locs cells slots Q (F0 m (pc + 1 + 3) ls rest)) : W p l e R s m args below meth c H locs cells slots Q (F0 m pc ls (.long (lZ b) :: .long (lZ a) :: rest)) := W.lcmp hx hb hd0 (lv_if_ge hx hb hdg ht (fun h => kt ((lZ_le h2 ha).mp ((lg_cmp_ge _ _).mp h))) (fun h => kf (fun q => h ((lg_cmp_ge _ _).mpr ((lZ_le h2 ha).mpr q)))))
theorem zi_cgt (hx : p.tables.exec = Jvm.exec) (hb : c.code = cc) {off : Int} {tgt : Nat} (hdg : decode cc pc = .ok (.if_icmp .gt off, 3)) (ht : (pc : Int) + off = (tgt : Int)) (ha : -2147483648 ≤ a ∧ a ≤ 2147483647) (h2 : -2147483648 ≤ b ∧ b ≤ 2147483647) (kt : b < a → W p l e R s m args below meth c H locs cells slots Q (F0 m tgt ls rest)) (kf : ¬ (b < a) → W p l e R s m args below meth c H locs cells slots Q (F0 m (pc + 3) ls rest)) : W p l e R s m args below meth c H locs cells slots Q (F0 m pc ls (.int (iZ b) :: .int (iZ a) :: rest)) := lv_icmp_gt hx hb hdg ht (fun h => kt ((iZ_lt h2 ha).mp h)) (fun h => kf (fun q => h ((iZ_lt h2 ha).mpr q)))
theorem zi_fgt (hx : p.tables.exec = Jvm.exec) (hb : c.code = cc) {off : Int} {tgt : Nat} (hdg : decode cc pc = .ok (.ifCond .gt off, 3)) (ht : (pc : Int) + off = (tgt : Int)) (ha : -2147483648 ≤ a ∧ a ≤ 2147483647) (kt : 0 < a → W p l e R s m args below meth c H locs cells slots Q (F0 m tgt ls rest)) (kf : ¬ (0 < a) → W p l e R s m args below meth c H locs cells slots Q (F0 m (pc + 3) ls rest)) : W p l e R s m args below meth c H locs cells slots Q (F0 m pc ls (.int (iZ a) :: rest)) := lv_if_gt hx hb hdg ht (fun h => kt ((iZ_lt (a := 0) (by omega) ha).mp h)) (fun h => kf (fun q => h ((iZ_lt (a := 0) (by omega) ha).mpr q)))
theorem zl_cgt (hx : p.tables.exec = Jvm.exec) (hb : c.code = cc) {off : Int} {tgt : Nat} (hd0 : decode cc pc = .ok (.lcmp, 1)) (hdg : decode cc (pc + 1) = .ok (.ifCond .gt off, 3)) (ht : ((pc + 1 : Nat) : Int) + off = (tgt : Int)) (ha : -9223372036854775808 ≤ a ∧ a ≤ 9223372036854775807) (h2 : -9223372036854775808 ≤ b ∧ b ≤ 9223372036854775807) (kt : b < a → W p l e R s m args below meth c H locs cells slots Q (F0 m tgt ls rest)) (kf : ¬ (b < a) → W p l e R s m args below meth c H locs cells slots Q (F0 m (pc + 1 + 3) ls rest)) : W p l e R s m args below meth c H locs cells slots Q (F0 m pc ls (.long (lZ b) :: .long (lZ a) :: rest)) := W.lcmp hx hb hd0 (lv_if_gt hx hb hdg ht (fun h => kt ((lZ_lt h2 ha).mp ((lg_cmp_gt _ _).mp h))) (fun h => kf (fun q => h ((lg_cmp_gt _ _).mpr ((lZ_lt h2 ha).mpr q)))))
theorem zi_cle (hx : p.tables.exec = Jvm.exec) (hb : c.code = cc) {off : Int} {tgt : Nat} (hdg : decode cc pc = .ok (.if_icmp .le off, 3)) (ht : (pc : Int) + off = (tgt : Int)) (ha : -2147483648 ≤ a ∧ a ≤ 2147483647) (h2 : -2147483648 ≤ b ∧ b ≤ 2147483647) (kt : a ≤ b → W p l e R s m args below meth c H locs cells slots Q (F0 m tgt ls rest)) (kf : ¬ (a ≤ b) → W p l e R s m args below meth c H locs cells slots Q (F0 m (pc + 3) ls rest)) : W p l e R s m args below meth c H locs cells slots Q (F0 m pc ls (.int (iZ b) :: .int (iZ a) :: rest)) := lv_icmp_le hx hb hdg ht (fun h => kt ((iZ_le ha h2).mp h)) (fun h => kf (fun q => h ((iZ_le ha h2).mpr q)))
theorem zi_fle (hx : p.tables.exec = Jvm.exec) (hb : c.code = cc) {off : Int} {tgt : Nat} (hdg : decode cc pc = .ok (.ifCond .le off, 3)) (ht : (pc : Int) + off = (tgt : Int)) (ha : -2147483648 ≤ a ∧ a ≤ 2147483647) (kt : a ≤ 0 → W p l e R s m args below meth c H locs cells slots Q (F0 m tgt ls rest)) (kf : ¬ (a ≤ 0) → W p l e R s m args below meth c H locs cells slots Q (F0 m (pc + 3) ls rest)) : W p l e R s m args below meth c H locs cells slots Q (F0 m pc ls (.int (iZ a) :: rest)) := lv_if_le hx hb hdg ht (fun h => kt ((iZ_le ha (b := 0) (by omega)).mp h)) (fun h => kf (fun q => h ((iZ_le ha (b := 0) (by omega)).mpr q)))
theorem zl_cle (hx : p.tables.exec = Jvm.exec) (hb : c.code = cc) {off : Int} {tgt : Nat} (hd0 : decode cc pc = .ok (.lcmp, 1)) (hdg : decode cc (pc + 1) = .ok (.ifCond .le off, 3)) (ht : ((pc + 1 : Nat) : Int) + off = (tgt : Int)) (ha : -9223372036854775808 ≤ a ∧ a ≤ 9223372036854775807) (h2 : -9223372036854775808 ≤ b ∧ b ≤ 9223372036854775807) (kt : a ≤ b → W p l e R s m args below meth c H locs cells slots Q (F0 m tgt ls rest)) (kf : ¬ (a ≤ b) → W p l e R s m args below meth c H locs cells slots Q (F0 m (pc + 1 + 3) ls rest)) : W p l e R s m args below meth c H locs cells slots Q (F0 m pc ls (.long (lZ b) :: .long (lZ a) :: rest)) := W.lcmp hx hb hd0 (lv_if_le hx hb hdg ht (fun h => kt ((lZ_le ha h2).mp ((lg_cmp_le _ _).mp h))) (fun h => kf (fun q => h ((lg_cmp_le _ _).mpr ((lZ_le ha h2).mpr q)))))
end ZR
section LP
variable {p : Program} {l : Launch} {e : Env} {R : Room} {s : State} {m : MethodId} {args : Array Value} {below : List Frame} {meth : Method} {c : Code} {H : Heap} {locs : List Loc} {cells slots : Nat} {Q : State → Prop}
/-- a loop that leaves the heap alone: a state a, a bound n that falls -/
theorem lp_go {head nL : Nat} {α : Type} (lv : α → List (Nat × Value)) (I : Nat → α → Prop)
    (step : ∀ (n : Nat) (a : α), I n a → (∀ (k : Nat) (b : α), k < n → I k b → ∀ ls : Array Slot, lv_has ls nL (lv b) → W p l e R s m args below meth c H locs cells slots Q (F0 m head ls [])) → ∀ ls : Array Slot, lv_has ls nL (lv a) → W p l e R s m args below meth c H locs cells slots Q (F0 m head ls [])) :
    ∀ (n : Nat) (a : α), I n a → ∀ ls : Array Slot, lv_has ls nL (lv a) → W p l e R s m args below meth c H locs cells slots Q (F0 m head ls []) := by
  intro n
  induction n using Nat.strongRecOn with
  | _ n ih => exact fun a ha ls hl => step n a ha (fun k b hk hb => ih k hk b hb) ls hl
end LP
end
section
theorem hd_X0_init : yX0_init.cls = RX0 ∧ yX0_init.cls ≠ "java/lang/invoke/MethodHandle" ∧ yX0_init.cls ≠ "java/lang/invoke/VarHandle" ∧ (parseMethodDescriptor yX0_init.desc).map (fun d => d.parameters.length) = some 0 := by decide +kernel
theorem hd_X0_term : yX0_term.cls = RX0 ∧ yX0_term.cls ≠ "java/lang/invoke/MethodHandle" ∧ yX0_term.cls ≠ "java/lang/invoke/VarHandle" ∧ (parseMethodDescriptor yX0_term.desc).map (fun d => d.parameters.length) = some 3 := by decide +kernel
theorem hd_X0_add : yX0_add.cls = RX0 ∧ yX0_add.cls ≠ "java/lang/invoke/MethodHandle" ∧ yX0_add.cls ≠ "java/lang/invoke/VarHandle" ∧ (parseMethodDescriptor yX0_add.desc).map (fun d => d.parameters.length) = some 2 := by decide +kernel
theorem hd_X0_less : yX0_less.cls = RX0 ∧ yX0_less.cls ≠ "java/lang/invoke/MethodHandle" ∧ yX0_less.cls ≠ "java/lang/invoke/VarHandle" ∧ (parseMethodDescriptor yX0_less.desc).map (fun d => d.parameters.length) = some 3 := by decide +kernel
theorem hd_X0_times : yX0_times.cls = RX0 ∧ yX0_times.cls ≠ "java/lang/invoke/MethodHandle" ∧ yX0_times.cls ≠ "java/lang/invoke/VarHandle" ∧ (parseMethodDescriptor yX0_times.desc).map (fun d => d.parameters.length) = some 2 := by decide +kernel
theorem hd_X0_derive : yX0_derive.cls = RX0 ∧ yX0_derive.cls ≠ "java/lang/invoke/MethodHandle" ∧ yX0_derive.cls ≠ "java/lang/invoke/VarHandle" ∧ (parseMethodDescriptor yX0_derive.desc).map (fun d => d.parameters.length) = some 1 := by decide +kernel
theorem hd_X0_integrate : yX0_integrate.cls = RX0 ∧ yX0_integrate.cls ≠ "java/lang/invoke/MethodHandle" ∧ yX0_integrate.cls ≠ "java/lang/invoke/VarHandle" ∧ (parseMethodDescriptor yX0_integrate.desc).map (fun d => d.parameters.length) = some 1 := by decide +kernel
theorem hd_X0_rest : yX0_rest.cls = RX0 ∧ yX0_rest.cls ≠ "java/lang/invoke/MethodHandle" ∧ yX0_rest.cls ≠ "java/lang/invoke/VarHandle" ∧ (parseMethodDescriptor yX0_rest.desc).map (fun d => d.parameters.length) = some 2 := by decide +kernel
theorem hd_X0_at : yX0_at.cls = RX0 ∧ yX0_at.cls ≠ "java/lang/invoke/MethodHandle" ∧ yX0_at.cls ≠ "java/lang/invoke/VarHandle" ∧ (parseMethodDescriptor yX0_at.desc).map (fun d => d.parameters.length) = some 3 := by decide +kernel
theorem hd_X0_terms : yX0_terms.cls = RX0 ∧ yX0_terms.cls ≠ "java/lang/invoke/MethodHandle" ∧ yX0_terms.cls ≠ "java/lang/invoke/VarHandle" ∧ (parseMethodDescriptor yX0_terms.desc).map (fun d => d.parameters.length) = some 2 := by decide +kernel
theorem hd_X0_degree : yX0_degree.cls = RX0 ∧ yX0_degree.cls ≠ "java/lang/invoke/MethodHandle" ∧ yX0_degree.cls ≠ "java/lang/invoke/VarHandle" ∧ (parseMethodDescriptor yX0_degree.desc).map (fun d => d.parameters.length) = some 2 := by decide +kernel
theorem hd_X0_value : yX0_value.cls = RX0 ∧ yX0_value.cls ≠ "java/lang/invoke/MethodHandle" ∧ yX0_value.cls ≠ "java/lang/invoke/VarHandle" ∧ (parseMethodDescriptor yX0_value.desc).map (fun d => d.parameters.length) = some 4 := by decide +kernel
theorem hd_X0_same : yX0_same.cls = RX0 ∧ yX0_same.cls ≠ "java/lang/invoke/MethodHandle" ∧ yX0_same.cls ≠ "java/lang/invoke/VarHandle" ∧ (parseMethodDescriptor yX0_same.desc).map (fun d => d.parameters.length) = some 2 := by decide +kernel
theorem hd_X0_count : yX0_count.cls = RX0 ∧ yX0_count.cls ≠ "java/lang/invoke/MethodHandle" ∧ yX0_count.cls ≠ "java/lang/invoke/VarHandle" ∧ (parseMethodDescriptor yX0_count.desc).map (fun d => d.parameters.length) = some 0 := by decide +kernel
theorem hd_X0_needElement : yX0_needElement.cls = RX0 ∧ yX0_needElement.cls ≠ "java/lang/invoke/MethodHandle" ∧ yX0_needElement.cls ≠ "java/lang/invoke/VarHandle" ∧ (parseMethodDescriptor yX0_needElement.desc).map (fun d => d.parameters.length) = some 1 := by decide +kernel
theorem hd_X0_needRoom : yX0_needRoom.cls = RX0 ∧ yX0_needRoom.cls ≠ "java/lang/invoke/MethodHandle" ∧ yX0_needRoom.cls ≠ "java/lang/invoke/VarHandle" ∧ (parseMethodDescriptor yX0_needRoom.desc).map (fun d => d.parameters.length) = some 0 := by decide +kernel
theorem hd_X0_needKind : yX0_needKind.cls = RX0 ∧ yX0_needKind.cls ≠ "java/lang/invoke/MethodHandle" ∧ yX0_needKind.cls ≠ "java/lang/invoke/VarHandle" ∧ (parseMethodDescriptor yX0_needKind.desc).map (fun d => d.parameters.length) = some 1 := by decide +kernel
theorem hd_X0_needPower : yX0_needPower.cls = RX0 ∧ yX0_needPower.cls ≠ "java/lang/invoke/MethodHandle" ∧ yX0_needPower.cls ≠ "java/lang/invoke/VarHandle" ∧ (parseMethodDescriptor yX0_needPower.desc).map (fun d => d.parameters.length) = some 1 := by decide +kernel
theorem hd_X0_isKind : yX0_isKind.cls = RX0 ∧ yX0_isKind.cls ≠ "java/lang/invoke/MethodHandle" ∧ yX0_isKind.cls ≠ "java/lang/invoke/VarHandle" ∧ (parseMethodDescriptor yX0_isKind.desc).map (fun d => d.parameters.length) = some 1 := by decide +kernel
theorem hd_X0_isPower : yX0_isPower.cls = RX0 ∧ yX0_isPower.cls ≠ "java/lang/invoke/MethodHandle" ∧ yX0_isPower.cls ≠ "java/lang/invoke/VarHandle" ∧ (parseMethodDescriptor yX0_isPower.desc).map (fun d => d.parameters.length) = some 1 := by decide +kernel
theorem hd_X0_reduce : yX0_reduce.cls = RX0 ∧ yX0_reduce.cls ≠ "java/lang/invoke/MethodHandle" ∧ yX0_reduce.cls ≠ "java/lang/invoke/VarHandle" ∧ (parseMethodDescriptor yX0_reduce.desc).map (fun d => d.parameters.length) = some 1 := by decide +kernel
theorem hd_X0_multiply : yX0_multiply.cls = RX0 ∧ yX0_multiply.cls ≠ "java/lang/invoke/MethodHandle" ∧ yX0_multiply.cls ≠ "java/lang/invoke/VarHandle" ∧ (parseMethodDescriptor yX0_multiply.desc).map (fun d => d.parameters.length) = some 2 := by decide +kernel
theorem hd_X0_power : yX0_power.cls = RX0 ∧ yX0_power.cls ≠ "java/lang/invoke/MethodHandle" ∧ yX0_power.cls ≠ "java/lang/invoke/VarHandle" ∧ (parseMethodDescriptor yX0_power.desc).map (fun d => d.parameters.length) = some 2 := by decide +kernel
theorem hd_X0_inverse : yX0_inverse.cls = RX0 ∧ yX0_inverse.cls ≠ "java/lang/invoke/MethodHandle" ∧ yX0_inverse.cls ≠ "java/lang/invoke/VarHandle" ∧ (parseMethodDescriptor yX0_inverse.desc).map (fun d => d.parameters.length) = some 1 := by decide +kernel
theorem hd_X0_divide : yX0_divide.cls = RX0 ∧ yX0_divide.cls ≠ "java/lang/invoke/MethodHandle" ∧ yX0_divide.cls ≠ "java/lang/invoke/VarHandle" ∧ (parseMethodDescriptor yX0_divide.desc).map (fun d => d.parameters.length) = some 2 := by decide +kernel
theorem hd_X0_place : yX0_place.cls = RX0 ∧ yX0_place.cls ≠ "java/lang/invoke/MethodHandle" ∧ yX0_place.cls ≠ "java/lang/invoke/VarHandle" ∧ (parseMethodDescriptor yX0_place.desc).map (fun d => d.parameters.length) = some 3 := by decide +kernel
theorem hd_X0_number : yX0_number.cls = RX0 ∧ yX0_number.cls ≠ "java/lang/invoke/MethodHandle" ∧ yX0_number.cls ≠ "java/lang/invoke/VarHandle" ∧ (parseMethodDescriptor yX0_number.desc).map (fun d => d.parameters.length) = some 3 := by decide +kernel
theorem hd_X0_setDraft : yX0_setDraft.cls = RX0 ∧ yX0_setDraft.cls ≠ "java/lang/invoke/MethodHandle" ∧ yX0_setDraft.cls ≠ "java/lang/invoke/VarHandle" ∧ (parseMethodDescriptor yX0_setDraft.desc).map (fun d => d.parameters.length) = some 3 := by decide +kernel
theorem hd_X0_clearDraft : yX0_clearDraft.cls = RX0 ∧ yX0_clearDraft.cls ≠ "java/lang/invoke/MethodHandle" ∧ yX0_clearDraft.cls ≠ "java/lang/invoke/VarHandle" ∧ (parseMethodDescriptor yX0_clearDraft.desc).map (fun d => d.parameters.length) = some 0 := by decide +kernel
theorem hd_X0_keepDraft : yX0_keepDraft.cls = RX0 ∧ yX0_keepDraft.cls ≠ "java/lang/invoke/MethodHandle" ∧ yX0_keepDraft.cls ≠ "java/lang/invoke/VarHandle" ∧ (parseMethodDescriptor yX0_keepDraft.desc).map (fun d => d.parameters.length) = some 0 := by decide +kernel
theorem hd_X0_countTerms : yX0_countTerms.cls = RX0 ∧ yX0_countTerms.cls ≠ "java/lang/invoke/MethodHandle" ∧ yX0_countTerms.cls ≠ "java/lang/invoke/VarHandle" ∧ (parseMethodDescriptor yX0_countTerms.desc).map (fun d => d.parameters.length) = some 3 := by decide +kernel
theorem hd_X0_draftSum : yX0_draftSum.cls = RX0 ∧ yX0_draftSum.cls ≠ "java/lang/invoke/MethodHandle" ∧ yX0_draftSum.cls ≠ "java/lang/invoke/VarHandle" ∧ (parseMethodDescriptor yX0_draftSum.desc).map (fun d => d.parameters.length) = some 3 := by decide +kernel
theorem hd_X0_logMeetsExponential : yX0_logMeetsExponential.cls = RX0 ∧ yX0_logMeetsExponential.cls ≠ "java/lang/invoke/MethodHandle" ∧ yX0_logMeetsExponential.cls ≠ "java/lang/invoke/VarHandle" ∧ (parseMethodDescriptor yX0_logMeetsExponential.desc).map (fun d => d.parameters.length) = some 2 := by decide +kernel
theorem hd_X0_sumUpProduct : yX0_sumUpProduct.cls = RX0 ∧ yX0_sumUpProduct.cls ≠ "java/lang/invoke/MethodHandle" ∧ yX0_sumUpProduct.cls ≠ "java/lang/invoke/VarHandle" ∧ (parseMethodDescriptor yX0_sumUpProduct.desc).map (fun d => d.parameters.length) = some 2 := by decide +kernel
theorem hd_X0_addMultiple : yX0_addMultiple.cls = RX0 ∧ yX0_addMultiple.cls ≠ "java/lang/invoke/MethodHandle" ∧ yX0_addMultiple.cls ≠ "java/lang/invoke/VarHandle" ∧ (parseMethodDescriptor yX0_addMultiple.desc).map (fun d => d.parameters.length) = some 4 := by decide +kernel
theorem hd_X0_wideKind : yX0_wideKind.cls = RX0 ∧ yX0_wideKind.cls ≠ "java/lang/invoke/MethodHandle" ∧ yX0_wideKind.cls ≠ "java/lang/invoke/VarHandle" ∧ (parseMethodDescriptor yX0_wideKind.desc).map (fun d => d.parameters.length) = some 2 := by decide +kernel
theorem hd_X0_widePlace : yX0_widePlace.cls = RX0 ∧ yX0_widePlace.cls ≠ "java/lang/invoke/MethodHandle" ∧ yX0_widePlace.cls ≠ "java/lang/invoke/VarHandle" ∧ (parseMethodDescriptor yX0_widePlace.desc).map (fun d => d.parameters.length) = some 2 := by decide +kernel
theorem hd_X0_isWidePlace : yX0_isWidePlace.cls = RX0 ∧ yX0_isWidePlace.cls ≠ "java/lang/invoke/MethodHandle" ∧ yX0_isWidePlace.cls ≠ "java/lang/invoke/VarHandle" ∧ (parseMethodDescriptor yX0_isWidePlace.desc).map (fun d => d.parameters.length) = some 2 := by decide +kernel
theorem hd_X0_clearWide : yX0_clearWide.cls = RX0 ∧ yX0_clearWide.cls ≠ "java/lang/invoke/MethodHandle" ∧ yX0_clearWide.cls ≠ "java/lang/invoke/VarHandle" ∧ (parseMethodDescriptor yX0_clearWide.desc).map (fun d => d.parameters.length) = some 0 := by decide +kernel
theorem hd_X0_addWide : yX0_addWide.cls = RX0 ∧ yX0_addWide.cls ≠ "java/lang/invoke/MethodHandle" ∧ yX0_addWide.cls ≠ "java/lang/invoke/VarHandle" ∧ (parseMethodDescriptor yX0_addWide.desc).map (fun d => d.parameters.length) = some 3 := by decide +kernel
theorem hd_X0_wideNumber : yX0_wideNumber.cls = RX0 ∧ yX0_wideNumber.cls ≠ "java/lang/invoke/MethodHandle" ∧ yX0_wideNumber.cls ≠ "java/lang/invoke/VarHandle" ∧ (parseMethodDescriptor yX0_wideNumber.desc).map (fun d => d.parameters.length) = some 2 := by decide +kernel
theorem hd_X0_productIsTooFar : yX0_productIsTooFar.cls = RX0 ∧ yX0_productIsTooFar.cls ≠ "java/lang/invoke/MethodHandle" ∧ yX0_productIsTooFar.cls ≠ "java/lang/invoke/VarHandle" ∧ (parseMethodDescriptor yX0_productIsTooFar.desc).map (fun d => d.parameters.length) = some 0 := by decide +kernel
theorem hd_X0_isKnownWideKind : yX0_isKnownWideKind.cls = RX0 ∧ yX0_isKnownWideKind.cls ≠ "java/lang/invoke/MethodHandle" ∧ yX0_isKnownWideKind.cls ≠ "java/lang/invoke/VarHandle" ∧ (parseMethodDescriptor yX0_isKnownWideKind.desc).map (fun d => d.parameters.length) = some 1 := by decide +kernel
theorem hd_X0_draftProduct : yX0_draftProduct.cls = RX0 ∧ yX0_draftProduct.cls ≠ "java/lang/invoke/MethodHandle" ∧ yX0_draftProduct.cls ≠ "java/lang/invoke/VarHandle" ∧ (parseMethodDescriptor yX0_draftProduct.desc).map (fun d => d.parameters.length) = some 0 := by decide +kernel
theorem hd_X0_slopeNumber : yX0_slopeNumber.cls = RX0 ∧ yX0_slopeNumber.cls ≠ "java/lang/invoke/MethodHandle" ∧ yX0_slopeNumber.cls ≠ "java/lang/invoke/VarHandle" ∧ (parseMethodDescriptor yX0_slopeNumber.desc).map (fun d => d.parameters.length) = some 3 := by decide +kernel
theorem hd_X0_slopeIsTooFar : yX0_slopeIsTooFar.cls = RX0 ∧ yX0_slopeIsTooFar.cls ≠ "java/lang/invoke/MethodHandle" ∧ yX0_slopeIsTooFar.cls ≠ "java/lang/invoke/VarHandle" ∧ (parseMethodDescriptor yX0_slopeIsTooFar.desc).map (fun d => d.parameters.length) = some 1 := by decide +kernel
theorem hd_X0_draftSlope : yX0_draftSlope.cls = RX0 ∧ yX0_draftSlope.cls ≠ "java/lang/invoke/MethodHandle" ∧ yX0_draftSlope.cls ≠ "java/lang/invoke/VarHandle" ∧ (parseMethodDescriptor yX0_draftSlope.desc).map (fun d => d.parameters.length) = some 1 := by decide +kernel
theorem hd_X0_restOf : yX0_restOf.cls = RX0 ∧ yX0_restOf.cls ≠ "java/lang/invoke/MethodHandle" ∧ yX0_restOf.cls ≠ "java/lang/invoke/VarHandle" ∧ (parseMethodDescriptor yX0_restOf.desc).map (fun d => d.parameters.length) = some 2 := by decide +kernel
theorem hd_X0_hasRest : yX0_hasRest.cls = RX0 ∧ yX0_hasRest.cls ≠ "java/lang/invoke/MethodHandle" ∧ yX0_hasRest.cls ≠ "java/lang/invoke/VarHandle" ∧ (parseMethodDescriptor yX0_hasRest.desc).map (fun d => d.parameters.length) = some 1 := by decide +kernel
theorem hd_X0_integralIsTooFar : yX0_integralIsTooFar.cls = RX0 ∧ yX0_integralIsTooFar.cls ≠ "java/lang/invoke/MethodHandle" ∧ yX0_integralIsTooFar.cls ≠ "java/lang/invoke/VarHandle" ∧ (parseMethodDescriptor yX0_integralIsTooFar.desc).map (fun d => d.parameters.length) = some 1 := by decide +kernel
theorem hd_X0_draftLogIntegral : yX0_draftLogIntegral.cls = RX0 ∧ yX0_draftLogIntegral.cls ≠ "java/lang/invoke/MethodHandle" ∧ yX0_draftLogIntegral.cls ≠ "java/lang/invoke/VarHandle" ∧ (parseMethodDescriptor yX0_draftLogIntegral.desc).map (fun d => d.parameters.length) = some 1 := by decide +kernel
theorem hd_X0_draftConstantPowerIntegral : yX0_draftConstantPowerIntegral.cls = RX0 ∧ yX0_draftConstantPowerIntegral.cls ≠ "java/lang/invoke/MethodHandle" ∧ yX0_draftConstantPowerIntegral.cls ≠ "java/lang/invoke/VarHandle" ∧ (parseMethodDescriptor yX0_draftConstantPowerIntegral.desc).map (fun d => d.parameters.length) = some 1 := by decide +kernel
theorem hd_X0_draftExponentialIntegral : yX0_draftExponentialIntegral.cls = RX0 ∧ yX0_draftExponentialIntegral.cls ≠ "java/lang/invoke/MethodHandle" ∧ yX0_draftExponentialIntegral.cls ≠ "java/lang/invoke/VarHandle" ∧ (parseMethodDescriptor yX0_draftExponentialIntegral.desc).map (fun d => d.parameters.length) = some 1 := by decide +kernel
theorem hd_X0_dividesByX : yX0_dividesByX.cls = RX0 ∧ yX0_dividesByX.cls ≠ "java/lang/invoke/MethodHandle" ∧ yX0_dividesByX.cls ≠ "java/lang/invoke/VarHandle" ∧ (parseMethodDescriptor yX0_dividesByX.desc).map (fun d => d.parameters.length) = some 1 := by decide +kernel
theorem hd_X0_dividesByE : yX0_dividesByE.cls = RX0 ∧ yX0_dividesByE.cls ≠ "java/lang/invoke/MethodHandle" ∧ yX0_dividesByE.cls ≠ "java/lang/invoke/VarHandle" ∧ (parseMethodDescriptor yX0_dividesByE.desc).map (fun d => d.parameters.length) = some 1 := by decide +kernel
theorem hd_X0_valueInX : yX0_valueInX.cls = RX0 ∧ yX0_valueInX.cls ≠ "java/lang/invoke/MethodHandle" ∧ yX0_valueInX.cls ≠ "java/lang/invoke/VarHandle" ∧ (parseMethodDescriptor yX0_valueInX.desc).map (fun d => d.parameters.length) = some 4 := by decide +kernel
theorem hd_X1_init : yX1_init.cls = RX1 ∧ yX1_init.cls ≠ "java/lang/invoke/MethodHandle" ∧ yX1_init.cls ≠ "java/lang/invoke/VarHandle" ∧ (parseMethodDescriptor yX1_init.desc).map (fun d => d.parameters.length) = some 0 := by decide +kernel
theorem hd_X1_thrown : yX1_thrown.cls = RX1 ∧ yX1_thrown.cls ≠ "java/lang/invoke/MethodHandle" ∧ yX1_thrown.cls ≠ "java/lang/invoke/VarHandle" ∧ (parseMethodDescriptor yX1_thrown.desc).map (fun d => d.parameters.length) = some 0 := by decide +kernel
theorem hd_X1_raise : yX1_raise.cls = RX1 ∧ yX1_raise.cls ≠ "java/lang/invoke/MethodHandle" ∧ yX1_raise.cls ≠ "java/lang/invoke/VarHandle" ∧ (parseMethodDescriptor yX1_raise.desc).map (fun d => d.parameters.length) = some 1 := by decide +kernel
theorem hd_X1_in : yX1_in.cls = RX1 ∧ yX1_in.cls ≠ "java/lang/invoke/MethodHandle" ∧ yX1_in.cls ≠ "java/lang/invoke/VarHandle" ∧ (parseMethodDescriptor yX1_in.desc).map (fun d => d.parameters.length) = some 3 := by decide +kernel
theorem hd_X1_modulo : yX1_modulo.cls = RX1 ∧ yX1_modulo.cls ≠ "java/lang/invoke/MethodHandle" ∧ yX1_modulo.cls ≠ "java/lang/invoke/VarHandle" ∧ (parseMethodDescriptor yX1_modulo.desc).map (fun d => d.parameters.length) = some 1 := by decide +kernel
theorem hd_X1_inverse : yX1_inverse.cls = RX1 ∧ yX1_inverse.cls ≠ "java/lang/invoke/MethodHandle" ∧ yX1_inverse.cls ≠ "java/lang/invoke/VarHandle" ∧ (parseMethodDescriptor yX1_inverse.desc).map (fun d => d.parameters.length) = some 1 := by decide +kernel
theorem hd_X1_place : yX1_place.cls = RX1 ∧ yX1_place.cls ≠ "java/lang/invoke/MethodHandle" ∧ yX1_place.cls ≠ "java/lang/invoke/VarHandle" ∧ (parseMethodDescriptor yX1_place.desc).map (fun d => d.parameters.length) = some 2 := by decide +kernel
theorem hd_X1_exponent : yX1_exponent.cls = RX1 ∧ yX1_exponent.cls ≠ "java/lang/invoke/MethodHandle" ∧ yX1_exponent.cls ≠ "java/lang/invoke/VarHandle" ∧ (parseMethodDescriptor yX1_exponent.desc).map (fun d => d.parameters.length) = some 1 := by decide +kernel
theorem hd_X1_isThere : yX1_isThere.cls = RX1 ∧ yX1_isThere.cls ≠ "java/lang/invoke/MethodHandle" ∧ yX1_isThere.cls ≠ "java/lang/invoke/VarHandle" ∧ (parseMethodDescriptor yX1_isThere.desc).map (fun d => d.parameters.length) = some 1 := by decide +kernel
theorem hd_X1_may : yX1_may.cls = RX1 ∧ yX1_may.cls ≠ "java/lang/invoke/MethodHandle" ∧ yX1_may.cls ≠ "java/lang/invoke/VarHandle" ∧ (parseMethodDescriptor yX1_may.desc).map (fun d => d.parameters.length) = some 2 := by decide +kernel
theorem hd_X1_load : yX1_load.cls = RX1 ∧ yX1_load.cls ≠ "java/lang/invoke/MethodHandle" ∧ yX1_load.cls ≠ "java/lang/invoke/VarHandle" ∧ (parseMethodDescriptor yX1_load.desc).map (fun d => d.parameters.length) = some 2 := by decide +kernel
theorem hd_X1_keep : yX1_keep.cls = RX1 ∧ yX1_keep.cls ≠ "java/lang/invoke/MethodHandle" ∧ yX1_keep.cls ≠ "java/lang/invoke/VarHandle" ∧ (parseMethodDescriptor yX1_keep.desc).map (fun d => d.parameters.length) = some 0 := by decide +kernel
theorem hd_X1_term : yX1_term.cls = RX1 ∧ yX1_term.cls ≠ "java/lang/invoke/MethodHandle" ∧ yX1_term.cls ≠ "java/lang/invoke/VarHandle" ∧ (parseMethodDescriptor yX1_term.desc).map (fun d => d.parameters.length) = some 3 := by decide +kernel
theorem hd_X1_add : yX1_add.cls = RX1 ∧ yX1_add.cls ≠ "java/lang/invoke/MethodHandle" ∧ yX1_add.cls ≠ "java/lang/invoke/VarHandle" ∧ (parseMethodDescriptor yX1_add.desc).map (fun d => d.parameters.length) = some 2 := by decide +kernel
theorem hd_X1_less : yX1_less.cls = RX1 ∧ yX1_less.cls ≠ "java/lang/invoke/MethodHandle" ∧ yX1_less.cls ≠ "java/lang/invoke/VarHandle" ∧ (parseMethodDescriptor yX1_less.desc).map (fun d => d.parameters.length) = some 3 := by decide +kernel
theorem hd_X1_rowOf : yX1_rowOf.cls = RX1 ∧ yX1_rowOf.cls ≠ "java/lang/invoke/MethodHandle" ∧ yX1_rowOf.cls ≠ "java/lang/invoke/VarHandle" ∧ (parseMethodDescriptor yX1_rowOf.desc).map (fun d => d.parameters.length) = some 1 := by decide +kernel
theorem hd_X1_start : yX1_start.cls = RX1 ∧ yX1_start.cls ≠ "java/lang/invoke/MethodHandle" ∧ yX1_start.cls ≠ "java/lang/invoke/VarHandle" ∧ (parseMethodDescriptor yX1_start.desc).map (fun d => d.parameters.length) = some 0 := by decide +kernel
theorem hd_X1_narrow : yX1_narrow.cls = RX1 ∧ yX1_narrow.cls ≠ "java/lang/invoke/MethodHandle" ∧ yX1_narrow.cls ≠ "java/lang/invoke/VarHandle" ∧ (parseMethodDescriptor yX1_narrow.desc).map (fun d => d.parameters.length) = some 0 := by decide +kernel
theorem hd_X1_has : yX1_has.cls = RX1 ∧ yX1_has.cls ≠ "java/lang/invoke/MethodHandle" ∧ yX1_has.cls ≠ "java/lang/invoke/VarHandle" ∧ (parseMethodDescriptor yX1_has.desc).map (fun d => d.parameters.length) = some 3 := by decide +kernel
theorem hd_X1_times : yX1_times.cls = RX1 ∧ yX1_times.cls ≠ "java/lang/invoke/MethodHandle" ∧ yX1_times.cls ≠ "java/lang/invoke/VarHandle" ∧ (parseMethodDescriptor yX1_times.desc).map (fun d => d.parameters.length) = some 2 := by decide +kernel
theorem hd_X1_derive : yX1_derive.cls = RX1 ∧ yX1_derive.cls ≠ "java/lang/invoke/MethodHandle" ∧ yX1_derive.cls ≠ "java/lang/invoke/VarHandle" ∧ (parseMethodDescriptor yX1_derive.desc).map (fun d => d.parameters.length) = some 1 := by decide +kernel
theorem hd_X1_restOf : yX1_restOf.cls = RX1 ∧ yX1_restOf.cls ≠ "java/lang/invoke/MethodHandle" ∧ yX1_restOf.cls ≠ "java/lang/invoke/VarHandle" ∧ (parseMethodDescriptor yX1_restOf.desc).map (fun d => d.parameters.length) = some 1 := by decide +kernel
theorem hd_X1_rest : yX1_rest.cls = RX1 ∧ yX1_rest.cls ≠ "java/lang/invoke/MethodHandle" ∧ yX1_rest.cls ≠ "java/lang/invoke/VarHandle" ∧ (parseMethodDescriptor yX1_rest.desc).map (fun d => d.parameters.length) = some 2 := by decide +kernel
theorem hd_X1_integrate : yX1_integrate.cls = RX1 ∧ yX1_integrate.cls ≠ "java/lang/invoke/MethodHandle" ∧ yX1_integrate.cls ≠ "java/lang/invoke/VarHandle" ∧ (parseMethodDescriptor yX1_integrate.desc).map (fun d => d.parameters.length) = some 1 := by decide +kernel
theorem hd_X1_at : yX1_at.cls = RX1 ∧ yX1_at.cls ≠ "java/lang/invoke/MethodHandle" ∧ yX1_at.cls ≠ "java/lang/invoke/VarHandle" ∧ (parseMethodDescriptor yX1_at.desc).map (fun d => d.parameters.length) = some 3 := by decide +kernel
theorem hd_X1_terms : yX1_terms.cls = RX1 ∧ yX1_terms.cls ≠ "java/lang/invoke/MethodHandle" ∧ yX1_terms.cls ≠ "java/lang/invoke/VarHandle" ∧ (parseMethodDescriptor yX1_terms.desc).map (fun d => d.parameters.length) = some 2 := by decide +kernel
theorem hd_X1_degree : yX1_degree.cls = RX1 ∧ yX1_degree.cls ≠ "java/lang/invoke/MethodHandle" ∧ yX1_degree.cls ≠ "java/lang/invoke/VarHandle" ∧ (parseMethodDescriptor yX1_degree.desc).map (fun d => d.parameters.length) = some 2 := by decide +kernel
theorem hd_X1_power : yX1_power.cls = RX1 ∧ yX1_power.cls ≠ "java/lang/invoke/MethodHandle" ∧ yX1_power.cls ≠ "java/lang/invoke/VarHandle" ∧ (parseMethodDescriptor yX1_power.desc).map (fun d => d.parameters.length) = some 2 := by decide +kernel
theorem hd_X1_value : yX1_value.cls = RX1 ∧ yX1_value.cls ≠ "java/lang/invoke/MethodHandle" ∧ yX1_value.cls ≠ "java/lang/invoke/VarHandle" ∧ (parseMethodDescriptor yX1_value.desc).map (fun d => d.parameters.length) = some 4 := by decide +kernel
theorem hd_X1_same : yX1_same.cls = RX1 ∧ yX1_same.cls ≠ "java/lang/invoke/MethodHandle" ∧ yX1_same.cls ≠ "java/lang/invoke/VarHandle" ∧ (parseMethodDescriptor yX1_same.desc).map (fun d => d.parameters.length) = some 2 := by decide +kernel
theorem hd_X1_count : yX1_count.cls = RX1 ∧ yX1_count.cls ≠ "java/lang/invoke/MethodHandle" ∧ yX1_count.cls ≠ "java/lang/invoke/VarHandle" ∧ (parseMethodDescriptor yX1_count.desc).map (fun d => d.parameters.length) = some 0 := by decide +kernel
theorem hd_L_term : yL_term.cls = RL ∧ yL_term.cls ≠ "java/lang/invoke/MethodHandle" ∧ yL_term.cls ≠ "java/lang/invoke/VarHandle" ∧ (parseMethodDescriptor yL_term.desc).map (fun d => d.parameters.length) = some 5 := by decide +kernel
theorem hd_L_add : yL_add.cls = RL ∧ yL_add.cls ≠ "java/lang/invoke/MethodHandle" ∧ yL_add.cls ≠ "java/lang/invoke/VarHandle" ∧ (parseMethodDescriptor yL_add.desc).map (fun d => d.parameters.length) = some 4 := by decide +kernel
theorem hd_L_less : yL_less.cls = RL ∧ yL_less.cls ≠ "java/lang/invoke/MethodHandle" ∧ yL_less.cls ≠ "java/lang/invoke/VarHandle" ∧ (parseMethodDescriptor yL_less.desc).map (fun d => d.parameters.length) = some 5 := by decide +kernel
theorem hd_L_times : yL_times.cls = RL ∧ yL_times.cls ≠ "java/lang/invoke/MethodHandle" ∧ yL_times.cls ≠ "java/lang/invoke/VarHandle" ∧ (parseMethodDescriptor yL_times.desc).map (fun d => d.parameters.length) = some 4 := by decide +kernel
theorem hd_L_derive : yL_derive.cls = RL ∧ yL_derive.cls ≠ "java/lang/invoke/MethodHandle" ∧ yL_derive.cls ≠ "java/lang/invoke/VarHandle" ∧ (parseMethodDescriptor yL_derive.desc).map (fun d => d.parameters.length) = some 3 := by decide +kernel
theorem hd_L_integrate : yL_integrate.cls = RL ∧ yL_integrate.cls ≠ "java/lang/invoke/MethodHandle" ∧ yL_integrate.cls ≠ "java/lang/invoke/VarHandle" ∧ (parseMethodDescriptor yL_integrate.desc).map (fun d => d.parameters.length) = some 3 := by decide +kernel
theorem hd_L_rest : yL_rest.cls = RL ∧ yL_rest.cls ≠ "java/lang/invoke/MethodHandle" ∧ yL_rest.cls ≠ "java/lang/invoke/VarHandle" ∧ (parseMethodDescriptor yL_rest.desc).map (fun d => d.parameters.length) = some 4 := by decide +kernel
theorem hd_L_at : yL_at.cls = RL ∧ yL_at.cls ≠ "java/lang/invoke/MethodHandle" ∧ yL_at.cls ≠ "java/lang/invoke/VarHandle" ∧ (parseMethodDescriptor yL_at.desc).map (fun d => d.parameters.length) = some 5 := by decide +kernel
theorem hd_L_terms : yL_terms.cls = RL ∧ yL_terms.cls ≠ "java/lang/invoke/MethodHandle" ∧ yL_terms.cls ≠ "java/lang/invoke/VarHandle" ∧ (parseMethodDescriptor yL_terms.desc).map (fun d => d.parameters.length) = some 4 := by decide +kernel
theorem hd_L_degree : yL_degree.cls = RL ∧ yL_degree.cls ≠ "java/lang/invoke/MethodHandle" ∧ yL_degree.cls ≠ "java/lang/invoke/VarHandle" ∧ (parseMethodDescriptor yL_degree.desc).map (fun d => d.parameters.length) = some 4 := by decide +kernel
theorem hd_L_value : yL_value.cls = RL ∧ yL_value.cls ≠ "java/lang/invoke/MethodHandle" ∧ yL_value.cls ≠ "java/lang/invoke/VarHandle" ∧ (parseMethodDescriptor yL_value.desc).map (fun d => d.parameters.length) = some 6 := by decide +kernel
theorem hd_L_same : yL_same.cls = RL ∧ yL_same.cls ≠ "java/lang/invoke/MethodHandle" ∧ yL_same.cls ≠ "java/lang/invoke/VarHandle" ∧ (parseMethodDescriptor yL_same.desc).map (fun d => d.parameters.length) = some 4 := by decide +kernel
/-! the class's two tables -/
def ePz (z : Int) : Int := if z = 4 then -2 else if z = 5 then -1 else if z = 6 then 1 else if z = 7 then 2 else 0
def lPz (z : Int) : Int := if z = 1 then 1 else if z = 2 then 2 else if z = 3 then 3 else 0
def eP : Nat → Value := fun k => .int (iZ (ePz k))
def lP : Nat → Value := fun k => .int (iZ (lPz k))
theorem eP_at {z : Int} (h : 0 ≤ z ∧ z < 8) : eP (iZ z).toNatClampNeg = .int (iZ (ePz z)) := by
  rw [iZ_cl h.1 (by omega)]
  unfold eP
  rw [Int.toNat_of_nonneg h.1]
theorem lP_at {z : Int} (h : 0 ≤ z ∧ z < 8) : lP (iZ z).toNatClampNeg = .int (iZ (lPz z)) := by
  rw [iZ_cl h.1 (by omega)]
  unfold lP
  rw [Int.toNat_of_nonneg h.1]
theorem ePz_rng (z : Int) : -2 ≤ ePz z ∧ ePz z ≤ 2 := by unfold ePz; split <;> (try split) <;> (try split) <;> (try split) <;> omega
theorem lPz_rng (z : Int) : 0 ≤ lPz z ∧ lPz z ≤ 3 := by unfold lPz; split <;> (try split) <;> (try split) <;> omega
def sX (tE tL : Nat) (A : Nat → Prop) (U : State) (H : Heap) : Prop := (va_Z RX0 "E_POWER" "[I" (.ref tE) A U H ∧ va_T .int tE 8 eP A U H) ∧ va_Z RX0 "L_POWER" "[I" (.ref tL) A U H ∧ va_T .int tL 8 lP A U H
theorem sX.moved {tE tL : Nat} {A : Nat → Prop} {u U : State} {H : Heap} (hvm : u.vm.Alike U.vm) (h : sX tE tL A u H) : sX tE tL A U H := ⟨⟨h.1.1.moved hvm, h.1.2.moved hvm⟩, h.2.1.moved hvm, h.2.2.moved hvm⟩
theorem sX.kept {tE tL : Nat} {A : Nat → Prop} {U : State} {H H1 : Heap} (h : sX tE tL A U H) (hq : ∀ a : Nat, a < H.size → ¬ A a → H1[a]? = H[a]?) : sX tE tL A U H1 := ⟨⟨h.1.1.kept hq, h.1.2.kept hq⟩, h.2.1.kept hq, h.2.2.kept hq⟩
theorem sX.narrow {tE tL : Nat} {A B : Nat → Prop} {U : State} {H : Heap} (h : sX tE tL A U H) (hAB : ∀ q, B q → A q) : sX tE tL B U H := ⟨⟨h.1.1.narrow hAB, h.1.2.narrow hAB⟩, h.2.1.narrow hAB, h.2.2.narrow hAB⟩
def nA : Nat → Prop := fun _ => False
def sB (tE tL : Nat) (U : State) : Prop := sX tE tL nA U U.heap
theorem sB_bl {tE tL : Nat} : bl_B (sB tE tL) := fun _ _ _ _ h => sX.moved (Vm.Alike.refl _) h
theorem sB_mv {tE tL : Nat} {s : State} (h : sB tE tL s) : ∀ U : State, U.heap = s.heap → s.WarmedH U.vm → sB tE tL U := fun U hU hW => by
  unfold sB
  rw [hU]
  exact sX.moved hW.alike h
/-! the class's own cells: the object, its numbers, its wide row -/
abbrev wX (o q1 q2 : Nat) (cI : ClassId) (F G : Nat → Int) (k : Int) : va_W := [(o, .inr (0, [.ref q1, .ref q2, .int (iZ k)])), (q1, .inl (cI, 4320, .inl (fun j => iZ (F j)))), (q2, .inl (cI, 255, .inl (fun j => iZ (G j))))]
def rX (D : va_G) (o q1 q2 : Nat) (cI : ClassId) (tE tL : Nat) (F G : Nat → Int) (k : Int) (U : State) : Prop := va_P D vwCl (wX o q1 q2 cI F G k) U.heap ∧ va_K D vwCl [(cI, .int)] U ∧ sB tE tL U
theorem rX_bl {D : va_G} {o q1 q2 : Nat} {cI : ClassId} {tE tL : Nat} {F G : Nat → Int} {k : Int} : bl_B (rX D o q1 q2 cI tE tL F G k) := fun U g mk a h => ⟨h.1, va_K.moved (u := U) (U := U.calling g mk a) (Vm.Alike.refl U.vm) h.2.1, sB_bl U g mk a h.2.2⟩
theorem rX_mv {D : va_G} {o q1 q2 : Nat} {cI : ClassId} {tE tL : Nat} {F G : Nat → Int} {k : Int} {s : State} (h : rX D o q1 q2 cI tE tL F G k s) : ∀ U : State, U.heap = s.heap → s.WarmedH U.vm → rX D o q1 q2 cI tE tL F G k U := fun U hU hW => ⟨by rw [hU]; exact h.1, va_K.moved hW.alike h.2.1, sB_mv h.2.2 U hU hW⟩
theorem rX_recv {D : va_G} {o q1 q2 : Nat} {cI : ClassId} {tE tL : Nat} {F G : Nat → Int} {k : Int} {s : State} (h : rX D o q1 q2 cI tE tL F G k s) : ∃ cell : Cell, s.heap[o]? = some cell ∧ cell.vm.isStatics = false ∧ s.vm.findClass RX0 = some cell.cls := va_recv h.2.1 h.1 (ci := 0) (q0 := 0) rfl rfl
end
section
/-! ===== numbers modulo 32003 ===== -/
def kdZ (k : Int) : Int := if 0 ≤ k ∧ k < 8 then 1 else 0
def pwZ (n : Int) : Int := if -4 ≤ n ∧ n ≤ 4 then 1 else 0
def wdZ (k n : Int) : Int := if 0 ≤ k ∧ k < 15 ∧ -8 ≤ n ∧ n ≤ 8 then 1 else 0
def pwP (b : Int) (x : Nat) : Int := b ^ x % 32003
theorem pwP_rng (b : Int) (x : Nat) : 0 ≤ pwP b x ∧ pwP b x < 32003 := by unfold pwP; omega
def dvZ (z d : Int) : Int := (z % 32003) * pwP (d % 32003) 32001 % 32003
def wkZ (a b : Int) : Int := if ePz a + ePz b = 0 then lPz a + lPz b else 11 + (ePz a + ePz b) - (if 0 < ePz a + ePz b then 1 else 0)
theorem mul_rng {a b : Int} (ha : 0 ≤ a ∧ a < 32003) (hb : 0 ≤ b ∧ b < 32003) : 0 ≤ a * b ∧ a * b ≤ 1024128004 := by
  refine ⟨Int.mul_nonneg ha.1 hb.1, ?_⟩
  have h1 : a * b ≤ 32002 * b := Int.mul_le_mul_of_nonneg_right (by omega) hb.1
  omega
theorem tmod_fix (z : Int) : (if Int.tmod z 32003 < 0 then Int.tmod z 32003 + 32003 else Int.tmod z 32003) = z % 32003 := by
  have h := Int.tmod_eq_emod (a := z) (b := 32003)
  split at h <;> split <;> omega
theorem tmod_bd (z : Int) : -32003 < Int.tmod z 32003 ∧ Int.tmod z 32003 < 32003 := by
  have h := Int.tmod_eq_emod (a := z) (b := 32003)
  split at h <;> omega
theorem pwP_mul (b : Int) (x y : Nat) : pwP b x * pwP b y % 32003 = pwP b (x + y) := by
  unfold pwP
  rw [Int.pow_add, ← Int.mul_emod]
theorem pwP_one {b : Int} (h : 0 ≤ b ∧ b < 32003) : pwP b 1 = b := by unfold pwP; rw [Int.pow_succ, Int.pow_zero, Int.one_mul]; omega
theorem pwP_zero (b : Int) : pwP b 0 = 1 := by unfold pwP; rw [Int.pow_zero]; rfl
theorem pwP_sq1 {b : Int} (h : 0 ≤ b ∧ b < 32003) (x : Nat) : pwP b x * b % 32003 = pwP b (x + 1) := by
  have := pwP_mul b x 1
  rw [pwP_one h] at this
  exact this
set_option maxHeartbeats 4000000 in
set_option maxRecDepth 100000 in
theorem k_X0_isKind (l : Launch) (k : Int) (hk : -2147483648 ≤ k ∧ k ≤ 2147483647) : rd_M l yX0_isKind cX0_isKind 1 (some .boolean) ({ frames := 0, cells := 0, slots := 0, locals := 0 }) [.int (iZ k)] (fun _ => True) (some (.int (iZ (kdZ k)))) := by
  refine rd_of RX0 (by decide) rfl (Nat.le_of_ble_eq_true rfl) ?_
  intro p e s m below meth c S hr hlk hB ls hl
  obtain ⟨hx, hb, hml, hown, hT⟩ := id S
  have hl : lv_has ls 1 [(0, .int (iZ k))] := hl
  refine lv_iload_n hx hb dX0_isKind_0 rfl (lv_at hl 0 rfl) ?_
  refine zi_flt (tgt := 14) hx hb dX0_isKind_1 (by decide) (by omega) (fun hc1 => ?_) (fun hc1 => ?_)
  · refine zi_const hx hb 0 dX0_isKind_14 ?_
    exact rd_zret hx hb hr hlk (congrArg (fun z => some (Value.int (iZ z))) (show (kdZ k : Int) = 0 from by unfold kdZ; (first | rw [if_pos (by omega)] | rw [if_neg (by omega)]))) (by decide) dX0_isKind_15
  · refine lv_iload_n hx hb dX0_isKind_4 rfl (lv_at hl 0 rfl) ?_
    refine zi_bi hx hb 8 dX0_isKind_5 (by decide) ?_
    refine zi_cge (tgt := 14) hx hb dX0_isKind_7 (by decide) (by omega) (by omega) (fun hc7 => ?_) (fun hc7 => ?_)
    · refine zi_const hx hb 0 dX0_isKind_14 ?_
      exact rd_zret hx hb hr hlk (congrArg (fun z => some (Value.int (iZ z))) (show (kdZ k : Int) = 0 from by unfold kdZ; (first | rw [if_pos (by omega)] | rw [if_neg (by omega)]))) (by decide) dX0_isKind_15
    · refine zi_const hx hb 1 dX0_isKind_10 ?_
      refine lv_goto (tgt := 15) hx hb dX0_isKind_11 (by decide) ?_
      exact rd_zret hx hb hr hlk (congrArg (fun z => some (Value.int (iZ z))) (show (kdZ k : Int) = 1 from by unfold kdZ; (first | rw [if_pos (by omega)] | rw [if_neg (by omega)]))) (by decide) dX0_isKind_15
set_option maxHeartbeats 4000000 in
set_option maxRecDepth 100000 in
theorem k_X0_isPower (l : Launch) (n : Int) (hn : -2147483648 ≤ n ∧ n ≤ 2147483647) : rd_M l yX0_isPower cX0_isPower 1 (some .boolean) ({ frames := 0, cells := 0, slots := 0, locals := 0 }) [.int (iZ n)] (fun _ => True) (some (.int (iZ (pwZ n)))) := by
  refine rd_of RX0 (by decide) rfl (Nat.le_of_ble_eq_true rfl) ?_
  intro p e s m below meth c S hr hlk hB ls hl
  obtain ⟨hx, hb, hml, hown, hT⟩ := id S
  have hl : lv_has ls 1 [(0, .int (iZ n))] := hl
  refine lv_iload_n hx hb dX0_isPower_0 rfl (lv_at hl 0 rfl) ?_
  refine zi_bi hx hb (-4) dX0_isPower_1 (by decide) ?_
  refine zi_clt (tgt := 15) hx hb dX0_isPower_3 (by decide) (by omega) (by omega) (fun hc3 => ?_) (fun hc3 => ?_)
  · refine zi_const hx hb 0 dX0_isPower_15 ?_
    exact rd_zret hx hb hr hlk (congrArg (fun z => some (Value.int (iZ z))) (show (pwZ n : Int) = 0 from by unfold pwZ; (first | rw [if_pos (by omega)] | rw [if_neg (by omega)]))) (by decide) dX0_isPower_16
  · refine lv_iload_n hx hb dX0_isPower_6 rfl (lv_at hl 0 rfl) ?_
    refine zi_const hx hb 4 dX0_isPower_7 ?_
    refine zi_cgt (tgt := 15) hx hb dX0_isPower_8 (by decide) (by omega) (by omega) (fun hc8 => ?_) (fun hc8 => ?_)
    · refine zi_const hx hb 0 dX0_isPower_15 ?_
      exact rd_zret hx hb hr hlk (congrArg (fun z => some (Value.int (iZ z))) (show (pwZ n : Int) = 0 from by unfold pwZ; (first | rw [if_pos (by omega)] | rw [if_neg (by omega)]))) (by decide) dX0_isPower_16
    · refine zi_const hx hb 1 dX0_isPower_11 ?_
      refine lv_goto (tgt := 16) hx hb dX0_isPower_12 (by decide) ?_
      exact rd_zret hx hb hr hlk (congrArg (fun z => some (Value.int (iZ z))) (show (pwZ n : Int) = 1 from by unfold pwZ; (first | rw [if_pos (by omega)] | rw [if_neg (by omega)]))) (by decide) dX0_isPower_16
set_option maxHeartbeats 4000000 in
set_option maxRecDepth 100000 in
theorem k_X0_isWidePlace (l : Launch) (k n : Int) (hk : -2147483648 ≤ k ∧ k ≤ 2147483647) (hn : -2147483648 ≤ n ∧ n ≤ 2147483647) : rd_M l yX0_isWidePlace cX0_isWidePlace 2 (some .boolean) ({ frames := 0, cells := 0, slots := 0, locals := 0 }) [.int (iZ k), .int (iZ n)] (fun _ => True) (some (.int (iZ (wdZ k n)))) := by
  refine rd_of RX0 (by decide) rfl (Nat.le_of_ble_eq_true rfl) ?_
  intro p e s m below meth c S hr hlk hB ls hl
  obtain ⟨hx, hb, hml, hown, hT⟩ := id S
  have hl : lv_has ls 2 [(0, .int (iZ k)), (1, .int (iZ n))] := hl
  refine lv_iload_n hx hb dX0_isWidePlace_0 rfl (lv_at hl 0 rfl) ?_
  refine zi_flt (tgt := 26) hx hb dX0_isWidePlace_1 (by decide) (by omega) (fun hc1 => ?_) (fun hc1 => ?_)
  · refine zi_const hx hb 0 dX0_isWidePlace_26 ?_
    exact rd_zret hx hb hr hlk (congrArg (fun z => some (Value.int (iZ z))) (show (wdZ k n : Int) = 0 from by unfold wdZ; (first | rw [if_pos (by omega)] | rw [if_neg (by omega)]))) (by decide) dX0_isWidePlace_27
  · refine lv_iload_n hx hb dX0_isWidePlace_4 rfl (lv_at hl 0 rfl) ?_
    refine zi_bi hx hb 15 dX0_isWidePlace_5 (by decide) ?_
    refine zi_cge (tgt := 26) hx hb dX0_isWidePlace_7 (by decide) (by omega) (by omega) (fun hc7 => ?_) (fun hc7 => ?_)
    · refine zi_const hx hb 0 dX0_isWidePlace_26 ?_
      exact rd_zret hx hb hr hlk (congrArg (fun z => some (Value.int (iZ z))) (show (wdZ k n : Int) = 0 from by unfold wdZ; (first | rw [if_pos (by omega)] | rw [if_neg (by omega)]))) (by decide) dX0_isWidePlace_27
    · refine lv_iload_n hx hb dX0_isWidePlace_10 rfl (lv_at hl 1 rfl) ?_
      refine zi_bi hx hb (-8) dX0_isWidePlace_11 (by decide) ?_
      refine zi_clt (tgt := 26) hx hb dX0_isWidePlace_13 (by decide) (by omega) (by omega) (fun hc13 => ?_) (fun hc13 => ?_)
      · refine zi_const hx hb 0 dX0_isWidePlace_26 ?_
        exact rd_zret hx hb hr hlk (congrArg (fun z => some (Value.int (iZ z))) (show (wdZ k n : Int) = 0 from by unfold wdZ; (first | rw [if_pos (by omega)] | rw [if_neg (by omega)]))) (by decide) dX0_isWidePlace_27
      · refine lv_iload_n hx hb dX0_isWidePlace_16 rfl (lv_at hl 1 rfl) ?_
        refine zi_bi hx hb 8 dX0_isWidePlace_17 (by decide) ?_
        refine zi_cgt (tgt := 26) hx hb dX0_isWidePlace_19 (by decide) (by omega) (by omega) (fun hc19 => ?_) (fun hc19 => ?_)
        · refine zi_const hx hb 0 dX0_isWidePlace_26 ?_
          exact rd_zret hx hb hr hlk (congrArg (fun z => some (Value.int (iZ z))) (show (wdZ k n : Int) = 0 from by unfold wdZ; (first | rw [if_pos (by omega)] | rw [if_neg (by omega)]))) (by decide) dX0_isWidePlace_27
        · refine zi_const hx hb 1 dX0_isWidePlace_22 ?_
          refine lv_goto (tgt := 27) hx hb dX0_isWidePlace_23 (by decide) ?_
          exact rd_zret hx hb hr hlk (congrArg (fun z => some (Value.int (iZ z))) (show (wdZ k n : Int) = 1 from by unfold wdZ; (first | rw [if_pos (by omega)] | rw [if_neg (by omega)]))) (by decide) dX0_isWidePlace_27
set_option maxHeartbeats 4000000 in
set_option maxRecDepth 100000 in
theorem k_X0_place (l : Launch) (r k n : Int) : rd_M l yX0_place cX0_place 3 (some .int) ({ frames := 0, cells := 0, slots := 0, locals := 0 }) [.int (iZ r), .int (iZ k), .int (iZ n)] (fun _ => True) (some (.int (iZ (r * 72 + k * 9 + n + 4)))) := by
  refine rd_of RX0 (by decide) rfl (Nat.le_of_ble_eq_true rfl) ?_
  intro p e s m below meth c S hr hlk hB ls hl
  obtain ⟨hx, hb, hml, hown, hT⟩ := id S
  have hl : lv_has ls 3 [(0, .int (iZ r)), (1, .int (iZ k)), (2, .int (iZ n))] := hl
  refine lv_iload_n hx hb dX0_place_0 rfl (lv_at hl 0 rfl) ?_
  refine zi_bi hx hb 72 dX0_place_1 (by decide) ?_
  refine zi_mul hx hb dX0_place_3 ?_
  refine lv_iload_n hx hb dX0_place_4 rfl (lv_at hl 1 rfl) ?_
  refine zi_bi hx hb 9 dX0_place_5 (by decide) ?_
  refine zi_mul hx hb dX0_place_7 ?_
  refine zi_add hx hb dX0_place_8 ?_
  refine lv_iload_n hx hb dX0_place_9 rfl (lv_at hl 2 rfl) ?_
  refine zi_add hx hb dX0_place_10 ?_
  refine zi_bi hx hb (-4) dX0_place_11 (by decide) ?_
  refine zi_sub hx hb dX0_place_13 ?_
  exact rd_iret hx hb hr hlk (congrArg (fun z => some (Value.int (iZ z))) (show (r * 72 + k * 9 + n + 4 : Int) = (((r * 72) + (k * 9)) + n) - (-4) from by omega)) dX0_place_14
set_option maxHeartbeats 4000000 in
set_option maxRecDepth 100000 in
theorem k_X0_widePlace (l : Launch) (k n : Int) : rd_M l yX0_widePlace cX0_widePlace 2 (some .int) ({ frames := 0, cells := 0, slots := 0, locals := 0 }) [.int (iZ k), .int (iZ n)] (fun _ => True) (some (.int (iZ (k * 17 + n + 8)))) := by
  refine rd_of RX0 (by decide) rfl (Nat.le_of_ble_eq_true rfl) ?_
  intro p e s m below meth c S hr hlk hB ls hl
  obtain ⟨hx, hb, hml, hown, hT⟩ := id S
  have hl : lv_has ls 2 [(0, .int (iZ k)), (1, .int (iZ n))] := hl
  refine lv_iload_n hx hb dX0_widePlace_0 rfl (lv_at hl 0 rfl) ?_
  refine zi_bi hx hb 17 dX0_widePlace_1 (by decide) ?_
  refine zi_mul hx hb dX0_widePlace_3 ?_
  refine lv_iload_n hx hb dX0_widePlace_4 rfl (lv_at hl 1 rfl) ?_
  refine zi_add hx hb dX0_widePlace_5 ?_
  refine zi_bi hx hb (-8) dX0_widePlace_6 (by decide) ?_
  refine zi_sub hx hb dX0_widePlace_8 ?_
  exact rd_iret hx hb hr hlk (congrArg (fun z => some (Value.int (iZ z))) (show (k * 17 + n + 8 : Int) = ((k * 17) + n) - (-8) from by omega)) dX0_widePlace_9
set_option maxHeartbeats 4000000 in
set_option maxRecDepth 100000 in
theorem k_X0_reduce (l : Launch) (v : Int) (hv : -9223372036854775808 ≤ v ∧ v ≤ 9223372036854775807) : rd_M l yX0_reduce cX0_reduce 4 (some .int) ({ frames := 0, cells := 0, slots := 0, locals := 0 }) [.long (lZ v)] (fun _ => True) (some (.int (iZ (v % 32003)))) := by
  refine rd_of RX0 (by decide) rfl (Nat.le_of_ble_eq_true rfl) ?_
  intro p e s m below meth c S hr hlk hB ls hl
  obtain ⟨hx, hb, hml, hown, hT⟩ := id S
  have hl : lv_has ls 4 [(0, .long (lZ v))] := hl
  have ht := tmod_bd v
  refine lv_lload_n hx hb dX0_reduce_0 rfl (lv_at hl 0 rfl) ?_
  refine zl_ldc hx hb 32003 hown (hT _ tb_157) (by decide) dX0_reduce_1 ?_
  refine zl_rem hx hb dX0_reduce_4 (by omega) (by omega) ?_
  refine zl_top (fun v1 ev1 => ?_)
  refine lv_lstore_n (lv' := [(2, .long (lZ v1)), (0, .long (lZ v))]) hx hb dX0_reduce_5 rfl hl (by decide) rfl (fun ls hl => ?_)
  refine lv_lload_n hx hb dX0_reduce_6 rfl (lv_at hl 0 rfl) ?_
  refine zl_const hx hb 0 dX0_reduce_7 (by decide) ?_
  refine zl_cge (tgt := 20) hx hb dX0_reduce_8 dX0_reduce_9 (by decide) (by omega) (by omega) (fun hc8 => ?_) (fun hc8 => ?_)
  · refine lv_lload_n hx hb dX0_reduce_20 rfl (lv_at hl 0 rfl) ?_
    refine zl_l2i hx hb dX0_reduce_21 ?_
    exact rd_iret hx hb hr hlk (congrArg (fun z => some (Value.int (iZ z))) (show (v % 32003 : Int) = v1 from by rw [← tmod_fix v]; (first | rw [if_pos (by omega)] | rw [if_neg (by omega)]); omega)) dX0_reduce_22
  · refine lv_lload_n hx hb dX0_reduce_12 rfl (lv_at hl 0 rfl) ?_
    refine zl_ldc hx hb 32003 hown (hT _ tb_157) (by decide) dX0_reduce_13 ?_
    refine zl_add hx hb dX0_reduce_16 ?_
    refine lv_goto (tgt := 21) hx hb dX0_reduce_17 (by decide) ?_
    refine zl_l2i hx hb dX0_reduce_21 ?_
    exact rd_iret hx hb hr hlk (congrArg (fun z => some (Value.int (iZ z))) (show (v % 32003 : Int) = v1 + 32003 from by rw [← tmod_fix v]; (first | rw [if_pos (by omega)] | rw [if_neg (by omega)]); omega)) dX0_reduce_22
set_option maxHeartbeats 4000000 in
set_option maxRecDepth 100000 in
theorem k_X0_multiply (l : Launch) (a b : Int) (ha : 0 ≤ a ∧ a < 32003) (hb1 : 0 ≤ b ∧ b < 32003) : rd_M l yX0_multiply cX0_multiply 2 (some .int) ({ frames := 1, cells := 0, slots := 0, locals := 23 }) [.int (iZ a), .int (iZ b)] (fun _ => True) (some (.int (iZ (a * b % 32003)))) := by
  refine rd_of RX0 (by decide) rfl (Nat.le_of_ble_eq_true rfl) ?_
  intro p e s m below meth c S hr hlk hB ls hl
  obtain ⟨hx, hb, hml, hown, hT⟩ := id S
  have hl : lv_has ls 2 [(0, .int (iZ a)), (1, .int (iZ b))] := hl
  have hm := mul_rng ha hb1
  refine lv_iload_n hx hb dX0_multiply_0 rfl (lv_at hl 0 rfl) ?_
  refine zi_i2l hx hb dX0_multiply_1 (by omega) ?_
  refine lv_iload_n hx hb dX0_multiply_2 rfl (lv_at hl 1 rfl) ?_
  refine zi_i2l hx hb dX0_multiply_3 (by omega) ?_
  refine zl_mul hx hb dX0_multiply_4 ?_
  refine rd_S (As := [.long (lZ (a * b))]) (rest := []) (st1 := [.int (iZ ((a * b) % 32003))]) S (k_X0_reduce l (a * b) (by omega)) tb_154 tb_155 tb_1 tb_156 hd_X0_reduce ⟨rfl, rfl, by decide, by decide⟩ bl_T (fun _ _ _ => trivial) rfl hl.1 rfl (Nat.le_of_ble_eq_true rfl) dX0_multiply_5 ⟨Nat.zero_le _, Nat.zero_le _⟩ rfl ?_
  exact rd_iret hx hb hr hlk (congrArg (fun z => some (Value.int (iZ z))) (show (a * b % 32003 : Int) = (a * b) % 32003 from rfl)) dX0_multiply_8
theorem sh_at : ∀ k : Nat, k < 15 → ((iZ (k : Int) &&& 31).toBitVec.smod 32).toNat = k := by decide
theorem an_1 : ∀ k : Nat, k < 2 → nI k &&& 1 = nI (k % 2) := by decide
theorem bit_at {x i : Int} {n : Nat} (hx : 0 ≤ x ∧ x < 32768) (h0 : i = (n : Int) - 1) (hn : 0 < n ∧ n ≤ 15) : iZ x >>> (iZ i &&& 31) &&& iZ 1 = iZ ((x.toNat / 2 ^ (n - 1) % 2 : Nat) : Int) := by
  obtain ⟨k, rfl⟩ : ∃ k : Nat, i = (k : Int) := ⟨(n - 1), by omega⟩
  have hk : k = n - 1 := by omega
  have hx2 : iZ x = nI x.toNat := by rw [iZ_nI]; congr 1; omega
  rw [hx2, pk_shrN (by omega) _ k (sh_at k (by omega)), hk]
  have h3 : nI (x.toNat / 2 ^ (n - 1)) &&& iZ 1 = nI ((x.toNat / 2 ^ (n - 1)) % 2 ^ 1) := pk_andN (by
    have : x.toNat / 2 ^ (n - 1) ≤ x.toNat := Nat.div_le_self _ _
    omega) 1 (by decide)
  rw [h3, iZ_nI]
set_option maxHeartbeats 4000000 in
set_option maxRecDepth 100000 in
theorem k_X0_power (l : Launch) (b x : Int) (hb1 : 0 ≤ b ∧ b < 32003) (hx1 : 0 ≤ x ∧ x < 32768) : rd_M l yX0_power cX0_power 4 (some .int) ({ frames := 1, cells := 0, slots := 0, locals := 23 }) [.int (iZ b), .int (iZ x)] (fun _ => True) (some (.int (iZ (pwP b (Int.toNat x))))) := by
  refine rd_of RX0 (by decide) rfl (Nat.le_of_ble_eq_true rfl) ?_
  intro p e s m below meth c S hr hlk hB ls hl
  obtain ⟨hx, hb, hml, hown, hT⟩ := id S
  have hl : lv_has ls 4 [(0, .int (iZ b)), (1, .int (iZ x))] := hl
  refine zi_const hx hb 1 dX0_power_0 ?_
  refine lv_istore_n (lv' := [(2, .int (iZ 1)), (0, .int (iZ b)), (1, .int (iZ x))]) hx hb dX0_power_1 rfl hl (by decide) rfl (fun ls hl => ?_)
  refine zi_bi hx hb 14 dX0_power_2 (by decide) ?_
  refine lv_istore_n (lv' := [(3, .int (iZ 14)), (2, .int (iZ 1)), (0, .int (iZ b)), (1, .int (iZ x))]) hx hb dX0_power_4 rfl hl (by decide) rfl (fun ls hl => ?_)
  refine lp_go (nL := 4) (α := Int × Int) (fun z => [(0, .int (iZ b)), (1, .int (iZ x)), (2, .int (iZ z.1)), (3, .int (iZ z.2))]) (fun m5 z => z.2 = (m5 : Int) - 1 ∧ m5 ≤ 15 ∧ z.1 = pwP b (x.toNat / 2 ^ m5)) ?_ 15 ((1 : Int), (14 : Int)) (by refine ⟨by omega, by omega, ?_⟩; rw [Nat.div_eq_of_lt (by omega), pwP_zero]) ls (lv_sub hl [2, 3, 1, 0] rfl)
  intro m5 z1 hI5 ih5 ls hl
  obtain ⟨r, i⟩ := z1
  have hl : lv_has ls 4 [(0, .int (iZ b)), (1, .int (iZ x)), (2, .int (iZ r)), (3, .int (iZ i))] := hl
  have hI5 : i = (m5 : Int) - 1 ∧ m5 ≤ 15 ∧ r = pwP b (x.toNat / 2 ^ m5) := hI5
  have hrr := pwP_rng b (x.toNat / 2 ^ m5)
  rw [← hI5.2.2] at hrr
  have hsq := mul_rng hrr hrr
  refine lv_iload_n hx hb dX0_power_5 rfl (lv_at hl 3 rfl) ?_
  refine zi_flt (tgt := 42) hx hb dX0_power_6 (by decide) (by omega) (fun hc6 => ?_) (fun hc6 => ?_)
  · refine lv_iload_n hx hb dX0_power_42 rfl (lv_at hl 2 rfl) ?_
    exact rd_iret hx hb hr hlk (congrArg (fun z => some (Value.int (iZ z))) (show (pwP b (Int.toNat x) : Int) = r from by rw [hI5.2.2, show m5 = 0 by omega, Nat.pow_zero, Nat.div_one])) dX0_power_43
  · refine lv_iload_n hx hb dX0_power_9 rfl (lv_at hl 2 rfl) ?_
    refine zi_i2l hx hb dX0_power_10 (by omega) ?_
    refine lv_iload_n hx hb dX0_power_11 rfl (lv_at hl 2 rfl) ?_
    refine zi_i2l hx hb dX0_power_12 (by omega) ?_
    refine zl_mul hx hb dX0_power_13 ?_
    refine rd_S (As := [.long (lZ (r * r))]) (rest := []) (st1 := [.int (iZ ((r * r) % 32003))]) S (k_X0_reduce l (r * r) (by omega)) tb_154 tb_155 tb_1 tb_156 hd_X0_reduce ⟨rfl, rfl, by decide, by decide⟩ bl_T (fun _ _ _ => trivial) rfl hl.1 rfl (Nat.le_of_ble_eq_true rfl) dX0_power_14 ⟨Nat.zero_le _, Nat.zero_le _⟩ rfl ?_
    refine zi_top (fun v2 ev2 => ?_)
    refine lv_istore_n (lv' := [(2, .int (iZ v2)), (0, .int (iZ b)), (1, .int (iZ x)), (3, .int (iZ i))]) hx hb dX0_power_17 rfl hl (by decide) rfl (fun ls hl => ?_)
    refine lv_iload_n hx hb dX0_power_18 rfl (lv_at hl 2 rfl) ?_
    refine lv_iload_n hx hb dX0_power_19 rfl (lv_at hl 3 rfl) ?_
    refine lv_ishr hx hb dX0_power_20 ?_
    refine zi_const hx hb 1 dX0_power_21 ?_
    refine lv_iand hx hb dX0_power_22 ?_
    refine zi_as (a := ((x.toNat / 2 ^ (m5 - 1) % 2 : Nat) : Int)) (bit_at hx1 (by omega) (by omega)) ?_
    refine zi_const hx hb 1 dX0_power_23 ?_
    refine zi_cne (tgt := 36) hx hb dX0_power_24 (by decide) (by omega) (by omega) (fun hc24 => ?_) (fun hc24 => ?_)
    · have hdd : x.toNat / 2 ^ (m5 - 1) / 2 = x.toNat / 2 ^ m5 := by rw [Nat.div_div_eq_div_mul, ← Nat.pow_succ]; congr 2; omega
      have hq : v2 = pwP b (x.toNat / 2 ^ m5 + x.toNat / 2 ^ m5) := by rw [ev2, hI5.2.2, pwP_mul]
      refine zi_inc (lv' := [(3, .int (iZ (i + (-1)))), (2, .int (iZ v2)), (0, .int (iZ b)), (1, .int (iZ x))]) hx hb dX0_power_36 hl (k := 3) rfl (by decide) rfl (fun ls hl => ?_)
      refine lv_goto (tgt := 5) hx hb dX0_power_39 (by decide) ?_
      exact ih5 (m5 - 1) (v2, i + (-1)) (by omega) (by refine ⟨by omega, by omega, ?_⟩; rw [hq]; exact congrArg (pwP b) (by omega)) ls (lv_sub hl [2, 3, 1, 0] rfl)
    · have hdd : x.toNat / 2 ^ (m5 - 1) / 2 = x.toNat / 2 ^ m5 := by rw [Nat.div_div_eq_div_mul, ← Nat.pow_succ]; congr 2; omega
      have hq : v2 = pwP b (x.toNat / 2 ^ m5 + x.toNat / 2 ^ m5) := by rw [ev2, hI5.2.2, pwP_mul]
      have hqr := pwP_rng b (x.toNat / 2 ^ m5 + x.toNat / 2 ^ m5)
      rw [← hq] at hqr
      have hm2 := mul_rng hqr hb1
      refine lv_iload_n hx hb dX0_power_27 rfl (lv_at hl 0 rfl) ?_
      refine zi_i2l hx hb dX0_power_28 (by omega) ?_
      refine lv_iload_n hx hb dX0_power_29 rfl (lv_at hl 1 rfl) ?_
      refine zi_i2l hx hb dX0_power_30 (by omega) ?_
      refine zl_mul hx hb dX0_power_31 ?_
      refine rd_S (As := [.long (lZ (v2 * b))]) (rest := []) (st1 := [.int (iZ ((v2 * b) % 32003))]) S (k_X0_reduce l (v2 * b) (by omega)) tb_154 tb_155 tb_1 tb_156 hd_X0_reduce ⟨rfl, rfl, by decide, by decide⟩ bl_T (fun _ _ _ => trivial) rfl hl.1 rfl (Nat.le_of_ble_eq_true rfl) dX0_power_32 ⟨Nat.zero_le _, Nat.zero_le _⟩ rfl ?_
      refine zi_top (fun v3 ev3 => ?_)
      refine lv_istore_n (lv' := [(2, .int (iZ v3)), (0, .int (iZ b)), (1, .int (iZ x)), (3, .int (iZ i))]) hx hb dX0_power_35 rfl hl (by decide) rfl (fun ls hl => ?_)
      refine zi_inc (lv' := [(3, .int (iZ (i + (-1)))), (2, .int (iZ v3)), (0, .int (iZ b)), (1, .int (iZ x))]) hx hb dX0_power_36 hl (k := 3) rfl (by decide) rfl (fun ls hl => ?_)
      refine lv_goto (tgt := 5) hx hb dX0_power_39 (by decide) ?_
      exact ih5 (m5 - 1) (v3, i + (-1)) (by omega) (by refine ⟨by omega, by omega, ?_⟩; rw [ev3, hq, pwP_sq1 hb1]; exact congrArg (pwP b) (by omega)) ls (lv_sub hl [2, 3, 1, 0] rfl)
set_option maxHeartbeats 4000000 in
set_option maxRecDepth 100000 in
theorem k_X0_inverse (l : Launch) (a : Int) (ha : 0 ≤ a ∧ a < 32003) : rd_M l yX0_inverse cX0_inverse 1 (some .int) ({ frames := 2, cells := 0, slots := 0, locals := 46 }) [.int (iZ a)] (fun _ => True) (some (.int (iZ (pwP a 32001)))) := by
  refine rd_of RX0 (by decide) rfl (Nat.le_of_ble_eq_true rfl) ?_
  intro p e s m below meth c S hr hlk hB ls hl
  obtain ⟨hx, hb, hml, hown, hT⟩ := id S
  have hl : lv_has ls 1 [(0, .int (iZ a))] := hl
  refine lv_iload_n hx hb dX0_inverse_0 rfl (lv_at hl 0 rfl) ?_
  refine zi_si hx hb 32001 dX0_inverse_1 (by decide) ?_
  refine rd_S (As := [.int (iZ a), .int (iZ 32001)]) (rest := []) (st1 := [.int (iZ (pwP a (Int.toNat 32001)))]) S (k_X0_power l a 32001 (by omega) (by omega)) tb_307 tb_308 tb_1 tb_309 hd_X0_power ⟨rfl, rfl, by decide, by decide⟩ bl_T (fun _ _ _ => trivial) rfl hl.1 rfl (Nat.le_of_ble_eq_true rfl) dX0_inverse_4 ⟨Nat.zero_le _, Nat.zero_le _⟩ rfl ?_
  exact rd_iret hx hb hr hlk (congrArg (fun z => some (Value.int (iZ z))) (show (pwP a 32001 : Int) = pwP a (Int.toNat 32001) from rfl)) dX0_inverse_7
set_option maxHeartbeats 4000000 in
set_option maxRecDepth 100000 in
theorem k_X0_divide (l : Launch) (z d : Int) (hz : -9223372036854775808 ≤ z ∧ z ≤ 9223372036854775807) (hd1 : -2147483648 ≤ d ∧ d ≤ 2147483647) : rd_M l yX0_divide cX0_divide 3 (some .int) ({ frames := 3, cells := 0, slots := 0, locals := 66 }) [.long (lZ z), .int (iZ d)] (fun _ => True) (some (.int (iZ (dvZ z d)))) := by
  refine rd_of RX0 (by decide) rfl (Nat.le_of_ble_eq_true rfl) ?_
  intro p e s m below meth c S hr hlk hB ls hl
  obtain ⟨hx, hb, hml, hown, hT⟩ := id S
  have hl : lv_has ls 3 [(0, .long (lZ z)), (2, .int (iZ d))] := hl
  have hpr := pwP_rng (d % 32003) 32001
  refine lv_lload_n hx hb dX0_divide_0 rfl (lv_at hl 0 rfl) ?_
  refine rd_S (As := [.long (lZ z)]) (rest := []) (st1 := [.int (iZ (z % 32003))]) S (k_X0_reduce l z (by omega)) tb_154 tb_155 tb_1 tb_156 hd_X0_reduce ⟨rfl, rfl, by decide, by decide⟩ bl_T (fun _ _ _ => trivial) rfl hl.1 rfl (Nat.le_of_ble_eq_true rfl) dX0_divide_1 ⟨Nat.zero_le _, Nat.zero_le _⟩ rfl ?_
  refine lv_iload_n hx hb dX0_divide_4 rfl (lv_at hl 1 rfl) ?_
  refine zi_i2l hx hb dX0_divide_5 (by omega) ?_
  refine rd_S (As := [.long (lZ d)]) (rest := [.int (iZ (z % 32003))]) (st1 := [.int (iZ (d % 32003)), .int (iZ (z % 32003))]) S (k_X0_reduce l d (by omega)) tb_154 tb_155 tb_1 tb_156 hd_X0_reduce ⟨rfl, rfl, by decide, by decide⟩ bl_T (fun _ _ _ => trivial) rfl hl.1 rfl (Nat.le_of_ble_eq_true rfl) dX0_divide_6 ⟨Nat.zero_le _, Nat.zero_le _⟩ rfl ?_
  refine rd_S (As := [.int (iZ (d % 32003))]) (rest := [.int (iZ (z % 32003))]) (st1 := [.int (iZ (pwP (d % 32003) 32001)), .int (iZ (z % 32003))]) S (k_X0_inverse l (d % 32003) (by omega)) tb_304 tb_305 tb_1 tb_306 hd_X0_inverse ⟨rfl, rfl, by decide, by decide⟩ bl_T (fun _ _ _ => trivial) rfl hl.1 rfl (Nat.le_of_ble_eq_true rfl) dX0_divide_9 ⟨Nat.zero_le _, Nat.zero_le _⟩ rfl ?_
  refine rd_S (As := [.int (iZ (z % 32003)), .int (iZ (pwP (d % 32003) 32001))]) (rest := []) (st1 := [.int (iZ ((z % 32003) * (pwP (d % 32003) 32001) % 32003))]) S (k_X0_multiply l (z % 32003) (pwP (d % 32003) 32001) (by omega) (by omega)) tb_310 tb_311 tb_1 tb_312 hd_X0_multiply ⟨rfl, rfl, by decide, by decide⟩ bl_T (fun _ _ _ => trivial) rfl hl.1 rfl (Nat.le_of_ble_eq_true rfl) dX0_divide_12 ⟨Nat.zero_le _, Nat.zero_le _⟩ rfl ?_
  exact rd_iret hx hb hr hlk (congrArg (fun z => some (Value.int (iZ z))) (show (dvZ z d : Int) = (z % 32003) * (pwP (d % 32003) 32001) % 32003 from rfl)) dX0_divide_15
end
section
theorem kdZ_or (k : Int) : (kdZ k = 1 ∧ 0 ≤ k ∧ k < 8) ∨ (kdZ k = 0 ∧ ¬ (0 ≤ k ∧ k < 8)) := by unfold kdZ; split <;> omega
theorem pwZ_or (n : Int) : (pwZ n = 1 ∧ -4 ≤ n ∧ n ≤ 4) ∨ (pwZ n = 0 ∧ ¬ (-4 ≤ n ∧ n ≤ 4)) := by unfold pwZ; split <;> omega
theorem wdZ_or (k n : Int) : (wdZ k n = 1 ∧ 0 ≤ k ∧ k < 15 ∧ -8 ≤ n ∧ n ≤ 8) ∨ (wdZ k n = 0 ∧ ¬ (0 ≤ k ∧ k < 15 ∧ -8 ≤ n ∧ n ≤ 8)) := by unfold wdZ; split <;> omega
def nuZ (F : Nat → Int) (r c n : Int) : Int := if 0 ≤ r ∧ r < 60 ∧ 0 ≤ c ∧ c < 8 ∧ -4 ≤ n ∧ n ≤ 4 then F (r * 72 + c * 9 + n + 4).toNat else 0
def wnZ (G : Nat → Int) (c n : Int) : Int := if 0 ≤ c ∧ c < 15 ∧ -8 ≤ n ∧ n ≤ 8 then G (c * 17 + n + 8).toNat else 0
theorem nuZ_rng {F : Nat → Int} (hF : ∀ j, 0 ≤ F j ∧ F j < 32003) (r c n : Int) : 0 ≤ nuZ F r c n ∧ nuZ F r c n < 32003 := by
  unfold nuZ
  split
  · exact hF _
  · omega
theorem wnZ_rng {G : Nat → Int} (hG : ∀ j, 0 ≤ G j ∧ G j < 32003) (c n : Int) : 0 ≤ wnZ G c n ∧ wnZ G c n < 32003 := by
  unfold wnZ
  split
  · exact hG _
  · omega
set_option maxHeartbeats 4000000 in
set_option maxRecDepth 100000 in
theorem k_X0_number (l : Launch) (D : va_G) (o q1 q2 : Nat) (cI : ClassId) (tE tL : Nat) (F G : Nat → Int) (k : Int) (r c1 n : Int) (hr : -2147483648 ≤ r ∧ r ≤ 2147483647) (hc1 : -2147483648 ≤ c1 ∧ c1 ≤ 2147483647) (hn : -2147483648 ≤ n ∧ n ≤ 2147483647) : rd_M l yX0_number cX0_number 4 (some .int) ({ frames := 1, cells := 0, slots := 0, locals := 22 }) [.ref o, .int (iZ r), .int (iZ c1), .int (iZ n)] (rX D o q1 q2 cI tE tL F G k) (some (.int (iZ (nuZ F r c1 n)))) := by
  refine rd_of RX0 (by decide) rfl (Nat.le_of_ble_eq_true rfl) ?_
  intro p e s m below meth c S hr hlk hB ls hl
  obtain ⟨hx, hb, hml, hown, hT⟩ := id S
  have hl : lv_has ls 4 [(0, .ref o), (1, .int (iZ r)), (2, .int (iZ c1)), (3, .int (iZ n))] := hl
  obtain ⟨hP, hK, hsX⟩ := id hB
  obtain ⟨⟨hZE, hTE⟩, hZL, hTL⟩ := id hsX
  refine lv_iload_n hx hb dX0_number_0 rfl (lv_at hl 1 rfl) ?_
  refine zi_flt (tgt := 24) hx hb dX0_number_1 (by decide) (by omega) (fun hc1 => ?_) (fun hc1 => ?_)
  · refine zi_const hx hb 0 dX0_number_24 ?_
    exact rd_iret hx hb hr hlk (congrArg (fun z => some (Value.int (iZ z))) (show (nuZ F r c1 n : Int) = 0 from by unfold nuZ; (first | rw [if_neg (by omega)] | rw [if_pos (by omega)]))) dX0_number_25
  · refine lv_iload_n hx hb dX0_number_4 rfl (lv_at hl 1 rfl) ?_
    refine zi_bi hx hb 60 dX0_number_5 (by decide) ?_
    refine zi_cge (tgt := 24) hx hb dX0_number_7 (by decide) (by omega) (by omega) (fun hc7 => ?_) (fun hc7 => ?_)
    · refine zi_const hx hb 0 dX0_number_24 ?_
      exact rd_iret hx hb hr hlk (congrArg (fun z => some (Value.int (iZ z))) (show (nuZ F r c1 n : Int) = 0 from by unfold nuZ; (first | rw [if_neg (by omega)] | rw [if_pos (by omega)]))) dX0_number_25
    · refine lv_iload_n hx hb dX0_number_10 rfl (lv_at hl 2 rfl) ?_
      refine rd_S (As := [.int (iZ c1)]) (rest := []) (st1 := [.int (iZ (kdZ c1))]) S (k_X0_isKind l c1 (by omega)) tb_45 tb_46 tb_1 tb_47 hd_X0_isKind ⟨rfl, rfl, by decide, by decide⟩ bl_T (fun _ _ _ => trivial) rfl hl.1 rfl (Nat.le_of_ble_eq_true rfl) dX0_number_11 ⟨Nat.zero_le _, Nat.zero_le _⟩ rfl ?_
      have hf14 := kdZ_or c1
      refine zi_feq (tgt := 24) hx hb dX0_number_14 (by decide) (by omega) (fun hc14 => ?_) (fun hc14 => ?_)
      · refine zi_const hx hb 0 dX0_number_24 ?_
        exact rd_iret hx hb hr hlk (congrArg (fun z => some (Value.int (iZ z))) (show (nuZ F r c1 n : Int) = 0 from by unfold nuZ; (first | rw [if_neg (by omega)] | rw [if_pos (by omega)]))) dX0_number_25
      · refine lv_iload_n hx hb dX0_number_17 rfl (lv_at hl 3 rfl) ?_
        refine rd_S (As := [.int (iZ n)]) (rest := []) (st1 := [.int (iZ (pwZ n))]) S (k_X0_isPower l n (by omega)) tb_119 tb_120 tb_1 tb_121 hd_X0_isPower ⟨rfl, rfl, by decide, by decide⟩ bl_T (fun _ _ _ => trivial) rfl hl.1 rfl (Nat.le_of_ble_eq_true rfl) dX0_number_18 ⟨Nat.zero_le _, Nat.zero_le _⟩ rfl ?_
        have hf21 := pwZ_or n
        refine zi_fne (tgt := 26) hx hb dX0_number_21 (by decide) (by omega) (fun hc21 => ?_) (fun hc21 => ?_)
        · refine lv_aload_n hx hb dX0_number_26 rfl (lv_at hl 0 rfl) ?_
          refine va_get (D := D) (ci := 0) (C := RX0) (T := TX0) (N := 3) hx hb hT inX0 hown hK hP 0 rfl rfl 0 (by decide) (hT _ tb_18) (fun _ h9 => h9) rfl dX0_number_27 ?_
          refine lv_iload_n hx hb dX0_number_30 rfl (lv_at hl 1 rfl) ?_
          refine lv_iload_n hx hb dX0_number_31 rfl (lv_at hl 2 rfl) ?_
          refine lv_iload_n hx hb dX0_number_32 rfl (lv_at hl 3 rfl) ?_
          refine rd_S (As := [.int (iZ r), .int (iZ c1), .int (iZ n)]) (rest := [.ref q1]) (st1 := [.int (iZ (r * 72 + c1 * 9 + n + 4)), .ref q1]) S (k_X0_place l r c1 n) tb_151 tb_152 tb_1 tb_153 hd_X0_place ⟨rfl, rfl, by decide, by decide⟩ bl_T (fun _ _ _ => trivial) rfl hl.1 rfl (Nat.le_of_ble_eq_true rfl) dX0_number_33 ⟨Nat.zero_le _, Nat.zero_le _⟩ rfl ?_
          refine va_iald hx hb hK hP 1 0 rfl rfl (iZ_in (by omega) (by omega) (by decide)) dX0_number_36 ?_
          refine zi_as (a := F ((r * 72 + c1 * 9 + n + 4).toNat)) (by rw [iZ_cl (by omega) (by omega)]) ?_
          exact rd_iret hx hb hr hlk (congrArg (fun z => some (Value.int (iZ z))) (show (nuZ F r c1 n : Int) = F (r * 72 + c1 * 9 + n + 4).toNat from by unfold nuZ; (first | rw [if_neg (by omega)] | rw [if_pos (by omega)]))) dX0_number_37
        · refine zi_const hx hb 0 dX0_number_24 ?_
          exact rd_iret hx hb hr hlk (congrArg (fun z => some (Value.int (iZ z))) (show (nuZ F r c1 n : Int) = 0 from by unfold nuZ; (first | rw [if_neg (by omega)] | rw [if_pos (by omega)]))) dX0_number_25
set_option maxHeartbeats 4000000 in
set_option maxRecDepth 100000 in
theorem k_X0_wideNumber (l : Launch) (D : va_G) (o q1 q2 : Nat) (cI : ClassId) (tE tL : Nat) (F G : Nat → Int) (k : Int) (c1 n : Int) (hc1 : -2147483648 ≤ c1 ∧ c1 ≤ 2147483647) (hn : -2147483648 ≤ n ∧ n ≤ 2147483647) : rd_M l yX0_wideNumber cX0_wideNumber 3 (some .int) ({ frames := 1, cells := 0, slots := 0, locals := 21 }) [.ref o, .int (iZ c1), .int (iZ n)] (rX D o q1 q2 cI tE tL F G k) (some (.int (iZ (wnZ G c1 n)))) := by
  refine rd_of RX0 (by decide) rfl (Nat.le_of_ble_eq_true rfl) ?_
  intro p e s m below meth c S hr hlk hB ls hl
  obtain ⟨hx, hb, hml, hown, hT⟩ := id S
  have hl : lv_has ls 3 [(0, .ref o), (1, .int (iZ c1)), (2, .int (iZ n))] := hl
  obtain ⟨hP, hK, hsX⟩ := id hB
  obtain ⟨⟨hZE, hTE⟩, hZL, hTL⟩ := id hsX
  refine lv_iload_n hx hb dX0_wideNumber_0 rfl (lv_at hl 1 rfl) ?_
  refine lv_iload_n hx hb dX0_wideNumber_1 rfl (lv_at hl 2 rfl) ?_
  refine rd_S (As := [.int (iZ c1), .int (iZ n)]) (rest := []) (st1 := [.int (iZ (wdZ c1 n))]) S (k_X0_isWidePlace l c1 n (by omega) (by omega)) tb_244 tb_245 tb_1 tb_246 hd_X0_isWidePlace ⟨rfl, rfl, by decide, by decide⟩ bl_T (fun _ _ _ => trivial) rfl hl.1 rfl (Nat.le_of_ble_eq_true rfl) dX0_wideNumber_2 ⟨Nat.zero_le _, Nat.zero_le _⟩ rfl ?_
  have hf5 := wdZ_or c1 n
  refine zi_feq (tgt := 21) hx hb dX0_wideNumber_5 (by decide) (by omega) (fun hc5 => ?_) (fun hc5 => ?_)
  · refine zi_const hx hb 0 dX0_wideNumber_21 ?_
    exact rd_iret hx hb hr hlk (congrArg (fun z => some (Value.int (iZ z))) (show (wnZ G c1 n : Int) = 0 from by unfold wnZ; (first | rw [if_neg (by omega)] | rw [if_pos (by omega)]))) dX0_wideNumber_22
  · refine lv_aload_n hx hb dX0_wideNumber_8 rfl (lv_at hl 0 rfl) ?_
    refine va_get (D := D) (ci := 0) (C := RX0) (T := TX0) (N := 3) hx hb hT inX0 hown hK hP 0 rfl rfl 1 (by decide) (hT _ tb_19) (fun _ h9 => h9) rfl dX0_wideNumber_9 ?_
    refine lv_iload_n hx hb dX0_wideNumber_12 rfl (lv_at hl 1 rfl) ?_
    refine lv_iload_n hx hb dX0_wideNumber_13 rfl (lv_at hl 2 rfl) ?_
    refine rd_S (As := [.int (iZ c1), .int (iZ n)]) (rest := [.ref q2]) (st1 := [.int (iZ (c1 * 17 + n + 8)), .ref q2]) S (k_X0_widePlace l c1 n) tb_247 tb_248 tb_1 tb_249 hd_X0_widePlace ⟨rfl, rfl, by decide, by decide⟩ bl_T (fun _ _ _ => trivial) rfl hl.1 rfl (Nat.le_of_ble_eq_true rfl) dX0_wideNumber_14 ⟨Nat.zero_le _, Nat.zero_le _⟩ rfl ?_
    refine va_iald hx hb hK hP 2 0 rfl rfl (iZ_in (by omega) (by omega) (by decide)) dX0_wideNumber_17 ?_
    refine zi_as (a := G ((c1 * 17 + n + 8).toNat)) (by rw [iZ_cl (by omega) (by omega)]) ?_
    refine lv_goto (tgt := 22) hx hb dX0_wideNumber_18 (by decide) ?_
    exact rd_iret hx hb hr hlk (congrArg (fun z => some (Value.int (iZ z))) (show (wnZ G c1 n : Int) = G (c1 * 17 + n + 8).toNat from by unfold wnZ; (first | rw [if_neg (by omega)] | rw [if_pos (by omega)]))) dX0_wideNumber_22
set_option maxHeartbeats 4000000 in
set_option maxRecDepth 100000 in
theorem k_X0_needElement (l : Launch) (D : va_G) (o q1 q2 : Nat) (cI : ClassId) (tE tL : Nat) (F G : Nat → Int) (k : Int) (f : Int) (hf : 0 ≤ f ∧ f < k ∧ k ≤ 60) : rd_M l yX0_needElement cX0_needElement 2 none ({ frames := 0, cells := 0, slots := 0, locals := 0 }) [.ref o, .int (iZ f)] (rX D o q1 q2 cI tE tL F G k) none := by
  refine rd_of RX0 (by decide) rfl (Nat.le_of_ble_eq_true rfl) ?_
  intro p e s m below meth c S hr hlk hB ls hl
  obtain ⟨hx, hb, hml, hown, hT⟩ := id S
  have hl : lv_has ls 2 [(0, .ref o), (1, .int (iZ f))] := hl
  obtain ⟨hP, hK, hsX⟩ := id hB
  obtain ⟨⟨hZE, hTE⟩, hZL, hTL⟩ := id hsX
  refine lv_iload_n hx hb dX0_needElement_0 rfl (lv_at hl 1 rfl) ?_
  refine zi_flt (tgt := 12) hx hb dX0_needElement_1 (by decide) (by omega) (fun hc1 => ?_) (fun hc1 => ?_)
  · exfalso
    omega
  · refine lv_iload_n hx hb dX0_needElement_4 rfl (lv_at hl 1 rfl) ?_
    refine lv_aload_n hx hb dX0_needElement_5 rfl (lv_at hl 0 rfl) ?_
    refine va_get (D := D) (ci := 0) (C := RX0) (T := TX0) (N := 3) hx hb hT inX0 hown hK hP 0 rfl rfl 2 (by decide) (hT _ tb_20) (fun _ h9 => h9) rfl dX0_needElement_6 ?_
    refine zi_clt (tgt := 22) hx hb dX0_needElement_9 (by decide) (by omega) (by omega) (fun hc9 => ?_) (fun hc9 => ?_)
    · exact rd_vret hx hb hr hlk rfl dX0_needElement_22
    · exfalso
      omega
set_option maxHeartbeats 4000000 in
set_option maxRecDepth 100000 in
theorem k_X0_needRoom (l : Launch) (D : va_G) (o q1 q2 : Nat) (cI : ClassId) (tE tL : Nat) (F G : Nat → Int) (k : Int)  (hk : 0 ≤ k ∧ k < 60) : rd_M l yX0_needRoom cX0_needRoom 1 none ({ frames := 0, cells := 0, slots := 0, locals := 0 }) [.ref o] (rX D o q1 q2 cI tE tL F G k) none := by
  refine rd_of RX0 (by decide) rfl (Nat.le_of_ble_eq_true rfl) ?_
  intro p e s m below meth c S hr hlk hB ls hl
  obtain ⟨hx, hb, hml, hown, hT⟩ := id S
  have hl : lv_has ls 1 [(0, .ref o)] := hl
  obtain ⟨hP, hK, hsX⟩ := id hB
  obtain ⟨⟨hZE, hTE⟩, hZL, hTL⟩ := id hsX
  refine lv_aload_n hx hb dX0_needRoom_0 rfl (lv_at hl 0 rfl) ?_
  refine va_get (D := D) (ci := 0) (C := RX0) (T := TX0) (N := 3) hx hb hT inX0 hown hK hP 0 rfl rfl 2 (by decide) (hT _ tb_20) (fun _ h9 => h9) rfl dX0_needRoom_1 ?_
  refine zi_bi hx hb 60 dX0_needRoom_4 (by decide) ?_
  refine zi_clt (tgt := 19) hx hb dX0_needRoom_6 (by decide) (by omega) (by omega) (fun hc6 => ?_) (fun hc6 => ?_)
  · exact rd_vret hx hb hr hlk rfl dX0_needRoom_19
  · exfalso
    omega
set_option maxHeartbeats 4000000 in
set_option maxRecDepth 100000 in
theorem k_X0_needKind (l : Launch) (k : Int) (h0 : 0 ≤ k ∧ k < 8) : rd_M l yX0_needKind cX0_needKind 1 none ({ frames := 1, cells := 0, slots := 0, locals := 20 }) [.int (iZ k)] (fun _ => True) none := by
  refine rd_of RX0 (by decide) rfl (Nat.le_of_ble_eq_true rfl) ?_
  intro p e s m below meth c S hr hlk hB ls hl
  obtain ⟨hx, hb, hml, hown, hT⟩ := id S
  have hl : lv_has ls 1 [(0, .int (iZ k))] := hl
  refine lv_iload_n hx hb dX0_needKind_0 rfl (lv_at hl 0 rfl) ?_
  refine rd_S (As := [.int (iZ k)]) (rest := []) (st1 := [.int (iZ (kdZ k))]) S (k_X0_isKind l k (by omega)) tb_45 tb_46 tb_1 tb_47 hd_X0_isKind ⟨rfl, rfl, by decide, by decide⟩ bl_T (fun _ _ _ => trivial) rfl hl.1 rfl (Nat.le_of_ble_eq_true rfl) dX0_needKind_1 ⟨Nat.zero_le _, Nat.zero_le _⟩ rfl ?_
  have hf4 := kdZ_or k
  refine zi_fne (tgt := 17) hx hb dX0_needKind_4 (by decide) (by omega) (fun hc4 => ?_) (fun hc4 => ?_)
  · exact rd_vret hx hb hr hlk rfl dX0_needKind_17
  · exfalso
    omega
set_option maxHeartbeats 4000000 in
set_option maxRecDepth 100000 in
theorem k_X0_needPower (l : Launch) (n : Int) (h0 : -4 ≤ n ∧ n ≤ 4) : rd_M l yX0_needPower cX0_needPower 1 none ({ frames := 1, cells := 0, slots := 0, locals := 20 }) [.int (iZ n)] (fun _ => True) none := by
  refine rd_of RX0 (by decide) rfl (Nat.le_of_ble_eq_true rfl) ?_
  intro p e s m below meth c S hr hlk hB ls hl
  obtain ⟨hx, hb, hml, hown, hT⟩ := id S
  have hl : lv_has ls 1 [(0, .int (iZ n))] := hl
  refine lv_iload_n hx hb dX0_needPower_0 rfl (lv_at hl 0 rfl) ?_
  refine rd_S (As := [.int (iZ n)]) (rest := []) (st1 := [.int (iZ (pwZ n))]) S (k_X0_isPower l n (by omega)) tb_119 tb_120 tb_1 tb_121 hd_X0_isPower ⟨rfl, rfl, by decide, by decide⟩ bl_T (fun _ _ _ => trivial) rfl hl.1 rfl (Nat.le_of_ble_eq_true rfl) dX0_needPower_1 ⟨Nat.zero_le _, Nat.zero_le _⟩ rfl ?_
  have hf4 := pwZ_or n
  refine zi_fne (tgt := 17) hx hb dX0_needPower_4 (by decide) (by omega) (fun hc4 => ?_) (fun hc4 => ?_)
  · exact rd_vret hx hb hr hlk rfl dX0_needPower_17
  · exfalso
    omega
set_option maxHeartbeats 4000000 in
set_option maxRecDepth 100000 in
theorem k_X0_count (l : Launch) (D : va_G) (o q1 q2 : Nat) (cI : ClassId) (tE tL : Nat) (F G : Nat → Int) (k : Int)  : rd_M l yX0_count cX0_count 1 (some .int) ({ frames := 0, cells := 0, slots := 0, locals := 0 }) [.ref o] (rX D o q1 q2 cI tE tL F G k) (some (.int (iZ k))) := by
  refine rd_of RX0 (by decide) rfl (Nat.le_of_ble_eq_true rfl) ?_
  intro p e s m below meth c S hr hlk hB ls hl
  obtain ⟨hx, hb, hml, hown, hT⟩ := id S
  have hl : lv_has ls 1 [(0, .ref o)] := hl
  obtain ⟨hP, hK, hsX⟩ := id hB
  obtain ⟨⟨hZE, hTE⟩, hZL, hTL⟩ := id hsX
  refine lv_aload_n hx hb dX0_count_0 rfl (lv_at hl 0 rfl) ?_
  refine va_get (D := D) (ci := 0) (C := RX0) (T := TX0) (N := 3) hx hb hT inX0 hown hK hP 0 rfl rfl 2 (by decide) (hT _ tb_20) (fun _ h9 => h9) rfl dX0_count_1 ?_
  exact rd_iret hx hb hr hlk (congrArg (fun z => some (Value.int (iZ z))) (show (k : Int) = k from rfl)) dX0_count_4
end
section
theorem wkZ_rng (a b : Int) : 0 ≤ wkZ a b ∧ wkZ a b ≤ 14 := by
  have h1 := ePz_rng a
  have h2 := ePz_rng b
  have h3 := lPz_rng a
  have h4 := lPz_rng b
  unfold wkZ
  split <;> (try split) <;> omega
set_option maxHeartbeats 4000000 in
set_option maxRecDepth 100000 in
theorem k_X0_wideKind (l : Launch) (tE tL : Nat) (a b : Int) (ha : 0 ≤ a ∧ a < 8) (hb1 : 0 ≤ b ∧ b < 8) : rd_M l yX0_wideKind cX0_wideKind 4 (some .int) ({ frames := 0, cells := 0, slots := 0, locals := 0 }) [.int (iZ a), .int (iZ b)] (sB tE tL) (some (.int (iZ (wkZ a b)))) := by
  refine rd_of RX0 (by decide) rfl (Nat.le_of_ble_eq_true rfl) ?_
  intro p e s m below meth c S hr hlk hB ls hl
  obtain ⟨hx, hb, hml, hown, hT⟩ := id S
  have hl : lv_has ls 4 [(0, .int (iZ a)), (1, .int (iZ b))] := hl
  obtain ⟨⟨hZE, hTE⟩, hZL, hTL⟩ := id hB
  have h1 := ePz_rng a
  have h2 := ePz_rng b
  have h3 := lPz_rng a
  have h4 := lPz_rng b
  have h5 : ePz (3 + 1) = -2 := by decide
  have h6 : ePz 4 = -2 := by decide
  refine va_gets hx hb hZE va_S.rf hown (hT _ tb_236) (fun _ h9 => h9) dX0_wideKind_0 ?_
  refine lv_iload_n hx hb dX0_wideKind_3 rfl (lv_at hl 0 rfl) ?_
  refine va_ti hx hb hTE va_S.rf (iZ_in (by omega) (by omega) (by decide)) (eP_at (z := a) (by omega)) dX0_wideKind_4 ?_
  refine va_gets hx hb hZE va_S.rf hown (hT _ tb_236) (fun _ h9 => h9) dX0_wideKind_5 ?_
  refine lv_iload_n hx hb dX0_wideKind_8 rfl (lv_at hl 1 rfl) ?_
  refine va_ti hx hb hTE va_S.rf (iZ_in (by omega) (by omega) (by decide)) (eP_at (z := b) (by omega)) dX0_wideKind_9 ?_
  refine zi_add hx hb dX0_wideKind_10 ?_
  refine zi_top (fun v1 ev1 => ?_)
  refine lv_istore_n (lv' := [(2, .int (iZ v1)), (0, .int (iZ a)), (1, .int (iZ b))]) hx hb dX0_wideKind_11 rfl hl (by decide) rfl (fun ls hl => ?_)
  refine lv_iload_n hx hb dX0_wideKind_12 rfl (lv_at hl 0 rfl) ?_
  refine zi_fne (tgt := 28) hx hb dX0_wideKind_13 (by decide) (by omega) (fun hc13 => ?_) (fun hc13 => ?_)
  · refine va_gets hx hb hZE va_S.rf hown (hT _ tb_236) (fun _ h9 => h9) dX0_wideKind_28 ?_
    refine zi_const hx hb 4 dX0_wideKind_31 ?_
    refine va_ti hx hb hTE va_S.rf (iZ_in (by omega) (by omega) (by decide)) (eP_at (z := 4) (by omega)) dX0_wideKind_32 ?_
    refine zi_const hx hb 2 dX0_wideKind_33 ?_
    refine zi_mul hx hb dX0_wideKind_34 ?_
    refine zi_top (fun v2 ev2 => ?_)
    refine lv_istore_n (lv' := [(3, .int (iZ v2)), (2, .int (iZ v1)), (0, .int (iZ a)), (1, .int (iZ b))]) hx hb dX0_wideKind_35 rfl hl (by decide) rfl (fun ls hl => ?_)
    refine zi_bi hx hb 7 dX0_wideKind_36 (by decide) ?_
    refine lv_iload_n hx hb dX0_wideKind_38 rfl (lv_at hl 1 rfl) ?_
    refine zi_add hx hb dX0_wideKind_39 ?_
    refine lv_iload_n hx hb dX0_wideKind_40 rfl (lv_at hl 0 rfl) ?_
    refine zi_sub hx hb dX0_wideKind_41 ?_
    refine lv_iload_n hx hb dX0_wideKind_42 rfl (lv_at hl 1 rfl) ?_
    refine zi_fle (tgt := 50) hx hb dX0_wideKind_43 (by decide) (by omega) (fun hc43 => ?_) (fun hc43 => ?_)
    · refine zi_const hx hb 0 dX0_wideKind_50 ?_
      refine zi_sub hx hb dX0_wideKind_51 ?_
      exact rd_iret hx hb hr hlk (congrArg (fun z => some (Value.int (iZ z))) (show (wkZ a b : Int) = ((7 + v1) - v2) - 0 from by unfold wkZ; (first | rw [if_pos (by omega)] | (rw [if_neg (by omega)]; (first | rw [if_pos (by omega)] | rw [if_neg (by omega)]); omega)))) dX0_wideKind_52
    · refine zi_const hx hb 1 dX0_wideKind_46 ?_
      refine lv_goto (tgt := 51) hx hb dX0_wideKind_47 (by decide) ?_
      refine zi_sub hx hb dX0_wideKind_51 ?_
      exact rd_iret hx hb hr hlk (congrArg (fun z => some (Value.int (iZ z))) (show (wkZ a b : Int) = ((7 + v1) - v2) - 1 from by unfold wkZ; (first | rw [if_pos (by omega)] | (rw [if_neg (by omega)]; (first | rw [if_pos (by omega)] | rw [if_neg (by omega)]); omega)))) dX0_wideKind_52
  · refine va_gets hx hb hZL va_S.rf hown (hT _ tb_238) (fun _ h9 => h9) dX0_wideKind_16 ?_
    refine lv_iload_n hx hb dX0_wideKind_19 rfl (lv_at hl 1 rfl) ?_
    refine va_ti hx hb hTL va_S.rf (iZ_in (by omega) (by omega) (by decide)) (lP_at (z := a) (by omega)) dX0_wideKind_20 ?_
    refine va_gets hx hb hZL va_S.rf hown (hT _ tb_238) (fun _ h9 => h9) dX0_wideKind_21 ?_
    refine lv_iload_n hx hb dX0_wideKind_24 rfl (lv_at hl 2 rfl) ?_
    refine va_ti hx hb hTL va_S.rf (iZ_in (by omega) (by omega) (by decide)) (lP_at (z := b) (by omega)) dX0_wideKind_25 ?_
    refine zi_add hx hb dX0_wideKind_26 ?_
    exact rd_iret hx hb hr hlk (congrArg (fun z => some (Value.int (iZ z))) (show (wkZ a b : Int) = (lPz a) + (lPz b) from by unfold wkZ; (first | rw [if_pos (by omega)] | (rw [if_neg (by omega)]; (first | rw [if_pos (by omega)] | rw [if_neg (by omega)]); omega)))) dX0_wideKind_27
def knZ (c : Int) : Int := if c < 4 ∨ (8 < c ∧ c < 13) then (if 0 ≤ c then 1 else 0) else 0
theorem wk_0 : ∀ k : Nat, k < 8 → wkZ k 0 = (if k < 4 then (k : Int) else k + 5) := by decide
theorem wk_0z {z : Int} (h : 0 ≤ z ∧ z < 8) : wkZ z 0 = (if z < 4 then z else z + 5) := by
  obtain ⟨k, rfl⟩ : ∃ k : Nat, z = k := ⟨z.toNat, by omega⟩
  rw [wk_0 k (by omega)]
  split <;> split <;> omega
theorem knZ_or (c : Int) : (knZ c = 1 ∧ 0 ≤ c ∧ (c < 4 ∨ (8 < c ∧ c < 13))) ∨ (knZ c = 0 ∧ ¬ (0 ≤ c ∧ (c < 4 ∨ (8 < c ∧ c < 13)))) := by
  unfold knZ
  split <;> (try split) <;> omega
theorem kn_yes {c k : Int} (hk : 0 ≤ k ∧ k < 8) (h : wkZ k 0 = c) : knZ c = 1 := by
  rw [wk_0z hk] at h
  have h1 := knZ_or c
  split at h <;> omega
theorem kn_no {c : Int} (h : ∀ i : Int, 0 ≤ i → i < 8 → wkZ i 0 ≠ c) : knZ c = 0 := by
  rcases knZ_or c with h1 | h1
  · exfalso
    by_cases hc : c < 4
    · have h2 := h c (by omega) (by omega)
      rw [wk_0z (by omega), if_pos hc] at h2
      exact h2 rfl
    · have h2 := h (c - 5) (by omega) (by omega)
      rw [wk_0z (by omega), if_neg (by omega)] at h2
      omega
  · exact h1.1
set_option maxHeartbeats 4000000 in
set_option maxRecDepth 100000 in
theorem k_X0_isKnownWideKind (l : Launch) (tE tL : Nat) (c1 : Int) (h0 : 0 ≤ c1 ∧ c1 < 15) : rd_M l yX0_isKnownWideKind cX0_isKnownWideKind 2 (some .boolean) ({ frames := 1, cells := 0, slots := 0, locals := 23 }) [.int (iZ c1)] (sB tE tL) (some (.int (iZ (knZ c1)))) := by
  refine rd_of RX0 (by decide) rfl (Nat.le_of_ble_eq_true rfl) ?_
  intro p e s m below meth c S hr hlk hB ls hl
  obtain ⟨hx, hb, hml, hown, hT⟩ := id S
  have hl : lv_has ls 2 [(0, .int (iZ c1))] := hl
  refine zi_const hx hb 0 dX0_isKnownWideKind_0 ?_
  refine lv_istore_n (lv' := [(1, .int (iZ 0)), (0, .int (iZ c1))]) hx hb dX0_isKnownWideKind_1 rfl hl (by decide) rfl (fun ls hl => ?_)
  refine lp_go (nL := 2) (α := Int) (fun z => [(0, .int (iZ c1)), (1, .int (iZ z))]) (fun m2 z => 0 ≤ z ∧ z ≤ 8 ∧ (z : Int) + m2 = 8 ∧ ∀ i : Int, 0 ≤ i → i < z → wkZ i 0 ≠ c1) ?_ 8 ((0 : Int)) (by refine ⟨by omega, by omega, by omega, ?_⟩; intro i h1 h2; omega) ls (lv_sub hl [1, 0] rfl)
  intro m2 z1 hI2 ih2 ls hl
  obtain ⟨k, rfl⟩ : ∃ y : Int, y = z1 := ⟨_, rfl⟩
  have hl : lv_has ls 2 [(0, .int (iZ c1)), (1, .int (iZ k))] := hl
  have hI2 : 0 ≤ k ∧ k ≤ 8 ∧ (k : Int) + m2 = 8 ∧ ∀ i : Int, 0 ≤ i → i < k → wkZ i 0 ≠ c1 := hI2
  have hwz := fun h => wk_0z (z := k) h
  refine lv_iload_n hx hb dX0_isKnownWideKind_2 rfl (lv_at hl 1 rfl) ?_
  refine zi_bi hx hb 8 dX0_isKnownWideKind_3 (by decide) ?_
  refine zi_cge (tgt := 25) hx hb dX0_isKnownWideKind_5 (by decide) (by omega) (by omega) (fun hc5 => ?_) (fun hc5 => ?_)
  · refine zi_const hx hb 0 dX0_isKnownWideKind_25 ?_
    exact rd_zret hx hb hr hlk (congrArg (fun z => some (Value.int (iZ z))) (show (knZ c1 : Int) = 0 from kn_no (fun i h1 h2 => hI2.2.2.2 i h1 (by omega)))) (by decide) dX0_isKnownWideKind_26
  · refine lv_iload_n hx hb dX0_isKnownWideKind_8 rfl (lv_at hl 1 rfl) ?_
    refine zi_const hx hb 0 dX0_isKnownWideKind_9 ?_
    refine rd_S (As := [.int (iZ k), .int (iZ 0)]) (rest := []) (st1 := [.int (iZ (wkZ k 0))]) S (k_X0_wideKind l tE tL k 0 (by omega) (by omega)) tb_233 tb_234 tb_1 tb_235 hd_X0_wideKind ⟨rfl, rfl, by decide, by decide⟩ sB_bl (sB_mv hB) rfl hl.1 rfl (Nat.le_of_ble_eq_true rfl) dX0_isKnownWideKind_10 ⟨Nat.zero_le _, Nat.zero_le _⟩ rfl ?_
    have hw13 := wkZ_rng k 0
    refine lv_iload_n hx hb dX0_isKnownWideKind_13 rfl (lv_at hl 0 rfl) ?_
    refine zi_cne (tgt := 19) hx hb dX0_isKnownWideKind_14 (by decide) (by omega) (by omega) (fun hc14 => ?_) (fun hc14 => ?_)
    · refine zi_inc (lv' := [(1, .int (iZ (k + 1))), (0, .int (iZ c1))]) hx hb dX0_isKnownWideKind_19 hl (k := 1) rfl (by decide) rfl (fun ls hl => ?_)
      refine lv_goto (tgt := 2) hx hb dX0_isKnownWideKind_22 (by decide) ?_
      exact ih2 (m2 - 1) (k + 1) (by omega) (by refine ⟨by omega, by omega, by omega, ?_⟩; intro i h1 h2; rcases Int.lt_or_eq_of_le (show i ≤ k by omega) with h3 | h3; exact hI2.2.2.2 i h1 h3; rw [h3]; omega) ls (lv_sub hl [1, 0] rfl)
    · refine zi_const hx hb 1 dX0_isKnownWideKind_17 ?_
      exact rd_zret hx hb hr hlk (congrArg (fun z => some (Value.int (iZ z))) (show (knZ c1 : Int) = 1 from kn_yes (k := k) (by omega) (by omega))) (by decide) dX0_isKnownWideKind_18
end
section
theorem sm_mul {a b : Int} (ha : -9 ≤ a ∧ a ≤ 9) (hb : 0 ≤ b ∧ b < 32003) : -288018 ≤ a * b ∧ a * b ≤ 288018 := by
  have h1 : a * b ≤ 9 * b := Int.mul_le_mul_of_nonneg_right ha.2 hb.1
  have h2 : (-9) * b ≤ a * b := Int.mul_le_mul_of_nonneg_right ha.1 hb.1
  omega
def cnZ (F : Nat → Int) (lo : Nat) : Nat → Int
  | 0 => 0
  | m + 1 => cnZ F lo m + (if F (lo + m) = 0 then 0 else 1)
theorem cnZ_rng (F : Nat → Int) (lo m : Nat) : 0 ≤ cnZ F lo m ∧ cnZ F lo m ≤ m := by
  induction m with
  | zero => exact ⟨Int.le_refl _, Int.le_refl _⟩
  | succ m ih => unfold cnZ; split <;> omega
theorem cnZ_step {F : Nat → Int} {lo m : Nat} : cnZ F lo (m + 1) = cnZ F lo m + (if F (lo + m) = 0 then 0 else 1) := rfl
theorem cn_add {F : Nat → Int} {f a c n : Int} (hf : 0 ≤ f ∧ f < 60) (ha : 0 ≤ a) (hc : a ≤ c ∧ c < 8) (hn : -4 ≤ n ∧ n ≤ 4) {w : Int} (hw : w = (if nuZ F f c n = 0 then 0 else 1)) :
    cnZ F (f * 72 + a * 9).toNat ((c - a) * 9 + n + 4).toNat + w = cnZ F (f * 72 + a * 9).toNat ((c - a) * 9 + (n + 1) + 4).toNat := by
  rw [show ((c - a) * 9 + (n + 1) + 4).toNat = ((c - a) * 9 + n + 4).toNat + 1 by omega, cnZ_step, hw]
  have hnu : nuZ F f c n = F (f * 72 + c * 9 + n + 4).toNat := by
    unfold nuZ
    rw [if_pos (by omega)]
  rw [hnu, show (f * 72 + a * 9).toNat + ((c - a) * 9 + n + 4).toNat = (f * 72 + c * 9 + n + 4).toNat by omega]
set_option maxHeartbeats 4000000 in
set_option maxRecDepth 100000 in
theorem k_X0_countTerms (l : Launch) (D : va_G) (o q1 q2 : Nat) (cI : ClassId) (tE tL : Nat) (F G : Nat → Int) (k : Int) (f a b : Int) (hF : ∀ j, 0 ≤ F j ∧ F j < 32003) (hf : 0 ≤ f ∧ f < 60) (ha : 0 ≤ a ∧ a ≤ b + 1 ∧ b < 8) : rd_M l yX0_countTerms cX0_countTerms 7 (some .int) ({ frames := 2, cells := 0, slots := 0, locals := 45 }) [.ref o, .int (iZ f), .int (iZ a), .int (iZ b)] (rX D o q1 q2 cI tE tL F G k) (some (.int (iZ (cnZ F (f * 72 + a * 9).toNat (Int.toNat ((b - a + 1) * 9)))))) := by
  refine rd_of RX0 (by decide) rfl (Nat.le_of_ble_eq_true rfl) ?_
  intro p e s m below meth c S hr hlk hB ls hl
  obtain ⟨hx, hb, hml, hown, hT⟩ := id S
  have hl : lv_has ls 7 [(0, .ref o), (1, .int (iZ f)), (2, .int (iZ a)), (3, .int (iZ b))] := hl
  obtain ⟨hP, hK, hsX⟩ := id hB
  obtain ⟨⟨hZE, hTE⟩, hZL, hTL⟩ := id hsX
  refine zi_const hx hb 0 dX0_countTerms_0 ?_
  refine lv_istore (lv' := [(4, .int (iZ 0)), (0, .ref o), (1, .int (iZ f)), (2, .int (iZ a)), (3, .int (iZ b))]) hx hb dX0_countTerms_1 hl (by decide) rfl (fun ls hl => ?_)
  refine lv_iload_n hx hb dX0_countTerms_3 rfl (lv_at hl 3 rfl) ?_
  refine lv_istore (lv' := [(5, .int (iZ a)), (4, .int (iZ 0)), (0, .ref o), (1, .int (iZ f)), (2, .int (iZ a)), (3, .int (iZ b))]) hx hb dX0_countTerms_4 hl (by decide) rfl (fun ls hl => ?_)
  refine lp_go (nL := 7) (α := Int × Int) (fun z => [(0, .ref o), (1, .int (iZ f)), (2, .int (iZ a)), (3, .int (iZ b)), (4, .int (iZ z.1)), (5, .int (iZ z.2))]) (fun m6 z => a ≤ z.2 ∧ z.2 + (m6 : Int) = b + 1 ∧ z.1 = cnZ F (f * 72 + a * 9).toNat ((z.2 - a) * 9).toNat) ?_ ((b + 1 - a).toNat) ((0 : Int), (a : Int)) (by refine ⟨by omega, by omega, ?_⟩; rw [show ((a - a) * 9).toNat = 0 by omega]; rfl) ls (lv_sub hl [2, 3, 4, 5, 1, 0] rfl)
  intro m6 z1 hI6 ih6 ls hl
  obtain ⟨v, c⟩ := z1
  have hl : lv_has ls 7 [(0, .ref o), (1, .int (iZ f)), (2, .int (iZ a)), (3, .int (iZ b)), (4, .int (iZ v)), (5, .int (iZ c))] := hl
  have hI6 : a ≤ c ∧ c + (m6 : Int) = b + 1 ∧ v = cnZ F (f * 72 + a * 9).toNat ((c - a) * 9).toNat := hI6
  refine lv_iload hx hb dX0_countTerms_6 (lv_at hl 5 rfl) ?_
  refine lv_iload_n hx hb dX0_countTerms_8 rfl (lv_at hl 3 rfl) ?_
  refine zi_cgt (tgt := 49) hx hb dX0_countTerms_9 (by decide) (by omega) (by omega) (fun hc9 => ?_) (fun hc9 => ?_)
  · refine lv_iload hx hb dX0_countTerms_49 (lv_at hl 4 rfl) ?_
    exact rd_iret hx hb hr hlk (congrArg (fun z => some (Value.int (iZ z))) (show (cnZ F (f * 72 + a * 9).toNat (Int.toNat ((b - a + 1) * 9)) : Int) = v from by rw [hI6.2.2]; exact congrArg (cnZ F _) (by omega))) dX0_countTerms_51
  · refine zi_bi hx hb (-4) dX0_countTerms_12 (by decide) ?_
    refine lv_istore (lv' := [(6, .int (iZ (-4))), (0, .ref o), (1, .int (iZ f)), (2, .int (iZ a)), (3, .int (iZ b)), (4, .int (iZ v)), (5, .int (iZ c))]) hx hb dX0_countTerms_14 hl (by decide) rfl (fun ls hl => ?_)
    refine lp_go (nL := 7) (α := Int × Int) (fun z => [(0, .ref o), (1, .int (iZ f)), (2, .int (iZ a)), (3, .int (iZ b)), (4, .int (iZ z.1)), (5, .int (iZ c)), (6, .int (iZ z.2))]) (fun m16 z => -4 ≤ z.2 ∧ z.2 + (m16 : Int) = 5 ∧ z.1 = cnZ F (f * 72 + a * 9).toNat ((c - a) * 9 + z.2 + 4).toNat) ?_ 9 ((v : Int), ((-4) : Int)) (by refine ⟨by omega, by omega, ?_⟩; rw [hI6.2.2]; exact congrArg (cnZ F _) (by omega)) ls (lv_sub hl [1, 2, 3, 4, 5, 6, 0] rfl)
    intro m16 z2 hI16 ih16 ls hl
    obtain ⟨u, n⟩ := z2
    have hl : lv_has ls 7 [(0, .ref o), (1, .int (iZ f)), (2, .int (iZ a)), (3, .int (iZ b)), (4, .int (iZ u)), (5, .int (iZ c)), (6, .int (iZ n))] := hl
    have hI16 : -4 ≤ n ∧ n + (m16 : Int) = 5 ∧ u = cnZ F (f * 72 + a * 9).toNat ((c - a) * 9 + n + 4).toNat := hI16
    refine lv_iload hx hb dX0_countTerms_16 (lv_at hl 6 rfl) ?_
    refine zi_const hx hb 4 dX0_countTerms_18 ?_
    refine zi_cgt (tgt := 43) hx hb dX0_countTerms_19 (by decide) (by omega) (by omega) (fun hc19 => ?_) (fun hc19 => ?_)
    · refine zi_inc (lv' := [(5, .int (iZ (c + 1))), (0, .ref o), (1, .int (iZ f)), (2, .int (iZ a)), (3, .int (iZ b)), (4, .int (iZ u)), (6, .int (iZ n))]) hx hb dX0_countTerms_43 hl (k := 5) rfl (by decide) rfl (fun ls hl => ?_)
      refine lv_goto (tgt := 6) hx hb dX0_countTerms_46 (by decide) ?_
      exact ih6 (m6 - 1) (u, c + 1) (by omega) (by refine ⟨by omega, by omega, ?_⟩; rw [hI16.2.2]; exact congrArg (cnZ F _) (by omega)) ls (lv_sub hl [1, 2, 3, 4, 5, 0] rfl)
    · refine lv_aload_n hx hb dX0_countTerms_22 rfl (lv_at hl 0 rfl) ?_
      refine lv_iload_n hx hb dX0_countTerms_23 rfl (lv_at hl 1 rfl) ?_
      refine lv_iload hx hb dX0_countTerms_24 (lv_at hl 5 rfl) ?_
      refine lv_iload hx hb dX0_countTerms_26 (lv_at hl 6 rfl) ?_
      refine rd_V (As := [.int (iZ f), .int (iZ c), .int (iZ n)]) (rest := []) (st1 := [.int (iZ (nuZ F f c n))]) S (k_X0_number l D o q1 q2 cI tE tL F G k f c n (by omega) (by omega) (by omega)) tb_194 tb_196 ts_X0_number tb_1 tb_197 hd_X0_number ⟨rfl, rfl, by decide, by decide⟩ rX_bl (rX_mv hB) (rX_recv hB) rfl hl.1 rfl (Nat.le_of_ble_eq_true rfl) dX0_countTerms_28 ⟨Nat.zero_le _, Nat.zero_le _⟩ rfl ?_
      have hn31 := nuZ_rng hF f c n
      refine zi_feq (tgt := 37) hx hb dX0_countTerms_31 (by decide) (by omega) (fun hc31 => ?_) (fun hc31 => ?_)
      · refine zi_inc (lv' := [(6, .int (iZ (n + 1))), (0, .ref o), (1, .int (iZ f)), (2, .int (iZ a)), (3, .int (iZ b)), (4, .int (iZ u)), (5, .int (iZ c))]) hx hb dX0_countTerms_37 hl (k := 6) rfl (by decide) rfl (fun ls hl => ?_)
        refine lv_goto (tgt := 16) hx hb dX0_countTerms_40 (by decide) ?_
        exact ih16 (m16 - 1) (u, n + 1) (by omega) (by refine ⟨by omega, by omega, ?_⟩; rw [← cn_add (w := 0) (by omega) (by omega) (by omega) (by omega) (by rw [if_pos (by omega)])]; omega) ls (lv_sub hl [1, 2, 3, 4, 5, 6, 0] rfl)
      · refine zi_inc (lv' := [(4, .int (iZ (u + 1))), (0, .ref o), (1, .int (iZ f)), (2, .int (iZ a)), (3, .int (iZ b)), (5, .int (iZ c)), (6, .int (iZ n))]) hx hb dX0_countTerms_34 hl (k := 4) rfl (by decide) rfl (fun ls hl => ?_)
        refine zi_inc (lv' := [(6, .int (iZ (n + 1))), (4, .int (iZ (u + 1))), (0, .ref o), (1, .int (iZ f)), (2, .int (iZ a)), (3, .int (iZ b)), (5, .int (iZ c))]) hx hb dX0_countTerms_37 hl (k := 6) rfl (by decide) rfl (fun ls hl => ?_)
        refine lv_goto (tgt := 16) hx hb dX0_countTerms_40 (by decide) ?_
        exact ih16 (m16 - 1) (u + 1, n + 1) (by omega) (by refine ⟨by omega, by omega, ?_⟩; rw [← cn_add (w := 1) (by omega) (by omega) (by omega) (by omega) (by rw [if_neg (by omega)])]; omega) ls (lv_sub hl [2, 3, 4, 5, 1, 6, 0] rfl)
def lmZ (F : Nat → Int) (f g : Int) : Int := if 0 < cnZ F (f * 72 + 9).toNat 27 ∧ 0 < cnZ F (g * 72 + 36).toNat 36 then 1 else 0
def deZ (F : Nat → Int) (f : Int) : Int := if 0 < cnZ F (f * 72 + 36).toNat 18 then 1 else 0
theorem lmZ_or (F : Nat → Int) (f g : Int) : (lmZ F f g = 1 ∧ (0 < cnZ F (f * 72 + 9).toNat 27 ∧ 0 < cnZ F (g * 72 + 36).toNat 36)) ∨ (lmZ F f g = 0 ∧ ¬ (0 < cnZ F (f * 72 + 9).toNat 27 ∧ 0 < cnZ F (g * 72 + 36).toNat 36)) := by unfold lmZ; split <;> omega
theorem deZ_or (F : Nat → Int) (f : Int) : (deZ F f = 1 ∧ 0 < cnZ F (f * 72 + 36).toNat 18) ∨ (deZ F f = 0 ∧ ¬ 0 < cnZ F (f * 72 + 36).toNat 18) := by unfold deZ; split <;> omega
set_option maxHeartbeats 4000000 in
set_option maxRecDepth 100000 in
theorem k_X0_logMeetsExponential (l : Launch) (D : va_G) (o q1 q2 : Nat) (cI : ClassId) (tE tL : Nat) (F G : Nat → Int) (k : Int) (f g : Int) (hF : ∀ j, 0 ≤ F j ∧ F j < 32003) (hf : 0 ≤ f ∧ f < 60) (hg : 0 ≤ g ∧ g < 60) : rd_M l yX0_logMeetsExponential cX0_logMeetsExponential 3 (some .boolean) ({ frames := 3, cells := 0, slots := 0, locals := 71 }) [.ref o, .int (iZ f), .int (iZ g)] (rX D o q1 q2 cI tE tL F G k) (some (.int (iZ (lmZ F f g)))) := by
  refine rd_of RX0 (by decide) rfl (Nat.le_of_ble_eq_true rfl) ?_
  intro p e s m below meth c S hr hlk hB ls hl
  obtain ⟨hx, hb, hml, hown, hT⟩ := id S
  have hl : lv_has ls 3 [(0, .ref o), (1, .int (iZ f)), (2, .int (iZ g))] := hl
  obtain ⟨hP, hK, hsX⟩ := id hB
  obtain ⟨⟨hZE, hTE⟩, hZL, hTL⟩ := id hsX
  have q1e : cnZ F (f * 72 + 1 * 9).toNat (Int.toNat ((3 - 1 + 1) * 9)) = cnZ F (f * 72 + 9).toNat 27 := by rfl
  have q2e : cnZ F (g * 72 + 4 * 9).toNat (Int.toNat ((7 - 4 + 1) * 9)) = cnZ F (g * 72 + 36).toNat 36 := by rfl
  refine lv_aload_n hx hb dX0_logMeetsExponential_0 rfl (lv_at hl 0 rfl) ?_
  refine lv_iload_n hx hb dX0_logMeetsExponential_1 rfl (lv_at hl 1 rfl) ?_
  refine zi_const hx hb 1 dX0_logMeetsExponential_2 ?_
  refine zi_const hx hb 3 dX0_logMeetsExponential_3 ?_
  refine rd_V (As := [.int (iZ f), .int (iZ 1), .int (iZ 3)]) (rest := []) (st1 := [.int (iZ (cnZ F (f * 72 + 1 * 9).toNat (Int.toNat ((3 - 1 + 1) * 9))))]) S (k_X0_countTerms l D o q1 q2 cI tE tL F G k f 1 3 hF (by omega) (by omega)) tb_216 tb_218 ts_X0_countTerms tb_1 tb_219 hd_X0_countTerms ⟨rfl, rfl, by decide, by decide⟩ rX_bl (rX_mv hB) (rX_recv hB) rfl hl.1 rfl (Nat.le_of_ble_eq_true rfl) dX0_logMeetsExponential_4 ⟨Nat.zero_le _, Nat.zero_le _⟩ rfl ?_
  have hct7 := cnZ_rng F (f * 72 + 1 * 9).toNat (Int.toNat ((3 - 1 + 1) * 9))
  refine zi_fle (tgt := 25) hx hb dX0_logMeetsExponential_7 (by decide) (by omega) (fun hc7 => ?_) (fun hc7 => ?_)
  · refine zi_const hx hb 0 dX0_logMeetsExponential_25 ?_
    exact rd_zret hx hb hr hlk (congrArg (fun z => some (Value.int (iZ z))) (show (lmZ F f g : Int) = 0 from by unfold lmZ; (first | rw [if_pos (by omega)] | rw [if_neg (by omega)]))) (by decide) dX0_logMeetsExponential_26
  · refine lv_aload_n hx hb dX0_logMeetsExponential_10 rfl (lv_at hl 0 rfl) ?_
    refine lv_iload_n hx hb dX0_logMeetsExponential_11 rfl (lv_at hl 2 rfl) ?_
    refine zi_const hx hb 4 dX0_logMeetsExponential_12 ?_
    refine zi_bi hx hb 7 dX0_logMeetsExponential_13 (by decide) ?_
    refine rd_V (As := [.int (iZ g), .int (iZ 4), .int (iZ 7)]) (rest := []) (st1 := [.int (iZ (cnZ F (g * 72 + 4 * 9).toNat (Int.toNat ((7 - 4 + 1) * 9))))]) S (k_X0_countTerms l D o q1 q2 cI tE tL F G k g 4 7 hF (by omega) (by omega)) tb_216 tb_218 ts_X0_countTerms tb_1 tb_219 hd_X0_countTerms ⟨rfl, rfl, by decide, by decide⟩ rX_bl (rX_mv hB) (rX_recv hB) rfl hl.1 rfl (Nat.le_of_ble_eq_true rfl) dX0_logMeetsExponential_15 ⟨Nat.zero_le _, Nat.zero_le _⟩ rfl ?_
    have hct18 := cnZ_rng F (g * 72 + 4 * 9).toNat (Int.toNat ((7 - 4 + 1) * 9))
    refine zi_fle (tgt := 25) hx hb dX0_logMeetsExponential_18 (by decide) (by omega) (fun hc18 => ?_) (fun hc18 => ?_)
    · refine zi_const hx hb 0 dX0_logMeetsExponential_25 ?_
      exact rd_zret hx hb hr hlk (congrArg (fun z => some (Value.int (iZ z))) (show (lmZ F f g : Int) = 0 from by unfold lmZ; (first | rw [if_pos (by omega)] | rw [if_neg (by omega)]))) (by decide) dX0_logMeetsExponential_26
    · refine zi_const hx hb 1 dX0_logMeetsExponential_21 ?_
      refine lv_goto (tgt := 26) hx hb dX0_logMeetsExponential_22 (by decide) ?_
      exact rd_zret hx hb hr hlk (congrArg (fun z => some (Value.int (iZ z))) (show (lmZ F f g : Int) = 1 from by unfold lmZ; (first | rw [if_pos (by omega)] | rw [if_neg (by omega)]))) (by decide) dX0_logMeetsExponential_26
set_option maxHeartbeats 4000000 in
set_option maxRecDepth 100000 in
theorem k_X0_dividesByE (l : Launch) (D : va_G) (o q1 q2 : Nat) (cI : ClassId) (tE tL : Nat) (F G : Nat → Int) (k : Int) (f : Int) (hF : ∀ j, 0 ≤ F j ∧ F j < 32003) (hf : 0 ≤ f ∧ f < 60) : rd_M l yX0_dividesByE cX0_dividesByE 2 (some .boolean) ({ frames := 3, cells := 0, slots := 0, locals := 71 }) [.ref o, .int (iZ f)] (rX D o q1 q2 cI tE tL F G k) (some (.int (iZ (deZ F f)))) := by
  refine rd_of RX0 (by decide) rfl (Nat.le_of_ble_eq_true rfl) ?_
  intro p e s m below meth c S hr hlk hB ls hl
  obtain ⟨hx, hb, hml, hown, hT⟩ := id S
  have hl : lv_has ls 2 [(0, .ref o), (1, .int (iZ f))] := hl
  obtain ⟨hP, hK, hsX⟩ := id hB
  obtain ⟨⟨hZE, hTE⟩, hZL, hTL⟩ := id hsX
  have q1e : cnZ F (f * 72 + 4 * 9).toNat (Int.toNat ((5 - 4 + 1) * 9)) = cnZ F (f * 72 + 36).toNat 18 := by rfl
  refine lv_aload_n hx hb dX0_dividesByE_0 rfl (lv_at hl 0 rfl) ?_
  refine lv_iload_n hx hb dX0_dividesByE_1 rfl (lv_at hl 1 rfl) ?_
  refine zi_const hx hb 4 dX0_dividesByE_2 ?_
  refine zi_const hx hb 5 dX0_dividesByE_3 ?_
  refine rd_V (As := [.int (iZ f), .int (iZ 4), .int (iZ 5)]) (rest := []) (st1 := [.int (iZ (cnZ F (f * 72 + 4 * 9).toNat (Int.toNat ((5 - 4 + 1) * 9))))]) S (k_X0_countTerms l D o q1 q2 cI tE tL F G k f 4 5 hF (by omega) (by omega)) tb_216 tb_218 ts_X0_countTerms tb_1 tb_219 hd_X0_countTerms ⟨rfl, rfl, by decide, by decide⟩ rX_bl (rX_mv hB) (rX_recv hB) rfl hl.1 rfl (Nat.le_of_ble_eq_true rfl) dX0_dividesByE_4 ⟨Nat.zero_le _, Nat.zero_le _⟩ rfl ?_
  have hct7 := cnZ_rng F (f * 72 + 4 * 9).toNat (Int.toNat ((5 - 4 + 1) * 9))
  refine zi_fle (tgt := 14) hx hb dX0_dividesByE_7 (by decide) (by omega) (fun hc7 => ?_) (fun hc7 => ?_)
  · refine zi_const hx hb 0 dX0_dividesByE_14 ?_
    exact rd_zret hx hb hr hlk (congrArg (fun z => some (Value.int (iZ z))) (show (deZ F f : Int) = 0 from by unfold deZ; (first | rw [if_pos (by omega)] | rw [if_neg (by omega)]))) (by decide) dX0_dividesByE_15
  · refine zi_const hx hb 1 dX0_dividesByE_10 ?_
    refine lv_goto (tgt := 15) hx hb dX0_dividesByE_11 (by decide) ?_
    exact rd_zret hx hb hr hlk (congrArg (fun z => some (Value.int (iZ z))) (show (deZ F f : Int) = 1 from by unfold deZ; (first | rw [if_pos (by omega)] | rw [if_neg (by omega)]))) (by decide) dX0_dividesByE_15
def slZ (F : Nat → Int) (f c n : Int) : Int := ((n + 1) * nuZ F f c (n + 1) + ePz c * nuZ F f c n + (if c < 3 then (c + 1) * nuZ F f (c + 1) (n + 1) else 0)) % 32003
theorem slZ_rng (F : Nat → Int) (f c n : Int) : 0 ≤ slZ F f c n ∧ slZ F f c n < 32003 := by unfold slZ; omega
set_option maxHeartbeats 4000000 in
set_option maxRecDepth 100000 in
theorem k_X0_slopeNumber (l : Launch) (D : va_G) (o q1 q2 : Nat) (cI : ClassId) (tE tL : Nat) (F G : Nat → Int) (k : Int) (f c1 n : Int) (hF : ∀ j, 0 ≤ F j ∧ F j < 32003) (hf : 0 ≤ f ∧ f < 60) (hc1 : 0 ≤ c1 ∧ c1 < 8) (hn : -5 ≤ n ∧ n ≤ 4) : rd_M l yX0_slopeNumber cX0_slopeNumber 6 (some .int) ({ frames := 2, cells := 0, slots := 0, locals := 45 }) [.ref o, .int (iZ f), .int (iZ c1), .int (iZ n)] (rX D o q1 q2 cI tE tL F G k) (some (.int (iZ (slZ F f c1 n)))) := by
  refine rd_of RX0 (by decide) rfl (Nat.le_of_ble_eq_true rfl) ?_
  intro p e s m below meth c S hr hlk hB ls hl
  obtain ⟨hx, hb, hml, hown, hT⟩ := id S
  have hl : lv_has ls 6 [(0, .ref o), (1, .int (iZ f)), (2, .int (iZ c1)), (3, .int (iZ n))] := hl
  obtain ⟨hP, hK, hsX⟩ := id hB
  obtain ⟨⟨hZE, hTE⟩, hZL, hTL⟩ := id hsX
  have he := ePz_rng c1
  have s1 := sm_mul (a := n + 1) (by omega) (nuZ_rng hF f c1 (n + 1))
  have s2 := sm_mul (a := ePz c1) (by omega) (nuZ_rng hF f c1 n)
  have s3 := sm_mul (a := c1 + 1) (by omega) (nuZ_rng hF f (c1 + 1) (n + 1))
  refine lv_iload_n hx hb dX0_slopeNumber_0 rfl (lv_at hl 3 rfl) ?_
  refine zi_const hx hb 1 dX0_slopeNumber_1 ?_
  refine zi_add hx hb dX0_slopeNumber_2 ?_
  refine zi_i2l hx hb dX0_slopeNumber_3 (by omega) ?_
  refine lv_aload_n hx hb dX0_slopeNumber_4 rfl (lv_at hl 0 rfl) ?_
  refine lv_iload_n hx hb dX0_slopeNumber_5 rfl (lv_at hl 1 rfl) ?_
  refine lv_iload_n hx hb dX0_slopeNumber_6 rfl (lv_at hl 2 rfl) ?_
  refine lv_iload_n hx hb dX0_slopeNumber_7 rfl (lv_at hl 3 rfl) ?_
  refine zi_const hx hb 1 dX0_slopeNumber_8 ?_
  refine zi_add hx hb dX0_slopeNumber_9 ?_
  refine rd_V (As := [.int (iZ f), .int (iZ c1), .int (iZ (n + 1))]) (rest := [.long (lZ (n + 1))]) (st1 := [.int (iZ (nuZ F f c1 (n + 1))), .long (lZ (n + 1))]) S (k_X0_number l D o q1 q2 cI tE tL F G k f c1 (n + 1) (by omega) (by omega) (by omega)) tb_194 tb_196 ts_X0_number tb_1 tb_197 hd_X0_number ⟨rfl, rfl, by decide, by decide⟩ rX_bl (rX_mv hB) (rX_recv hB) rfl hl.1 rfl (Nat.le_of_ble_eq_true rfl) dX0_slopeNumber_10 ⟨Nat.zero_le _, Nat.zero_le _⟩ rfl ?_
  have hn13 := nuZ_rng hF f c1 (n + 1)
  refine zi_i2l hx hb dX0_slopeNumber_13 (by omega) ?_
  refine zl_mul hx hb dX0_slopeNumber_14 ?_
  refine zl_top (fun v1 ev1 => ?_)
  refine lv_lstore (lv' := [(4, .long (lZ v1)), (0, .ref o), (1, .int (iZ f)), (2, .int (iZ c1)), (3, .int (iZ n))]) hx hb dX0_slopeNumber_15 hl (by decide) rfl (fun ls hl => ?_)
  refine lv_lload hx hb dX0_slopeNumber_17 (lv_at hl 0 rfl) ?_
  refine va_gets hx hb hZE va_S.rf hown (hT _ tb_236) (fun _ h9 => h9) dX0_slopeNumber_19 ?_
  refine lv_iload_n hx hb dX0_slopeNumber_22 rfl (lv_at hl 3 rfl) ?_
  refine va_ti hx hb hTE va_S.rf (iZ_in (by omega) (by omega) (by decide)) (eP_at (z := c1) (by omega)) dX0_slopeNumber_23 ?_
  refine zi_i2l hx hb dX0_slopeNumber_24 (by omega) ?_
  refine lv_aload_n hx hb dX0_slopeNumber_25 rfl (lv_at hl 1 rfl) ?_
  refine lv_iload_n hx hb dX0_slopeNumber_26 rfl (lv_at hl 2 rfl) ?_
  refine lv_iload_n hx hb dX0_slopeNumber_27 rfl (lv_at hl 3 rfl) ?_
  refine lv_iload_n hx hb dX0_slopeNumber_28 rfl (lv_at hl 4 rfl) ?_
  refine rd_V (As := [.int (iZ f), .int (iZ c1), .int (iZ n)]) (rest := [.long (lZ (ePz c1)), .long (lZ v1)]) (st1 := [.int (iZ (nuZ F f c1 n)), .long (lZ (ePz c1)), .long (lZ v1)]) S (k_X0_number l D o q1 q2 cI tE tL F G k f c1 n (by omega) (by omega) (by omega)) tb_194 tb_196 ts_X0_number tb_1 tb_197 hd_X0_number ⟨rfl, rfl, by decide, by decide⟩ rX_bl (rX_mv hB) (rX_recv hB) rfl hl.1 rfl (Nat.le_of_ble_eq_true rfl) dX0_slopeNumber_29 ⟨Nat.zero_le _, Nat.zero_le _⟩ rfl ?_
  have hn32 := nuZ_rng hF f c1 n
  refine zi_i2l hx hb dX0_slopeNumber_32 (by omega) ?_
  refine zl_mul hx hb dX0_slopeNumber_33 ?_
  refine zl_add hx hb dX0_slopeNumber_34 ?_
  refine zl_top (fun v2 ev2 => ?_)
  refine lv_lstore (lv' := [(4, .long (lZ v2)), (0, .ref o), (1, .int (iZ f)), (2, .int (iZ c1)), (3, .int (iZ n))]) hx hb dX0_slopeNumber_35 hl (by decide) rfl (fun ls hl => ?_)
  refine lv_iload_n hx hb dX0_slopeNumber_37 rfl (lv_at hl 3 rfl) ?_
  refine zi_const hx hb 3 dX0_slopeNumber_38 ?_
  refine zi_cge (tgt := 64) hx hb dX0_slopeNumber_39 (by decide) (by omega) (by omega) (fun hc39 => ?_) (fun hc39 => ?_)
  · refine lv_lload hx hb dX0_slopeNumber_64 (lv_at hl 0 rfl) ?_
    refine rd_S (As := [.long (lZ v2)]) (rest := []) (st1 := [.int (iZ (v2 % 32003))]) S (k_X0_reduce l v2 (by omega)) tb_154 tb_155 tb_1 tb_156 hd_X0_reduce ⟨rfl, rfl, by decide, by decide⟩ bl_T (fun _ _ _ => trivial) rfl hl.1 rfl (Nat.le_of_ble_eq_true rfl) dX0_slopeNumber_66 ⟨Nat.zero_le _, Nat.zero_le _⟩ rfl ?_
    exact rd_iret hx hb hr hlk (congrArg (fun z => some (Value.int (iZ z))) (show (slZ F f c1 n : Int) = v2 % 32003 from by unfold slZ; (first | rw [if_pos (by omega)] | rw [if_neg (by omega)]); omega)) dX0_slopeNumber_69
  · refine lv_lload hx hb dX0_slopeNumber_42 (lv_at hl 0 rfl) ?_
    refine lv_iload_n hx hb dX0_slopeNumber_44 rfl (lv_at hl 3 rfl) ?_
    refine zi_const hx hb 1 dX0_slopeNumber_45 ?_
    refine zi_add hx hb dX0_slopeNumber_46 ?_
    refine zi_i2l hx hb dX0_slopeNumber_47 (by omega) ?_
    refine lv_aload_n hx hb dX0_slopeNumber_48 rfl (lv_at hl 1 rfl) ?_
    refine lv_iload_n hx hb dX0_slopeNumber_49 rfl (lv_at hl 2 rfl) ?_
    refine lv_iload_n hx hb dX0_slopeNumber_50 rfl (lv_at hl 3 rfl) ?_
    refine zi_const hx hb 1 dX0_slopeNumber_51 ?_
    refine zi_add hx hb dX0_slopeNumber_52 ?_
    refine lv_iload_n hx hb dX0_slopeNumber_53 rfl (lv_at hl 4 rfl) ?_
    refine zi_const hx hb 1 dX0_slopeNumber_54 ?_
    refine zi_add hx hb dX0_slopeNumber_55 ?_
    refine rd_V (As := [.int (iZ f), .int (iZ (c1 + 1)), .int (iZ (n + 1))]) (rest := [.long (lZ (c1 + 1)), .long (lZ v2)]) (st1 := [.int (iZ (nuZ F f (c1 + 1) (n + 1))), .long (lZ (c1 + 1)), .long (lZ v2)]) S (k_X0_number l D o q1 q2 cI tE tL F G k f (c1 + 1) (n + 1) (by omega) (by omega) (by omega)) tb_194 tb_196 ts_X0_number tb_1 tb_197 hd_X0_number ⟨rfl, rfl, by decide, by decide⟩ rX_bl (rX_mv hB) (rX_recv hB) rfl hl.1 rfl (Nat.le_of_ble_eq_true rfl) dX0_slopeNumber_56 ⟨Nat.zero_le _, Nat.zero_le _⟩ rfl ?_
    have hn59 := nuZ_rng hF f (c1 + 1) (n + 1)
    refine zi_i2l hx hb dX0_slopeNumber_59 (by omega) ?_
    refine zl_mul hx hb dX0_slopeNumber_60 ?_
    refine zl_add hx hb dX0_slopeNumber_61 ?_
    refine zl_top (fun v3 ev3 => ?_)
    refine lv_lstore (lv' := [(4, .long (lZ v3)), (0, .ref o), (1, .int (iZ f)), (2, .int (iZ c1)), (3, .int (iZ n))]) hx hb dX0_slopeNumber_62 hl (by decide) rfl (fun ls hl => ?_)
    refine lv_lload hx hb dX0_slopeNumber_64 (lv_at hl 0 rfl) ?_
    refine rd_S (As := [.long (lZ v3)]) (rest := []) (st1 := [.int (iZ (v3 % 32003))]) S (k_X0_reduce l v3 (by omega)) tb_154 tb_155 tb_1 tb_156 hd_X0_reduce ⟨rfl, rfl, by decide, by decide⟩ bl_T (fun _ _ _ => trivial) rfl hl.1 rfl (Nat.le_of_ble_eq_true rfl) dX0_slopeNumber_66 ⟨Nat.zero_le _, Nat.zero_le _⟩ rfl ?_
    exact rd_iret hx hb hr hlk (congrArg (fun z => some (Value.int (iZ z))) (show (slZ F f c1 n : Int) = v3 % 32003 from by unfold slZ; (first | rw [if_pos (by omega)] | rw [if_neg (by omega)]); omega)) dX0_slopeNumber_69
def stZ (F : Nat → Int) (f : Int) : Int := if ∀ c : Nat, c < 8 → slZ F f c (-5) = 0 then 0 else 1
theorem stZ_or (F : Nat → Int) (f : Int) : stZ F f = 0 ∨ stZ F f = 1 := by unfold stZ; split <;> omega
set_option maxHeartbeats 4000000 in
set_option maxRecDepth 100000 in
theorem k_X0_slopeIsTooFar (l : Launch) (D : va_G) (o q1 q2 : Nat) (cI : ClassId) (tE tL : Nat) (F G : Nat → Int) (k : Int) (f : Int) (hF : ∀ j, 0 ≤ F j ∧ F j < 32003) (hf : 0 ≤ f ∧ f < 60) : rd_M l yX0_slopeIsTooFar cX0_slopeIsTooFar 3 (some .boolean) ({ frames := 3, cells := 0, slots := 0, locals := 70 }) [.ref o, .int (iZ f)] (rX D o q1 q2 cI tE tL F G k) (some (.int (iZ (stZ F f)))) := by
  refine rd_of RX0 (by decide) rfl (Nat.le_of_ble_eq_true rfl) ?_
  intro p e s m below meth c S hr hlk hB ls hl
  obtain ⟨hx, hb, hml, hown, hT⟩ := id S
  have hl : lv_has ls 3 [(0, .ref o), (1, .int (iZ f))] := hl
  obtain ⟨hP, hK, hsX⟩ := id hB
  obtain ⟨⟨hZE, hTE⟩, hZL, hTL⟩ := id hsX
  refine zi_const hx hb 0 dX0_slopeIsTooFar_0 ?_
  refine lv_istore_n (lv' := [(2, .int (iZ 0)), (0, .ref o), (1, .int (iZ f))]) hx hb dX0_slopeIsTooFar_1 rfl hl (by decide) rfl (fun ls hl => ?_)
  refine lp_go (nL := 3) (α := Int) (fun z => [(0, .ref o), (1, .int (iZ f)), (2, .int (iZ z))]) (fun m2 z => 0 ≤ z ∧ z + (m2 : Int) = 8 ∧ ∀ i : Nat, (i : Int) < z → slZ F f i (-5) = 0) ?_ 8 ((0 : Int)) (by refine ⟨by omega, by omega, ?_⟩; intro i hi; omega) ls (lv_sub hl [1, 2, 0] rfl)
  intro m2 z1 hI2 ih2 ls hl
  obtain ⟨c1, rfl⟩ : ∃ y : Int, y = z1 := ⟨_, rfl⟩
  have hl : lv_has ls 3 [(0, .ref o), (1, .int (iZ f)), (2, .int (iZ c1))] := hl
  have hI2 : 0 ≤ c1 ∧ c1 + (m2 : Int) = 8 ∧ ∀ i : Nat, (i : Int) < c1 → slZ F f i (-5) = 0 := hI2
  refine lv_iload_n hx hb dX0_slopeIsTooFar_2 rfl (lv_at hl 2 rfl) ?_
  refine zi_bi hx hb 8 dX0_slopeIsTooFar_3 (by decide) ?_
  refine zi_cge (tgt := 27) hx hb dX0_slopeIsTooFar_5 (by decide) (by omega) (by omega) (fun hc5 => ?_) (fun hc5 => ?_)
  · refine zi_const hx hb 0 dX0_slopeIsTooFar_27 ?_
    exact rd_zret hx hb hr hlk (congrArg (fun z => some (Value.int (iZ z))) (show (stZ F f : Int) = 0 from by unfold stZ; rw [if_pos]; intro i hi; exact hI2.2.2 i (by omega))) (by decide) dX0_slopeIsTooFar_28
  · refine lv_aload_n hx hb dX0_slopeIsTooFar_8 rfl (lv_at hl 0 rfl) ?_
    refine lv_iload_n hx hb dX0_slopeIsTooFar_9 rfl (lv_at hl 1 rfl) ?_
    refine lv_iload_n hx hb dX0_slopeIsTooFar_10 rfl (lv_at hl 2 rfl) ?_
    refine zi_bi hx hb (-5) dX0_slopeIsTooFar_11 (by decide) ?_
    refine rd_V (As := [.int (iZ f), .int (iZ c1), .int (iZ (-5))]) (rest := []) (st1 := [.int (iZ (slZ F f c1 (-5)))]) S (k_X0_slopeNumber l D o q1 q2 cI tE tL F G k f c1 (-5) hF (by omega) (by omega) (by omega)) tb_277 tb_279 ts_X0_slopeNumber tb_1 tb_280 hd_X0_slopeNumber ⟨rfl, rfl, by decide, by decide⟩ rX_bl (rX_mv hB) (rX_recv hB) rfl hl.1 rfl (Nat.le_of_ble_eq_true rfl) dX0_slopeIsTooFar_13 ⟨Nat.zero_le _, Nat.zero_le _⟩ rfl ?_
    have hsl16 := slZ_rng F f c1 (-5)
    refine zi_feq (tgt := 21) hx hb dX0_slopeIsTooFar_16 (by decide) (by omega) (fun hc16 => ?_) (fun hc16 => ?_)
    · refine zi_inc (lv' := [(2, .int (iZ (c1 + 1))), (0, .ref o), (1, .int (iZ f))]) hx hb dX0_slopeIsTooFar_21 hl (k := 2) rfl (by decide) rfl (fun ls hl => ?_)
      refine lv_goto (tgt := 2) hx hb dX0_slopeIsTooFar_24 (by decide) ?_
      exact ih2 (m2 - 1) (c1 + 1) (by omega) (by refine ⟨by omega, by omega, ?_⟩; intro i hi; rcases (show (i : Int) < c1 ∨ (i : Int) = c1 by omega) with h3 | h3; exact hI2.2.2 i h3; rw [h3]; omega) ls (lv_sub hl [1, 2, 0] rfl)
    · refine zi_const hx hb 1 dX0_slopeIsTooFar_19 ?_
      exact rd_zret hx hb hr hlk (congrArg (fun z => some (Value.int (iZ z))) (show (stZ F f : Int) = 1 from by unfold stZ; rw [if_neg]; intro h; have h2 := h c1.toNat (by omega); rw [Int.toNat_of_nonneg (by omega)] at h2; omega)) (by decide) dX0_slopeIsTooFar_20
def seZ (F : Nat → Int) (f c : Int) : Nat → Int
  | 0 => 0
  | m + 1 => dvZ (nuZ F f c ((m : Int) - 4) - ePz c * seZ F f c m) ((m : Int) - 3)
theorem dvZ_rng (z d : Int) : 0 ≤ dvZ z d ∧ dvZ z d < 32003 := by unfold dvZ; omega
theorem seZ_rng (F : Nat → Int) (f c : Int) (m : Nat) : 0 ≤ seZ F f c m ∧ seZ F f c m < 32003 := by
  cases m with
  | zero => exact ⟨Int.le_refl _, by unfold seZ; omega⟩
  | succ m => exact dvZ_rng _ _
def rsZ (F : Nat → Int) (f c : Int) : Int := if c ≤ 3 then 0 else (nuZ F f c (-1) - ePz c * seZ F f c 3) % 32003
theorem rsZ_rng (F : Nat → Int) (f c : Int) : 0 ≤ rsZ F f c ∧ rsZ F f c < 32003 := by unfold rsZ; split <;> omega
set_option maxHeartbeats 4000000 in
set_option maxRecDepth 100000 in
theorem k_X0_restOf (l : Launch) (D : va_G) (o q1 q2 : Nat) (cI : ClassId) (tE tL : Nat) (F G : Nat → Int) (k : Int) (f c1 : Int) (hF : ∀ j, 0 ≤ F j ∧ F j < 32003) (hf : 0 ≤ f ∧ f < 60) (hc1 : 0 ≤ c1 ∧ c1 < 8) : rd_M l yX0_restOf cX0_restOf 6 (some .int) ({ frames := 4, cells := 0, slots := 0, locals := 88 }) [.ref o, .int (iZ f), .int (iZ c1)] (rX D o q1 q2 cI tE tL F G k) (some (.int (iZ (rsZ F f c1)))) := by
  refine rd_of RX0 (by decide) rfl (Nat.le_of_ble_eq_true rfl) ?_
  intro p e s m below meth c S hr hlk hB ls hl
  obtain ⟨hx, hb, hml, hown, hT⟩ := id S
  have hl : lv_has ls 6 [(0, .ref o), (1, .int (iZ f)), (2, .int (iZ c1))] := hl
  obtain ⟨hP, hK, hsX⟩ := id hB
  obtain ⟨⟨hZE, hTE⟩, hZL, hTL⟩ := id hsX
  have he := ePz_rng c1
  refine lv_iload_n hx hb dX0_restOf_0 rfl (lv_at hl 2 rfl) ?_
  refine zi_const hx hb 3 dX0_restOf_1 ?_
  refine zi_cgt (tgt := 7) hx hb dX0_restOf_2 (by decide) (by omega) (by omega) (fun hc2 => ?_) (fun hc2 => ?_)
  · refine va_gets hx hb hZE va_S.rf hown (hT _ tb_236) (fun _ h9 => h9) dX0_restOf_7 ?_
    refine lv_iload_n hx hb dX0_restOf_10 rfl (lv_at hl 2 rfl) ?_
    refine va_ti hx hb hTE va_S.rf (iZ_in (by omega) (by omega) (by decide)) (eP_at (z := c1) (by omega)) dX0_restOf_11 ?_
    refine zi_top (fun v1 ev1 => ?_)
    refine lv_istore_n (lv' := [(3, .int (iZ v1)), (0, .ref o), (1, .int (iZ f)), (2, .int (iZ c1))]) hx hb dX0_restOf_12 rfl hl (by decide) rfl (fun ls hl => ?_)
    refine zi_const hx hb 0 dX0_restOf_13 ?_
    refine lv_istore (lv' := [(4, .int (iZ 0)), (3, .int (iZ v1)), (0, .ref o), (1, .int (iZ f)), (2, .int (iZ c1))]) hx hb dX0_restOf_14 hl (by decide) rfl (fun ls hl => ?_)
    refine zi_bi hx hb (-4) dX0_restOf_16 (by decide) ?_
    refine lv_istore (lv' := [(5, .int (iZ (-4))), (4, .int (iZ 0)), (3, .int (iZ v1)), (0, .ref o), (1, .int (iZ f)), (2, .int (iZ c1))]) hx hb dX0_restOf_18 hl (by decide) rfl (fun ls hl => ?_)
    refine lp_go (nL := 6) (α := Int × Int) (fun z => [(0, .ref o), (1, .int (iZ f)), (2, .int (iZ c1)), (3, .int (iZ v1)), (4, .int (iZ z.1)), (5, .int (iZ z.2))]) (fun m20 z => -4 ≤ z.2 ∧ z.2 + (m20 : Int) = -1 ∧ z.1 = seZ F f c1 (z.2 + 4).toNat) ?_ 3 ((0 : Int), ((-4) : Int)) (by refine ⟨by omega, by omega, ?_⟩; rfl) ls (lv_sub hl [3, 4, 5, 2, 1, 0] rfl)
    intro m20 z2 hI20 ih20 ls hl
    obtain ⟨v, n⟩ := z2
    have hl : lv_has ls 6 [(0, .ref o), (1, .int (iZ f)), (2, .int (iZ c1)), (3, .int (iZ v1)), (4, .int (iZ v)), (5, .int (iZ n))] := hl
    have hI20 : -4 ≤ n ∧ n + (m20 : Int) = -1 ∧ v = seZ F f c1 (n + 4).toNat := hI20
    have hvr := seZ_rng F f c1 (n + 4).toNat
    rw [← hI20.2.2] at hvr
    have sv := sm_mul (a := v1) (by omega) hvr
    refine lv_iload hx hb dX0_restOf_20 (lv_at hl 5 rfl) ?_
    refine zi_const hx hb (-1) dX0_restOf_22 ?_
    refine zi_cge (tgt := 57) hx hb dX0_restOf_23 (by decide) (by omega) (by omega) (fun hc23 => ?_) (fun hc23 => ?_)
    · refine lv_aload_n hx hb dX0_restOf_57 rfl (lv_at hl 0 rfl) ?_
      refine lv_iload_n hx hb dX0_restOf_58 rfl (lv_at hl 1 rfl) ?_
      refine lv_iload_n hx hb dX0_restOf_59 rfl (lv_at hl 2 rfl) ?_
      refine zi_const hx hb (-1) dX0_restOf_60 ?_
      refine rd_V (As := [.int (iZ f), .int (iZ c1), .int (iZ (-1))]) (rest := []) (st1 := [.int (iZ (nuZ F f c1 (-1)))]) S (k_X0_number l D o q1 q2 cI tE tL F G k f c1 (-1) (by omega) (by omega) (by omega)) tb_194 tb_196 ts_X0_number tb_1 tb_197 hd_X0_number ⟨rfl, rfl, by decide, by decide⟩ rX_bl (rX_mv hB) (rX_recv hB) rfl hl.1 rfl (Nat.le_of_ble_eq_true rfl) dX0_restOf_61 ⟨Nat.zero_le _, Nat.zero_le _⟩ rfl ?_
      have hn64 := nuZ_rng hF f c1 (-1)
      refine zi_i2l hx hb dX0_restOf_64 (by omega) ?_
      refine lv_iload_n hx hb dX0_restOf_65 rfl (lv_at hl 3 rfl) ?_
      refine zi_i2l hx hb dX0_restOf_66 (by omega) ?_
      refine lv_iload hx hb dX0_restOf_67 (lv_at hl 4 rfl) ?_
      refine zi_i2l hx hb dX0_restOf_69 (by omega) ?_
      refine zl_mul hx hb dX0_restOf_70 ?_
      refine zl_sub hx hb dX0_restOf_71 ?_
      refine rd_S (As := [.long (lZ ((nuZ F f c1 (-1)) - (v1 * v)))]) (rest := []) (st1 := [.int (iZ (((nuZ F f c1 (-1)) - (v1 * v)) % 32003))]) S (k_X0_reduce l ((nuZ F f c1 (-1)) - (v1 * v)) (by omega)) tb_154 tb_155 tb_1 tb_156 hd_X0_reduce ⟨rfl, rfl, by decide, by decide⟩ bl_T (fun _ _ _ => trivial) rfl hl.1 rfl (Nat.le_of_ble_eq_true rfl) dX0_restOf_72 ⟨Nat.zero_le _, Nat.zero_le _⟩ rfl ?_
      exact rd_iret hx hb hr hlk (congrArg (fun z => some (Value.int (iZ z))) (show (rsZ F f c1 : Int) = ((nuZ F f c1 (-1)) - (v1 * v)) % 32003 from by unfold rsZ; rw [if_neg (by omega), hI20.2.2, ev1, show (n + 4).toNat = 3 by omega])) dX0_restOf_75
    · refine lv_aload_n hx hb dX0_restOf_26 rfl (lv_at hl 0 rfl) ?_
      refine lv_iload_n hx hb dX0_restOf_27 rfl (lv_at hl 1 rfl) ?_
      refine lv_iload_n hx hb dX0_restOf_28 rfl (lv_at hl 2 rfl) ?_
      refine lv_iload hx hb dX0_restOf_29 (lv_at hl 5 rfl) ?_
      refine rd_V (As := [.int (iZ f), .int (iZ c1), .int (iZ n)]) (rest := []) (st1 := [.int (iZ (nuZ F f c1 n))]) S (k_X0_number l D o q1 q2 cI tE tL F G k f c1 n (by omega) (by omega) (by omega)) tb_194 tb_196 ts_X0_number tb_1 tb_197 hd_X0_number ⟨rfl, rfl, by decide, by decide⟩ rX_bl (rX_mv hB) (rX_recv hB) rfl hl.1 rfl (Nat.le_of_ble_eq_true rfl) dX0_restOf_31 ⟨Nat.zero_le _, Nat.zero_le _⟩ rfl ?_
      have hn34 := nuZ_rng hF f c1 n
      refine zi_i2l hx hb dX0_restOf_34 (by omega) ?_
      refine lv_iload_n hx hb dX0_restOf_35 rfl (lv_at hl 3 rfl) ?_
      refine zi_i2l hx hb dX0_restOf_36 (by omega) ?_
      refine lv_iload hx hb dX0_restOf_37 (lv_at hl 4 rfl) ?_
      refine zi_i2l hx hb dX0_restOf_39 (by omega) ?_
      refine zl_mul hx hb dX0_restOf_40 ?_
      refine zl_sub hx hb dX0_restOf_41 ?_
      refine lv_iload hx hb dX0_restOf_42 (lv_at hl 5 rfl) ?_
      refine zi_const hx hb 1 dX0_restOf_44 ?_
      refine zi_add hx hb dX0_restOf_45 ?_
      refine rd_S (As := [.long (lZ ((nuZ F f c1 n) - (v1 * v))), .int (iZ (n + 1))]) (rest := []) (st1 := [.int (iZ (dvZ ((nuZ F f c1 n) - (v1 * v)) (n + 1)))]) S (k_X0_divide l ((nuZ F f c1 n) - (v1 * v)) (n + 1) (by omega) (by omega)) tb_301 tb_302 tb_1 tb_303 hd_X0_divide ⟨rfl, rfl, by decide, by decide⟩ bl_T (fun _ _ _ => trivial) rfl hl.1 rfl (Nat.le_of_ble_eq_true rfl) dX0_restOf_46 ⟨Nat.zero_le _, Nat.zero_le _⟩ rfl ?_
      refine zi_top (fun v3 ev3 => ?_)
      refine lv_istore (lv' := [(4, .int (iZ v3)), (0, .ref o), (1, .int (iZ f)), (2, .int (iZ c1)), (3, .int (iZ v1)), (5, .int (iZ n))]) hx hb dX0_restOf_49 hl (by decide) rfl (fun ls hl => ?_)
      refine zi_inc (lv' := [(5, .int (iZ (n + 1))), (4, .int (iZ v3)), (0, .ref o), (1, .int (iZ f)), (2, .int (iZ c1)), (3, .int (iZ v1))]) hx hb dX0_restOf_51 hl (k := 5) rfl (by decide) rfl (fun ls hl => ?_)
      refine lv_goto (tgt := 20) hx hb dX0_restOf_54 (by decide) ?_
      exact ih20 (m20 - 1) (v3, n + 1) (by omega) (by refine ⟨by omega, by omega, ?_⟩; rw [show (n + 1 + 4).toNat = (n + 4).toNat + 1 by omega]; unfold seZ; rw [ev3, hI20.2.2, show (((n + 4).toNat : Nat) : Int) = n + 4 by omega, show n + 4 - 4 = n by omega, show n + 4 - 3 = n + 1 by omega, ev1]) ls (lv_sub hl [2, 3, 4, 5, 1, 0] rfl)
  · refine zi_const hx hb 0 dX0_restOf_5 ?_
    exact rd_iret hx hb hr hlk (congrArg (fun z => some (Value.int (iZ z))) (show (rsZ F f c1 : Int) = 0 from by unfold rsZ; rw [if_pos (by omega)])) dX0_restOf_6
def hrZ (F : Nat → Int) (f : Int) : Int := if ∀ c : Nat, c < 4 → rsZ F f (c + 4) = 0 then 0 else 1
theorem hrZ_or (F : Nat → Int) (f : Int) : hrZ F f = 0 ∨ hrZ F f = 1 := by unfold hrZ; split <;> omega
set_option maxHeartbeats 4000000 in
set_option maxRecDepth 100000 in
theorem k_X0_hasRest (l : Launch) (D : va_G) (o q1 q2 : Nat) (cI : ClassId) (tE tL : Nat) (F G : Nat → Int) (k : Int) (f : Int) (hF : ∀ j, 0 ≤ F j ∧ F j < 32003) (hf : 0 ≤ f ∧ f < 60) : rd_M l yX0_hasRest cX0_hasRest 3 (some .boolean) ({ frames := 5, cells := 0, slots := 0, locals := 113 }) [.ref o, .int (iZ f)] (rX D o q1 q2 cI tE tL F G k) (some (.int (iZ (hrZ F f)))) := by
  refine rd_of RX0 (by decide) rfl (Nat.le_of_ble_eq_true rfl) ?_
  intro p e s m below meth c S hr hlk hB ls hl
  obtain ⟨hx, hb, hml, hown, hT⟩ := id S
  have hl : lv_has ls 3 [(0, .ref o), (1, .int (iZ f))] := hl
  obtain ⟨hP, hK, hsX⟩ := id hB
  obtain ⟨⟨hZE, hTE⟩, hZL, hTL⟩ := id hsX
  refine zi_const hx hb 4 dX0_hasRest_0 ?_
  refine lv_istore_n (lv' := [(2, .int (iZ 4)), (0, .ref o), (1, .int (iZ f))]) hx hb dX0_hasRest_1 rfl hl (by decide) rfl (fun ls hl => ?_)
  refine lp_go (nL := 3) (α := Int) (fun z => [(0, .ref o), (1, .int (iZ f)), (2, .int (iZ z))]) (fun m2 z => 4 ≤ z ∧ z + (m2 : Int) = 8 ∧ ∀ i : Nat, (i : Int) + 4 < z → rsZ F f (i + 4) = 0) ?_ 4 ((4 : Int)) (by refine ⟨by omega, by omega, ?_⟩; intro i hi; omega) ls (lv_sub hl [1, 2, 0] rfl)
  intro m2 z1 hI2 ih2 ls hl
  obtain ⟨c1, rfl⟩ : ∃ y : Int, y = z1 := ⟨_, rfl⟩
  have hl : lv_has ls 3 [(0, .ref o), (1, .int (iZ f)), (2, .int (iZ c1))] := hl
  have hI2 : 4 ≤ c1 ∧ c1 + (m2 : Int) = 8 ∧ ∀ i : Nat, (i : Int) + 4 < c1 → rsZ F f (i + 4) = 0 := hI2
  refine lv_iload_n hx hb dX0_hasRest_2 rfl (lv_at hl 2 rfl) ?_
  refine zi_bi hx hb 8 dX0_hasRest_3 (by decide) ?_
  refine zi_cge (tgt := 25) hx hb dX0_hasRest_5 (by decide) (by omega) (by omega) (fun hc5 => ?_) (fun hc5 => ?_)
  · refine zi_const hx hb 0 dX0_hasRest_25 ?_
    exact rd_zret hx hb hr hlk (congrArg (fun z => some (Value.int (iZ z))) (show (hrZ F f : Int) = 0 from by unfold hrZ; rw [if_pos]; intro i hi; exact hI2.2.2 i (by omega))) (by decide) dX0_hasRest_26
  · refine lv_aload_n hx hb dX0_hasRest_8 rfl (lv_at hl 0 rfl) ?_
    refine lv_iload_n hx hb dX0_hasRest_9 rfl (lv_at hl 1 rfl) ?_
    refine lv_iload_n hx hb dX0_hasRest_10 rfl (lv_at hl 2 rfl) ?_
    refine rd_V (As := [.int (iZ f), .int (iZ c1)]) (rest := []) (st1 := [.int (iZ (rsZ F f c1))]) S (k_X0_restOf l D o q1 q2 cI tE tL F G k f c1 hF (by omega) (by omega)) tb_297 tb_299 ts_X0_restOf tb_1 tb_300 hd_X0_restOf ⟨rfl, rfl, by decide, by decide⟩ rX_bl (rX_mv hB) (rX_recv hB) rfl hl.1 rfl (Nat.le_of_ble_eq_true rfl) dX0_hasRest_11 ⟨Nat.zero_le _, Nat.zero_le _⟩ rfl ?_
    have hrs14 := rsZ_rng F f c1
    refine zi_feq (tgt := 19) hx hb dX0_hasRest_14 (by decide) (by omega) (fun hc14 => ?_) (fun hc14 => ?_)
    · refine zi_inc (lv' := [(2, .int (iZ (c1 + 1))), (0, .ref o), (1, .int (iZ f))]) hx hb dX0_hasRest_19 hl (k := 2) rfl (by decide) rfl (fun ls hl => ?_)
      refine lv_goto (tgt := 2) hx hb dX0_hasRest_22 (by decide) ?_
      exact ih2 (m2 - 1) (c1 + 1) (by omega) (by refine ⟨by omega, by omega, ?_⟩; intro i hi; rcases (show (i : Int) + 4 < c1 ∨ (i : Int) + 4 = c1 by omega) with h3 | h3; exact hI2.2.2 i h3; rw [h3]; omega) ls (lv_sub hl [1, 2, 0] rfl)
    · refine zi_const hx hb 1 dX0_hasRest_17 ?_
      exact rd_zret hx hb hr hlk (congrArg (fun z => some (Value.int (iZ z))) (show (hrZ F f : Int) = 1 from by unfold hrZ; rw [if_neg]; intro h; have h2 := h (c1 - 4).toNat (by omega); rw [Int.toNat_of_nonneg (by omega), show c1 - 4 + 4 = c1 by omega] at h2; omega)) (by decide) dX0_hasRest_18
def itZ (F : Nat → Int) (f : Int) : Int := if (∀ c : Nat, c < 4 → nuZ F f c 4 = 0) ∧ nuZ F f 3 (-1) = 0 then 0 else 1
theorem itZ_or (F : Nat → Int) (f : Int) : itZ F f = 0 ∨ itZ F f = 1 := by unfold itZ; split <;> omega
set_option maxHeartbeats 4000000 in
set_option maxRecDepth 100000 in
theorem k_X0_integralIsTooFar (l : Launch) (D : va_G) (o q1 q2 : Nat) (cI : ClassId) (tE tL : Nat) (F G : Nat → Int) (k : Int) (f : Int) (hF : ∀ j, 0 ≤ F j ∧ F j < 32003) (hf : 0 ≤ f ∧ f < 60) : rd_M l yX0_integralIsTooFar cX0_integralIsTooFar 3 (some .boolean) ({ frames := 2, cells := 0, slots := 0, locals := 45 }) [.ref o, .int (iZ f)] (rX D o q1 q2 cI tE tL F G k) (some (.int (iZ (itZ F f)))) := by
  refine rd_of RX0 (by decide) rfl (Nat.le_of_ble_eq_true rfl) ?_
  intro p e s m below meth c S hr hlk hB ls hl
  obtain ⟨hx, hb, hml, hown, hT⟩ := id S
  have hl : lv_has ls 3 [(0, .ref o), (1, .int (iZ f))] := hl
  obtain ⟨hP, hK, hsX⟩ := id hB
  obtain ⟨⟨hZE, hTE⟩, hZL, hTL⟩ := id hsX
  refine zi_const hx hb 0 dX0_integralIsTooFar_0 ?_
  refine lv_istore_n (lv' := [(2, .int (iZ 0)), (0, .ref o), (1, .int (iZ f))]) hx hb dX0_integralIsTooFar_1 rfl hl (by decide) rfl (fun ls hl => ?_)
  refine lp_go (nL := 3) (α := Int) (fun z => [(0, .ref o), (1, .int (iZ f)), (2, .int (iZ z))]) (fun m2 z => 0 ≤ z ∧ z + (m2 : Int) = 4 ∧ ∀ i : Nat, (i : Int) < z → nuZ F f i 4 = 0) ?_ 4 ((0 : Int)) (by refine ⟨by omega, by omega, ?_⟩; intro i hi; omega) ls (lv_sub hl [1, 2, 0] rfl)
  intro m2 z1 hI2 ih2 ls hl
  obtain ⟨c1, rfl⟩ : ∃ y : Int, y = z1 := ⟨_, rfl⟩
  have hl : lv_has ls 3 [(0, .ref o), (1, .int (iZ f)), (2, .int (iZ c1))] := hl
  have hI2 : 0 ≤ c1 ∧ c1 + (m2 : Int) = 4 ∧ ∀ i : Nat, (i : Int) < c1 → nuZ F f i 4 = 0 := hI2
  refine lv_iload_n hx hb dX0_integralIsTooFar_2 rfl (lv_at hl 2 rfl) ?_
  refine zi_const hx hb 3 dX0_integralIsTooFar_3 ?_
  refine zi_cgt (tgt := 25) hx hb dX0_integralIsTooFar_4 (by decide) (by omega) (by omega) (fun hc4 => ?_) (fun hc4 => ?_)
  · refine lv_aload_n hx hb dX0_integralIsTooFar_25 rfl (lv_at hl 0 rfl) ?_
    refine lv_iload_n hx hb dX0_integralIsTooFar_26 rfl (lv_at hl 1 rfl) ?_
    refine zi_const hx hb 3 dX0_integralIsTooFar_27 ?_
    refine zi_const hx hb (-1) dX0_integralIsTooFar_28 ?_
    refine rd_V (As := [.int (iZ f), .int (iZ 3), .int (iZ (-1))]) (rest := []) (st1 := [.int (iZ (nuZ F f 3 (-1)))]) S (k_X0_number l D o q1 q2 cI tE tL F G k f 3 (-1) (by omega) (by omega) (by omega)) tb_194 tb_196 ts_X0_number tb_1 tb_197 hd_X0_number ⟨rfl, rfl, by decide, by decide⟩ rX_bl (rX_mv hB) (rX_recv hB) rfl hl.1 rfl (Nat.le_of_ble_eq_true rfl) dX0_integralIsTooFar_29 ⟨Nat.zero_le _, Nat.zero_le _⟩ rfl ?_
    have hn32 := nuZ_rng hF f 3 (-1)
    refine zi_feq (tgt := 39) hx hb dX0_integralIsTooFar_32 (by decide) (by omega) (fun hc32 => ?_) (fun hc32 => ?_)
    · refine zi_const hx hb 0 dX0_integralIsTooFar_39 ?_
      exact rd_zret hx hb hr hlk (congrArg (fun z => some (Value.int (iZ z))) (show (itZ F f : Int) = 0 from by unfold itZ; rw [if_pos]; exact ⟨fun i hi => hI2.2.2 i (by omega), by omega⟩)) (by decide) dX0_integralIsTooFar_40
    · refine zi_const hx hb 1 dX0_integralIsTooFar_35 ?_
      refine lv_goto (tgt := 40) hx hb dX0_integralIsTooFar_36 (by decide) ?_
      exact rd_zret hx hb hr hlk (congrArg (fun z => some (Value.int (iZ z))) (show (itZ F f : Int) = 1 from by unfold itZ; rw [if_neg]; intro h; exact absurd h.2 (by omega))) (by decide) dX0_integralIsTooFar_40
  · refine lv_aload_n hx hb dX0_integralIsTooFar_7 rfl (lv_at hl 0 rfl) ?_
    refine lv_iload_n hx hb dX0_integralIsTooFar_8 rfl (lv_at hl 1 rfl) ?_
    refine lv_iload_n hx hb dX0_integralIsTooFar_9 rfl (lv_at hl 2 rfl) ?_
    refine zi_const hx hb 4 dX0_integralIsTooFar_10 ?_
    refine rd_V (As := [.int (iZ f), .int (iZ c1), .int (iZ 4)]) (rest := []) (st1 := [.int (iZ (nuZ F f c1 4))]) S (k_X0_number l D o q1 q2 cI tE tL F G k f c1 4 (by omega) (by omega) (by omega)) tb_194 tb_196 ts_X0_number tb_1 tb_197 hd_X0_number ⟨rfl, rfl, by decide, by decide⟩ rX_bl (rX_mv hB) (rX_recv hB) rfl hl.1 rfl (Nat.le_of_ble_eq_true rfl) dX0_integralIsTooFar_11 ⟨Nat.zero_le _, Nat.zero_le _⟩ rfl ?_
    have hn14 := nuZ_rng hF f c1 4
    refine zi_feq (tgt := 19) hx hb dX0_integralIsTooFar_14 (by decide) (by omega) (fun hc14 => ?_) (fun hc14 => ?_)
    · refine zi_inc (lv' := [(2, .int (iZ (c1 + 1))), (0, .ref o), (1, .int (iZ f))]) hx hb dX0_integralIsTooFar_19 hl (k := 2) rfl (by decide) rfl (fun ls hl => ?_)
      refine lv_goto (tgt := 2) hx hb dX0_integralIsTooFar_22 (by decide) ?_
      exact ih2 (m2 - 1) (c1 + 1) (by omega) (by refine ⟨by omega, by omega, ?_⟩; intro i hi; rcases (show (i : Int) < c1 ∨ (i : Int) = c1 by omega) with h3 | h3; exact hI2.2.2 i h3; rw [h3]; omega) ls (lv_sub hl [1, 2, 0] rfl)
    · refine zi_const hx hb 1 dX0_integralIsTooFar_17 ?_
      exact rd_zret hx hb hr hlk (congrArg (fun z => some (Value.int (iZ z))) (show (itZ F f : Int) = 1 from by unfold itZ; rw [if_neg]; intro h; have h2 := h.1 c1.toNat (by omega); rw [Int.toNat_of_nonneg (by omega)] at h2; omega)) (by decide) dX0_integralIsTooFar_18
def dxZ (F : Nat → Int) (f : Int) : Int := if ∀ c : Nat, c < 8 → ∀ j : Nat, j < 4 → nuZ F f c ((j : Int) - 4) = 0 then 0 else 1
theorem dxZ_or (F : Nat → Int) (f : Int) : dxZ F f = 0 ∨ dxZ F f = 1 := by unfold dxZ; split <;> omega
set_option maxHeartbeats 4000000 in
set_option maxRecDepth 100000 in
theorem k_X0_dividesByX (l : Launch) (D : va_G) (o q1 q2 : Nat) (cI : ClassId) (tE tL : Nat) (F G : Nat → Int) (k : Int) (f : Int) (hF : ∀ j, 0 ≤ F j ∧ F j < 32003) (hf : 0 ≤ f ∧ f < 60) : rd_M l yX0_dividesByX cX0_dividesByX 4 (some .boolean) ({ frames := 2, cells := 0, slots := 0, locals := 45 }) [.ref o, .int (iZ f)] (rX D o q1 q2 cI tE tL F G k) (some (.int (iZ (dxZ F f)))) := by
  refine rd_of RX0 (by decide) rfl (Nat.le_of_ble_eq_true rfl) ?_
  intro p e s m below meth c S hr hlk hB ls hl
  obtain ⟨hx, hb, hml, hown, hT⟩ := id S
  have hl : lv_has ls 4 [(0, .ref o), (1, .int (iZ f))] := hl
  obtain ⟨hP, hK, hsX⟩ := id hB
  obtain ⟨⟨hZE, hTE⟩, hZL, hTL⟩ := id hsX
  refine zi_const hx hb 0 dX0_dividesByX_0 ?_
  refine lv_istore_n (lv' := [(2, .int (iZ 0)), (0, .ref o), (1, .int (iZ f))]) hx hb dX0_dividesByX_1 rfl hl (by decide) rfl (fun ls hl => ?_)
  refine lp_go (nL := 4) (α := Int) (fun z => [(0, .ref o), (1, .int (iZ f)), (2, .int (iZ z))]) (fun m2 z => 0 ≤ z ∧ z + (m2 : Int) = 8 ∧ ∀ i : Nat, (i : Int) < z → ∀ j : Nat, j < 4 → nuZ F f i ((j : Int) - 4) = 0) ?_ 8 ((0 : Int)) (by refine ⟨by omega, by omega, ?_⟩; intro i hi; omega) ls (lv_sub hl [1, 2, 0] rfl)
  intro m2 z1 hI2 ih2 ls hl
  obtain ⟨c1, rfl⟩ : ∃ y : Int, y = z1 := ⟨_, rfl⟩
  have hl : lv_has ls 4 [(0, .ref o), (1, .int (iZ f)), (2, .int (iZ c1))] := hl
  have hI2 : 0 ≤ c1 ∧ c1 + (m2 : Int) = 8 ∧ ∀ i : Nat, (i : Int) < c1 → ∀ j : Nat, j < 4 → nuZ F f i ((j : Int) - 4) = 0 := hI2
  refine lv_iload_n hx hb dX0_dividesByX_2 rfl (lv_at hl 2 rfl) ?_
  refine zi_bi hx hb 8 dX0_dividesByX_3 (by decide) ?_
  refine zi_cge (tgt := 39) hx hb dX0_dividesByX_5 (by decide) (by omega) (by omega) (fun hc5 => ?_) (fun hc5 => ?_)
  · refine zi_const hx hb 0 dX0_dividesByX_39 ?_
    exact rd_zret hx hb hr hlk (congrArg (fun z => some (Value.int (iZ z))) (show (dxZ F f : Int) = 0 from by unfold dxZ; rw [if_pos]; intro i hi; exact hI2.2.2 i (by omega))) (by decide) dX0_dividesByX_40
  · refine zi_bi hx hb (-4) dX0_dividesByX_8 (by decide) ?_
    refine lv_istore_n (lv' := [(3, .int (iZ (-4))), (0, .ref o), (1, .int (iZ f)), (2, .int (iZ c1))]) hx hb dX0_dividesByX_10 rfl hl (by decide) rfl (fun ls hl => ?_)
    refine lp_go (nL := 4) (α := Int) (fun z => [(0, .ref o), (1, .int (iZ f)), (2, .int (iZ c1)), (3, .int (iZ z))]) (fun m11 z => -4 ≤ z ∧ z + (m11 : Int) = 0 ∧ ∀ j : Nat, (j : Int) - 4 < z → nuZ F f c1 ((j : Int) - 4) = 0) ?_ 4 (((-4) : Int)) (by refine ⟨by omega, by omega, ?_⟩; intro i hi; omega) ls (lv_sub hl [1, 2, 3, 0] rfl)
    intro m11 z2 hI11 ih11 ls hl
    obtain ⟨n, rfl⟩ : ∃ y : Int, y = z2 := ⟨_, rfl⟩
    have hl : lv_has ls 4 [(0, .ref o), (1, .int (iZ f)), (2, .int (iZ c1)), (3, .int (iZ n))] := hl
    have hI11 : -4 ≤ n ∧ n + (m11 : Int) = 0 ∧ ∀ j : Nat, (j : Int) - 4 < n → nuZ F f c1 ((j : Int) - 4) = 0 := hI11
    refine lv_iload_n hx hb dX0_dividesByX_11 rfl (lv_at hl 3 rfl) ?_
    refine zi_fge (tgt := 33) hx hb dX0_dividesByX_12 (by decide) (by omega) (fun hc12 => ?_) (fun hc12 => ?_)
    · refine zi_inc (lv' := [(2, .int (iZ (c1 + 1))), (0, .ref o), (1, .int (iZ f)), (3, .int (iZ n))]) hx hb dX0_dividesByX_33 hl (k := 2) rfl (by decide) rfl (fun ls hl => ?_)
      refine lv_goto (tgt := 2) hx hb dX0_dividesByX_36 (by decide) ?_
      exact ih2 (m2 - 1) (c1 + 1) (by omega) (by refine ⟨by omega, by omega, ?_⟩; intro i hi; rcases (show (i : Int) < c1 ∨ (i : Int) = c1 by omega) with h3 | h3; exact hI2.2.2 i h3; rw [h3]; intro j hj; exact hI11.2.2 j (by omega)) ls (lv_sub hl [1, 2, 0] rfl)
    · refine lv_aload_n hx hb dX0_dividesByX_15 rfl (lv_at hl 0 rfl) ?_
      refine lv_iload_n hx hb dX0_dividesByX_16 rfl (lv_at hl 1 rfl) ?_
      refine lv_iload_n hx hb dX0_dividesByX_17 rfl (lv_at hl 2 rfl) ?_
      refine lv_iload_n hx hb dX0_dividesByX_18 rfl (lv_at hl 3 rfl) ?_
      refine rd_V (As := [.int (iZ f), .int (iZ c1), .int (iZ n)]) (rest := []) (st1 := [.int (iZ (nuZ F f c1 n))]) S (k_X0_number l D o q1 q2 cI tE tL F G k f c1 n (by omega) (by omega) (by omega)) tb_194 tb_196 ts_X0_number tb_1 tb_197 hd_X0_number ⟨rfl, rfl, by decide, by decide⟩ rX_bl (rX_mv hB) (rX_recv hB) rfl hl.1 rfl (Nat.le_of_ble_eq_true rfl) dX0_dividesByX_19 ⟨Nat.zero_le _, Nat.zero_le _⟩ rfl ?_
      have hn22 := nuZ_rng hF f c1 n
      refine zi_feq (tgt := 27) hx hb dX0_dividesByX_22 (by decide) (by omega) (fun hc22 => ?_) (fun hc22 => ?_)
      · refine zi_inc (lv' := [(3, .int (iZ (n + 1))), (0, .ref o), (1, .int (iZ f)), (2, .int (iZ c1))]) hx hb dX0_dividesByX_27 hl (k := 3) rfl (by decide) rfl (fun ls hl => ?_)
        refine lv_goto (tgt := 11) hx hb dX0_dividesByX_30 (by decide) ?_
        exact ih11 (m11 - 1) (n + 1) (by omega) (by refine ⟨by omega, by omega, ?_⟩; intro i hi; rcases (show (i : Int) - 4 < n ∨ (i : Int) - 4 = n by omega) with h3 | h3; exact hI11.2.2 i h3; rw [h3]; omega) ls (lv_sub hl [1, 2, 3, 0] rfl)
      · refine zi_const hx hb 1 dX0_dividesByX_25 ?_
        exact rd_zret hx hb hr hlk (congrArg (fun z => some (Value.int (iZ z))) (show (dxZ F f : Int) = 1 from by unfold dxZ; rw [if_neg]; intro h; have h2 := h c1.toNat (by omega) (n + 4).toNat (by omega); rw [Int.toNat_of_nonneg (by omega), Int.toNat_of_nonneg (by omega), show n + 4 - 4 = n by omega] at h2; omega)) (by decide) dX0_dividesByX_26
def upZ (F : Nat → Int) (f c x : Int) : Nat → Int
  | 0 => 0
  | m + 1 => (upZ F f c x m * x + nuZ F f c (4 - (m : Int))) % 32003
def loZ (F : Nat → Int) (f c y : Int) : Nat → Int
  | 0 => 0
  | m + 1 => (loZ F f c y m + nuZ F f c ((m : Int) - 4)) % 32003 * y % 32003
theorem upZ_rng (F : Nat → Int) (f c x : Int) (m : Nat) : 0 ≤ upZ F f c x m ∧ upZ F f c x m < 32003 := by
  cases m with
  | zero => exact ⟨Int.le_refl _, by unfold upZ; omega⟩
  | succ m => unfold upZ; omega
theorem loZ_rng (F : Nat → Int) (f c x : Int) (m : Nat) : 0 ≤ loZ F f c x m ∧ loZ F f c x m < 32003 := by
  cases m with
  | zero => exact ⟨Int.le_refl _, by unfold loZ; omega⟩
  | succ m => unfold loZ; omega
def vxZ (F : Nat → Int) (f c x y : Int) : Int := (upZ F f c x 5 + loZ F f c y 4) % 32003
theorem vxZ_rng (F : Nat → Int) (f c x y : Int) : 0 ≤ vxZ F f c x y ∧ vxZ F f c x y < 32003 := by unfold vxZ; omega
set_option maxHeartbeats 4000000 in
set_option maxRecDepth 100000 in
theorem k_X0_valueInX (l : Launch) (D : va_G) (o q1 q2 : Nat) (cI : ClassId) (tE tL : Nat) (F G : Nat → Int) (k : Int) (f c1 x y : Int) (hF : ∀ j, 0 ≤ F j ∧ F j < 32003) (hf : 0 ≤ f ∧ f < 60) (hc1 : 0 ≤ c1 ∧ c1 < 8) (hx1 : 0 ≤ x ∧ x < 32003) (hy1 : 0 ≤ y ∧ y < 32003) : rd_M l yX0_valueInX cX0_valueInX 8 (some .int) ({ frames := 2, cells := 0, slots := 0, locals := 45 }) [.ref o, .int (iZ f), .int (iZ c1), .int (iZ x), .int (iZ y)] (rX D o q1 q2 cI tE tL F G k) (some (.int (iZ (vxZ F f c1 x y)))) := by
  refine rd_of RX0 (by decide) rfl (Nat.le_of_ble_eq_true rfl) ?_
  intro p e s m below meth c S hr hlk hB ls hl
  obtain ⟨hx, hb, hml, hown, hT⟩ := id S
  have hl : lv_has ls 8 [(0, .ref o), (1, .int (iZ f)), (2, .int (iZ c1)), (3, .int (iZ x)), (4, .int (iZ y))] := hl
  obtain ⟨hP, hK, hsX⟩ := id hB
  obtain ⟨⟨hZE, hTE⟩, hZL, hTL⟩ := id hsX
  refine zi_const hx hb 0 dX0_valueInX_0 ?_
  refine lv_istore (lv' := [(5, .int (iZ 0)), (0, .ref o), (1, .int (iZ f)), (2, .int (iZ c1)), (3, .int (iZ x)), (4, .int (iZ y))]) hx hb dX0_valueInX_1 hl (by decide) rfl (fun ls hl => ?_)
  refine zi_const hx hb 4 dX0_valueInX_3 ?_
  refine lv_istore (lv' := [(6, .int (iZ 4)), (5, .int (iZ 0)), (0, .ref o), (1, .int (iZ f)), (2, .int (iZ c1)), (3, .int (iZ x)), (4, .int (iZ y))]) hx hb dX0_valueInX_4 hl (by decide) rfl (fun ls hl => ?_)
  refine lp_go (nL := 8) (α := Int × Int) (fun z => [(0, .ref o), (1, .int (iZ f)), (2, .int (iZ c1)), (3, .int (iZ x)), (4, .int (iZ y)), (5, .int (iZ z.1)), (6, .int (iZ z.2))]) (fun m6 z => z.2 ≤ 4 ∧ z.2 + 1 = (m6 : Int) ∧ z.1 = upZ F f c1 x (4 - z.2).toNat) ?_ 5 ((0 : Int), (4 : Int)) (by refine ⟨by omega, by omega, ?_⟩; rfl) ls (lv_sub hl [2, 3, 4, 5, 6, 1, 0] rfl)
  intro m6 z1 hI6 ih6 ls hl
  obtain ⟨u, n⟩ := z1
  have hl : lv_has ls 8 [(0, .ref o), (1, .int (iZ f)), (2, .int (iZ c1)), (3, .int (iZ x)), (4, .int (iZ y)), (5, .int (iZ u)), (6, .int (iZ n))] := hl
  have hI6 : n ≤ 4 ∧ n + 1 = (m6 : Int) ∧ u = upZ F f c1 x (4 - n).toNat := hI6
  have hur := upZ_rng F f c1 x (4 - n).toNat
  rw [← hI6.2.2] at hur
  have hum := mul_rng hur hx1
  refine lv_iload hx hb dX0_valueInX_6 (lv_at hl 6 rfl) ?_
  refine zi_flt (tgt := 38) hx hb dX0_valueInX_8 (by decide) (by omega) (fun hc8 => ?_) (fun hc8 => ?_)
  · refine zi_const hx hb 0 dX0_valueInX_38 ?_
    refine lv_istore (lv' := [(6, .int (iZ 0)), (0, .ref o), (1, .int (iZ f)), (2, .int (iZ c1)), (3, .int (iZ x)), (4, .int (iZ y)), (5, .int (iZ u))]) hx hb dX0_valueInX_39 hl (by decide) rfl (fun ls hl => ?_)
    refine zi_bi hx hb (-4) dX0_valueInX_41 (by decide) ?_
    refine lv_istore (lv' := [(7, .int (iZ (-4))), (6, .int (iZ 0)), (0, .ref o), (1, .int (iZ f)), (2, .int (iZ c1)), (3, .int (iZ x)), (4, .int (iZ y)), (5, .int (iZ u))]) hx hb dX0_valueInX_43 hl (by decide) rfl (fun ls hl => ?_)
    refine lp_go (nL := 8) (α := Int × Int) (fun z => [(0, .ref o), (1, .int (iZ f)), (2, .int (iZ c1)), (3, .int (iZ x)), (4, .int (iZ y)), (5, .int (iZ u)), (6, .int (iZ z.1)), (7, .int (iZ z.2))]) (fun m45 z => -4 ≤ z.2 ∧ z.2 + (m45 : Int) = 0 ∧ z.1 = loZ F f c1 y (z.2 + 4).toNat) ?_ 4 ((0 : Int), ((-4) : Int)) (by refine ⟨by omega, by omega, ?_⟩; rfl) ls (lv_sub hl [2, 3, 4, 5, 6, 7, 1, 0] rfl)
    intro m45 z2 hI45 ih45 ls hl
    obtain ⟨v, i⟩ := z2
    have hl : lv_has ls 8 [(0, .ref o), (1, .int (iZ f)), (2, .int (iZ c1)), (3, .int (iZ x)), (4, .int (iZ y)), (5, .int (iZ u)), (6, .int (iZ v)), (7, .int (iZ i))] := hl
    have hI45 : -4 ≤ i ∧ i + (m45 : Int) = 0 ∧ v = loZ F f c1 y (i + 4).toNat := hI45
    have hvr := loZ_rng F f c1 y (i + 4).toNat
    rw [← hI45.2.2] at hvr
    refine lv_iload hx hb dX0_valueInX_45 (lv_at hl 7 rfl) ?_
    refine zi_fge (tgt := 79) hx hb dX0_valueInX_47 (by decide) (by omega) (fun hc47 => ?_) (fun hc47 => ?_)
    · refine lv_iload hx hb dX0_valueInX_79 (lv_at hl 5 rfl) ?_
      refine zi_i2l hx hb dX0_valueInX_81 (by omega) ?_
      refine lv_iload hx hb dX0_valueInX_82 (lv_at hl 6 rfl) ?_
      refine zi_i2l hx hb dX0_valueInX_84 (by omega) ?_
      refine zl_add hx hb dX0_valueInX_85 ?_
      refine rd_S (As := [.long (lZ (u + v))]) (rest := []) (st1 := [.int (iZ ((u + v) % 32003))]) S (k_X0_reduce l (u + v) (by omega)) tb_154 tb_155 tb_1 tb_156 hd_X0_reduce ⟨rfl, rfl, by decide, by decide⟩ bl_T (fun _ _ _ => trivial) rfl hl.1 rfl (Nat.le_of_ble_eq_true rfl) dX0_valueInX_86 ⟨Nat.zero_le _, Nat.zero_le _⟩ rfl ?_
      exact rd_iret hx hb hr hlk (congrArg (fun z => some (Value.int (iZ z))) (show (vxZ F f c1 x y : Int) = (u + v) % 32003 from by unfold vxZ; rw [hI6.2.2, hI45.2.2, show (4 - n).toNat = 5 by omega, show (i + 4).toNat = 4 by omega])) dX0_valueInX_89
    · refine lv_iload hx hb dX0_valueInX_50 (lv_at hl 6 rfl) ?_
      refine zi_i2l hx hb dX0_valueInX_52 (by omega) ?_
      refine lv_aload_n hx hb dX0_valueInX_53 rfl (lv_at hl 0 rfl) ?_
      refine lv_iload_n hx hb dX0_valueInX_54 rfl (lv_at hl 1 rfl) ?_
      refine lv_iload_n hx hb dX0_valueInX_55 rfl (lv_at hl 2 rfl) ?_
      refine lv_iload hx hb dX0_valueInX_56 (lv_at hl 7 rfl) ?_
      refine rd_V (As := [.int (iZ f), .int (iZ c1), .int (iZ i)]) (rest := [.long (lZ v)]) (st1 := [.int (iZ (nuZ F f c1 i)), .long (lZ v)]) S (k_X0_number l D o q1 q2 cI tE tL F G k f c1 i (by omega) (by omega) (by omega)) tb_194 tb_196 ts_X0_number tb_1 tb_197 hd_X0_number ⟨rfl, rfl, by decide, by decide⟩ rX_bl (rX_mv hB) (rX_recv hB) rfl hl.1 rfl (Nat.le_of_ble_eq_true rfl) dX0_valueInX_58 ⟨Nat.zero_le _, Nat.zero_le _⟩ rfl ?_
      have hn61 := nuZ_rng hF f c1 i
      refine zi_i2l hx hb dX0_valueInX_61 (by omega) ?_
      refine zl_add hx hb dX0_valueInX_62 ?_
      refine rd_S (As := [.long (lZ (v + (nuZ F f c1 i)))]) (rest := []) (st1 := [.int (iZ ((v + (nuZ F f c1 i)) % 32003))]) S (k_X0_reduce l (v + (nuZ F f c1 i)) (by omega)) tb_154 tb_155 tb_1 tb_156 hd_X0_reduce ⟨rfl, rfl, by decide, by decide⟩ bl_T (fun _ _ _ => trivial) rfl hl.1 rfl (Nat.le_of_ble_eq_true rfl) dX0_valueInX_63 ⟨Nat.zero_le _, Nat.zero_le _⟩ rfl ?_
      refine lv_iload hx hb dX0_valueInX_66 (lv_at hl 4 rfl) ?_
      refine rd_S (As := [.int (iZ ((v + (nuZ F f c1 i)) % 32003)), .int (iZ y)]) (rest := []) (st1 := [.int (iZ (((v + (nuZ F f c1 i)) % 32003) * y % 32003))]) S (k_X0_multiply l ((v + (nuZ F f c1 i)) % 32003) y (by omega) (by omega)) tb_310 tb_311 tb_1 tb_312 hd_X0_multiply ⟨rfl, rfl, by decide, by decide⟩ bl_T (fun _ _ _ => trivial) rfl hl.1 rfl (Nat.le_of_ble_eq_true rfl) dX0_valueInX_68 ⟨Nat.zero_le _, Nat.zero_le _⟩ rfl ?_
      refine zi_top (fun v3 ev3 => ?_)
      refine lv_istore (lv' := [(6, .int (iZ v3)), (0, .ref o), (1, .int (iZ f)), (2, .int (iZ c1)), (3, .int (iZ x)), (4, .int (iZ y)), (5, .int (iZ u)), (7, .int (iZ i))]) hx hb dX0_valueInX_71 hl (by decide) rfl (fun ls hl => ?_)
      refine zi_inc (lv' := [(7, .int (iZ (i + 1))), (6, .int (iZ v3)), (0, .ref o), (1, .int (iZ f)), (2, .int (iZ c1)), (3, .int (iZ x)), (4, .int (iZ y)), (5, .int (iZ u))]) hx hb dX0_valueInX_73 hl (k := 7) rfl (by decide) rfl (fun ls hl => ?_)
      refine lv_goto (tgt := 45) hx hb dX0_valueInX_76 (by decide) ?_
      exact ih45 (m45 - 1) (v3, i + 1) (by omega) (by refine ⟨by omega, by omega, ?_⟩; rw [show (i + 1 + 4).toNat = (i + 4).toNat + 1 by omega]; unfold loZ; rw [ev3, hI45.2.2, show (((i + 4).toNat : Nat) : Int) = i + 4 by omega, show i + 4 - 4 = i by omega]) ls (lv_sub hl [2, 3, 4, 5, 6, 7, 1, 0] rfl)
  · refine lv_iload hx hb dX0_valueInX_11 (lv_at hl 5 rfl) ?_
    refine zi_i2l hx hb dX0_valueInX_13 (by omega) ?_
    refine lv_iload_n hx hb dX0_valueInX_14 rfl (lv_at hl 3 rfl) ?_
    refine zi_i2l hx hb dX0_valueInX_15 (by omega) ?_
    refine zl_mul hx hb dX0_valueInX_16 ?_
    refine lv_aload_n hx hb dX0_valueInX_17 rfl (lv_at hl 0 rfl) ?_
    refine lv_iload_n hx hb dX0_valueInX_18 rfl (lv_at hl 1 rfl) ?_
    refine lv_iload_n hx hb dX0_valueInX_19 rfl (lv_at hl 2 rfl) ?_
    refine lv_iload hx hb dX0_valueInX_20 (lv_at hl 6 rfl) ?_
    refine rd_V (As := [.int (iZ f), .int (iZ c1), .int (iZ n)]) (rest := [.long (lZ (u * x))]) (st1 := [.int (iZ (nuZ F f c1 n)), .long (lZ (u * x))]) S (k_X0_number l D o q1 q2 cI tE tL F G k f c1 n (by omega) (by omega) (by omega)) tb_194 tb_196 ts_X0_number tb_1 tb_197 hd_X0_number ⟨rfl, rfl, by decide, by decide⟩ rX_bl (rX_mv hB) (rX_recv hB) rfl hl.1 rfl (Nat.le_of_ble_eq_true rfl) dX0_valueInX_22 ⟨Nat.zero_le _, Nat.zero_le _⟩ rfl ?_
    have hn25 := nuZ_rng hF f c1 n
    refine zi_i2l hx hb dX0_valueInX_25 (by omega) ?_
    refine zl_add hx hb dX0_valueInX_26 ?_
    refine rd_S (As := [.long (lZ ((u * x) + (nuZ F f c1 n)))]) (rest := []) (st1 := [.int (iZ (((u * x) + (nuZ F f c1 n)) % 32003))]) S (k_X0_reduce l ((u * x) + (nuZ F f c1 n)) (by omega)) tb_154 tb_155 tb_1 tb_156 hd_X0_reduce ⟨rfl, rfl, by decide, by decide⟩ bl_T (fun _ _ _ => trivial) rfl hl.1 rfl (Nat.le_of_ble_eq_true rfl) dX0_valueInX_27 ⟨Nat.zero_le _, Nat.zero_le _⟩ rfl ?_
    refine zi_top (fun v4 ev4 => ?_)
    refine lv_istore (lv' := [(5, .int (iZ v4)), (0, .ref o), (1, .int (iZ f)), (2, .int (iZ c1)), (3, .int (iZ x)), (4, .int (iZ y)), (6, .int (iZ n))]) hx hb dX0_valueInX_30 hl (by decide) rfl (fun ls hl => ?_)
    refine zi_inc (lv' := [(6, .int (iZ (n + (-1)))), (5, .int (iZ v4)), (0, .ref o), (1, .int (iZ f)), (2, .int (iZ c1)), (3, .int (iZ x)), (4, .int (iZ y))]) hx hb dX0_valueInX_32 hl (k := 6) rfl (by decide) rfl (fun ls hl => ?_)
    refine lv_goto (tgt := 6) hx hb dX0_valueInX_35 (by decide) ?_
    exact ih6 (m6 - 1) (v4, n + (-1)) (by omega) (by refine ⟨by omega, by omega, ?_⟩; rw [show (4 - (n + -1)).toNat = (4 - n).toNat + 1 by omega]; unfold upZ; rw [ev4, hI6.2.2, show (((4 - n).toNat : Nat) : Int) = 4 - n by omega, show 4 - (4 - n) = n by omega]) ls (lv_sub hl [2, 3, 4, 5, 6, 1, 0] rfl)
def ptZ (G : Nat → Int) : Int := if ∀ c : Nat, c < 15 → ∀ j : Nat, j < 17 → wnZ G c ((j : Int) - 8) ≠ 0 → (knZ c = 1 ∧ 4 ≤ j ∧ j ≤ 12) then 0 else 1
theorem ptZ_or (G : Nat → Int) : ptZ G = 0 ∨ ptZ G = 1 := by unfold ptZ; split <;> omega
set_option maxHeartbeats 4000000 in
set_option maxRecDepth 100000 in
theorem k_X0_productIsTooFar (l : Launch) (D : va_G) (o q1 q2 : Nat) (cI : ClassId) (tE tL : Nat) (F G : Nat → Int) (k : Int)  (hG : ∀ j, 0 ≤ G j ∧ G j < 32003) : rd_M l yX0_productIsTooFar cX0_productIsTooFar 4 (some .boolean) ({ frames := 2, cells := 0, slots := 0, locals := 44 }) [.ref o] (rX D o q1 q2 cI tE tL F G k) (some (.int (iZ (ptZ G)))) := by
  refine rd_of RX0 (by decide) rfl (Nat.le_of_ble_eq_true rfl) ?_
  intro p e s m below meth c S hr hlk hB ls hl
  obtain ⟨hx, hb, hml, hown, hT⟩ := id S
  have hl : lv_has ls 4 [(0, .ref o)] := hl
  obtain ⟨hP, hK, hsX⟩ := id hB
  obtain ⟨⟨hZE, hTE⟩, hZL, hTL⟩ := id hsX
  refine zi_const hx hb 0 dX0_productIsTooFar_0 ?_
  refine lv_istore_n (lv' := [(1, .int (iZ 0)), (0, .ref o)]) hx hb dX0_productIsTooFar_1 rfl hl (by decide) rfl (fun ls hl => ?_)
  refine lp_go (nL := 4) (α := Int) (fun z => [(0, .ref o), (1, .int (iZ z))]) (fun m2 z => 0 ≤ z ∧ z + (m2 : Int) = 15 ∧ ∀ i : Nat, (i : Int) < z → ∀ j : Nat, j < 17 → wnZ G i ((j : Int) - 8) ≠ 0 → (knZ i = 1 ∧ 4 ≤ j ∧ j ≤ 12)) ?_ 15 ((0 : Int)) (by refine ⟨by omega, by omega, ?_⟩; intro i hi; omega) ls (lv_sub hl [1, 0] rfl)
  intro m2 z1 hI2 ih2 ls hl
  obtain ⟨c1, rfl⟩ : ∃ y : Int, y = z1 := ⟨_, rfl⟩
  have hl : lv_has ls 4 [(0, .ref o), (1, .int (iZ c1))] := hl
  have hI2 : 0 ≤ c1 ∧ c1 + (m2 : Int) = 15 ∧ ∀ i : Nat, (i : Int) < c1 → ∀ j : Nat, j < 17 → wnZ G i ((j : Int) - 8) ≠ 0 → (knZ i = 1 ∧ 4 ≤ j ∧ j ≤ 12) := hI2
  refine lv_iload_n hx hb dX0_productIsTooFar_2 rfl (lv_at hl 1 rfl) ?_
  refine zi_bi hx hb 15 dX0_productIsTooFar_3 (by decide) ?_
  refine zi_cge (tgt := 56) hx hb dX0_productIsTooFar_5 (by decide) (by omega) (by omega) (fun hc5 => ?_) (fun hc5 => ?_)
  · refine zi_const hx hb 0 dX0_productIsTooFar_56 ?_
    exact rd_zret hx hb hr hlk (congrArg (fun z => some (Value.int (iZ z))) (show (ptZ G : Int) = 0 from by unfold ptZ; rw [if_pos]; intro i hi; exact hI2.2.2 i (by omega))) (by decide) dX0_productIsTooFar_57
  · refine lv_iload_n hx hb dX0_productIsTooFar_8 rfl (lv_at hl 1 rfl) ?_
    refine rd_S (As := [.int (iZ c1)]) (rest := []) (st1 := [.int (iZ (knZ c1))]) S (k_X0_isKnownWideKind l tE tL c1 (by omega)) tb_254 tb_255 tb_1 tb_256 hd_X0_isKnownWideKind ⟨rfl, rfl, by decide, by decide⟩ sB_bl (sB_mv hsX) rfl hl.1 rfl (Nat.le_of_ble_eq_true rfl) dX0_productIsTooFar_9 ⟨Nat.zero_le _, Nat.zero_le _⟩ rfl ?_
    have hkn12 := knZ_or c1
    refine zi_top (fun v2 ev2 => ?_)
    refine lv_istore_n (lv' := [(2, .int (iZ v2)), (0, .ref o), (1, .int (iZ c1))]) hx hb dX0_productIsTooFar_12 rfl hl (by decide) rfl (fun ls hl => ?_)
    refine zi_bi hx hb (-8) dX0_productIsTooFar_13 (by decide) ?_
    refine lv_istore_n (lv' := [(3, .int (iZ (-8))), (2, .int (iZ v2)), (0, .ref o), (1, .int (iZ c1))]) hx hb dX0_productIsTooFar_15 rfl hl (by decide) rfl (fun ls hl => ?_)
    refine lp_go (nL := 4) (α := Int) (fun z => [(0, .ref o), (1, .int (iZ c1)), (2, .int (iZ v2)), (3, .int (iZ z))]) (fun m16 z => -8 ≤ z ∧ z + (m16 : Int) = 9 ∧ ∀ j : Nat, (j : Int) - 8 < z → wnZ G c1 ((j : Int) - 8) ≠ 0 → (knZ c1 = 1 ∧ 4 ≤ j ∧ j ≤ 12)) ?_ 17 (((-8) : Int)) (by refine ⟨by omega, by omega, ?_⟩; intro i hi; omega) ls (lv_sub hl [2, 3, 1, 0] rfl)
    intro m16 z3 hI16 ih16 ls hl
    obtain ⟨n, rfl⟩ : ∃ y : Int, y = z3 := ⟨_, rfl⟩
    have hl : lv_has ls 4 [(0, .ref o), (1, .int (iZ c1)), (2, .int (iZ v2)), (3, .int (iZ n))] := hl
    have hI16 : -8 ≤ n ∧ n + (m16 : Int) = 9 ∧ ∀ j : Nat, (j : Int) - 8 < n → wnZ G c1 ((j : Int) - 8) ≠ 0 → (knZ c1 = 1 ∧ 4 ≤ j ∧ j ≤ 12) := hI16
    refine lv_iload_n hx hb dX0_productIsTooFar_16 rfl (lv_at hl 3 rfl) ?_
    refine zi_bi hx hb 8 dX0_productIsTooFar_17 (by decide) ?_
    refine zi_cgt (tgt := 50) hx hb dX0_productIsTooFar_19 (by decide) (by omega) (by omega) (fun hc19 => ?_) (fun hc19 => ?_)
    · refine zi_inc (lv' := [(1, .int (iZ (c1 + 1))), (0, .ref o), (2, .int (iZ v2)), (3, .int (iZ n))]) hx hb dX0_productIsTooFar_50 hl (k := 1) rfl (by decide) rfl (fun ls hl => ?_)
      refine lv_goto (tgt := 2) hx hb dX0_productIsTooFar_53 (by decide) ?_
      exact ih2 (m2 - 1) (c1 + 1) (by omega) (by refine ⟨by omega, by omega, ?_⟩; intro i hi; rcases (show (i : Int) < c1 ∨ (i : Int) = c1 by omega) with h3 | h3; exact hI2.2.2 i h3; rw [h3]; intro j hj; exact hI16.2.2 j (by omega)) ls (lv_sub hl [1, 0] rfl)
    · refine lv_aload_n hx hb dX0_productIsTooFar_22 rfl (lv_at hl 0 rfl) ?_
      refine lv_iload_n hx hb dX0_productIsTooFar_23 rfl (lv_at hl 1 rfl) ?_
      refine lv_iload_n hx hb dX0_productIsTooFar_24 rfl (lv_at hl 3 rfl) ?_
      refine rd_V (As := [.int (iZ c1), .int (iZ n)]) (rest := []) (st1 := [.int (iZ (wnZ G c1 n))]) S (k_X0_wideNumber l D o q1 q2 cI tE tL F G k c1 n (by omega) (by omega)) tb_257 tb_259 ts_X0_wideNumber tb_1 tb_260 hd_X0_wideNumber ⟨rfl, rfl, by decide, by decide⟩ rX_bl (rX_mv hB) (rX_recv hB) rfl hl.1 rfl (Nat.le_of_ble_eq_true rfl) dX0_productIsTooFar_25 ⟨Nat.zero_le _, Nat.zero_le _⟩ rfl ?_
      have hn28 := wnZ_rng hG c1 n
      refine zi_feq (tgt := 44) hx hb dX0_productIsTooFar_28 (by decide) (by omega) (fun hc28 => ?_) (fun hc28 => ?_)
      · refine zi_inc (lv' := [(3, .int (iZ (n + 1))), (0, .ref o), (1, .int (iZ c1)), (2, .int (iZ v2))]) hx hb dX0_productIsTooFar_44 hl (k := 3) rfl (by decide) rfl (fun ls hl => ?_)
        refine lv_goto (tgt := 16) hx hb dX0_productIsTooFar_47 (by decide) ?_
        exact ih16 (m16 - 1) (n + 1) (by omega) (by refine ⟨by omega, by omega, ?_⟩; intro i hi; rcases (show (i : Int) - 8 < n ∨ (i : Int) - 8 = n by omega) with h3 | h3; exact hI16.2.2 i h3; rw [h3]; omega) ls (lv_sub hl [1, 2, 3, 0] rfl)
      · refine lv_iload_n hx hb dX0_productIsTooFar_31 rfl (lv_at hl 2 rfl) ?_
        refine zi_feq (tgt := 42) hx hb dX0_productIsTooFar_32 (by decide) (by omega) (fun hc32 => ?_) (fun hc32 => ?_)
        · refine zi_const hx hb 1 dX0_productIsTooFar_42 ?_
          exact rd_zret hx hb hr hlk (congrArg (fun z => some (Value.int (iZ z))) (show (ptZ G : Int) = 1 from by unfold ptZ; rw [if_neg]; intro h; have h2 := h c1.toNat (by omega) (n + 8).toNat (by omega); rw [Int.toNat_of_nonneg (by omega), Int.toNat_of_nonneg (by omega), show n + 8 - 8 = n by omega] at h2; omega)) (by decide) dX0_productIsTooFar_43
        · refine lv_iload_n hx hb dX0_productIsTooFar_35 rfl (lv_at hl 3 rfl) ?_
          refine rd_S (As := [.int (iZ n)]) (rest := []) (st1 := [.int (iZ (pwZ n))]) S (k_X0_isPower l n (by omega)) tb_119 tb_120 tb_1 tb_121 hd_X0_isPower ⟨rfl, rfl, by decide, by decide⟩ bl_T (fun _ _ _ => trivial) rfl hl.1 rfl (Nat.le_of_ble_eq_true rfl) dX0_productIsTooFar_36 ⟨Nat.zero_le _, Nat.zero_le _⟩ rfl ?_
          have hf39 := pwZ_or n
          refine zi_fne (tgt := 44) hx hb dX0_productIsTooFar_39 (by decide) (by omega) (fun hc39 => ?_) (fun hc39 => ?_)
          · refine zi_inc (lv' := [(3, .int (iZ (n + 1))), (0, .ref o), (1, .int (iZ c1)), (2, .int (iZ v2))]) hx hb dX0_productIsTooFar_44 hl (k := 3) rfl (by decide) rfl (fun ls hl => ?_)
            refine lv_goto (tgt := 16) hx hb dX0_productIsTooFar_47 (by decide) ?_
            exact ih16 (m16 - 1) (n + 1) (by omega) (by refine ⟨by omega, by omega, ?_⟩; intro i hi; rcases (show (i : Int) - 8 < n ∨ (i : Int) - 8 = n by omega) with h3 | h3; exact hI16.2.2 i h3; rw [h3]; omega) ls (lv_sub hl [1, 2, 3, 0] rfl)
          · refine zi_const hx hb 1 dX0_productIsTooFar_42 ?_
            exact rd_zret hx hb hr hlk (congrArg (fun z => some (Value.int (iZ z))) (show (ptZ G : Int) = 1 from by unfold ptZ; rw [if_neg]; intro h; have h2 := h c1.toNat (by omega) (n + 8).toNat (by omega); rw [Int.toNat_of_nonneg (by omega), Int.toNat_of_nonneg (by omega), show n + 8 - 8 = n by omega] at h2; omega)) (by decide) dX0_productIsTooFar_43
end
section
set_option maxHeartbeats 4000000 in
set_option maxRecDepth 100000 in
theorem k_X0_at (l : Launch) (D : va_G) (o q1 q2 : Nat) (cI : ClassId) (tE tL : Nat) (F G : Nat → Int) (k : Int) (f c1 n : Int) (hF : ∀ j, 0 ≤ F j ∧ F j < 32003) (hf : 0 ≤ f ∧ f < k ∧ k ≤ 60) (hc1 : 0 ≤ c1 ∧ c1 < 8) (hn : -4 ≤ n ∧ n ≤ 4) : rd_M l yX0_at cX0_at 4 (some .int) ({ frames := 2, cells := 0, slots := 0, locals := 45 }) [.ref o, .int (iZ f), .int (iZ c1), .int (iZ n)] (rX D o q1 q2 cI tE tL F G k) (some (.int (iZ (nuZ F f c1 n)))) := by
  refine rd_of RX0 (by decide) rfl (Nat.le_of_ble_eq_true rfl) ?_
  intro p e s m below meth c S hr hlk hB ls hl
  obtain ⟨hx, hb, hml, hown, hT⟩ := id S
  have hl : lv_has ls 4 [(0, .ref o), (1, .int (iZ f)), (2, .int (iZ c1)), (3, .int (iZ n))] := hl
  obtain ⟨hP, hK, hsX⟩ := id hB
  obtain ⟨⟨hZE, hTE⟩, hZL, hTL⟩ := id hsX
  refine lv_aload_n hx hb dX0_at_0 rfl (lv_at hl 0 rfl) ?_
  refine lv_iload_n hx hb dX0_at_1 rfl (lv_at hl 1 rfl) ?_
  refine rd_V (As := [.int (iZ f)]) (rest := []) (st1 := []) S (k_X0_needElement l D o q1 q2 cI tE tL F G k f (by omega)) tb_170 tb_172 ts_X0_needElement tb_1 tb_173 hd_X0_needElement ⟨rfl, rfl, by decide, by decide⟩ rX_bl (rX_mv hB) (rX_recv hB) rfl hl.1 rfl (Nat.le_of_ble_eq_true rfl) dX0_at_2 ⟨Nat.zero_le _, Nat.zero_le _⟩ rfl ?_
  refine lv_iload_n hx hb dX0_at_5 rfl (lv_at hl 2 rfl) ?_
  refine rd_S (As := [.int (iZ c1)]) (rest := []) (st1 := []) S (k_X0_needKind l c1 (by omega)) tb_42 tb_43 tb_1 tb_44 hd_X0_needKind ⟨rfl, rfl, by decide, by decide⟩ bl_T (fun _ _ _ => trivial) rfl hl.1 rfl (Nat.le_of_ble_eq_true rfl) dX0_at_6 ⟨Nat.zero_le _, Nat.zero_le _⟩ rfl ?_
  refine lv_iload_n hx hb dX0_at_9 rfl (lv_at hl 3 rfl) ?_
  refine rd_S (As := [.int (iZ n)]) (rest := []) (st1 := []) S (k_X0_needPower l n (by omega)) tb_116 tb_117 tb_1 tb_118 hd_X0_needPower ⟨rfl, rfl, by decide, by decide⟩ bl_T (fun _ _ _ => trivial) rfl hl.1 rfl (Nat.le_of_ble_eq_true rfl) dX0_at_10 ⟨Nat.zero_le _, Nat.zero_le _⟩ rfl ?_
  refine lv_aload_n hx hb dX0_at_13 rfl (lv_at hl 0 rfl) ?_
  refine lv_iload_n hx hb dX0_at_14 rfl (lv_at hl 1 rfl) ?_
  refine lv_iload_n hx hb dX0_at_15 rfl (lv_at hl 2 rfl) ?_
  refine lv_iload_n hx hb dX0_at_16 rfl (lv_at hl 3 rfl) ?_
  refine rd_V (As := [.int (iZ f), .int (iZ c1), .int (iZ n)]) (rest := []) (st1 := [.int (iZ (nuZ F f c1 n))]) S (k_X0_number l D o q1 q2 cI tE tL F G k f c1 n (by omega) (by omega) (by omega)) tb_194 tb_196 ts_X0_number tb_1 tb_197 hd_X0_number ⟨rfl, rfl, by decide, by decide⟩ rX_bl (rX_mv hB) (rX_recv hB) rfl hl.1 rfl (Nat.le_of_ble_eq_true rfl) dX0_at_17 ⟨Nat.zero_le _, Nat.zero_le _⟩ rfl ?_
  have hn20 := nuZ_rng hF f c1 n
  exact rd_iret hx hb hr hlk (congrArg (fun z => some (Value.int (iZ z))) (show (nuZ F f c1 n : Int) = nuZ F f c1 n from rfl)) dX0_at_20
def tmZ (F : Nat → Int) (f c : Int) : Int := if c = -1 then cnZ F (f * 72).toNat 72 else cnZ F (f * 72 + c * 9).toNat 9
set_option maxHeartbeats 4000000 in
set_option maxRecDepth 100000 in
theorem k_X0_terms (l : Launch) (D : va_G) (o q1 q2 : Nat) (cI : ClassId) (tE tL : Nat) (F G : Nat → Int) (k : Int) (f c1 : Int) (hF : ∀ j, 0 ≤ F j ∧ F j < 32003) (hf : 0 ≤ f ∧ f < k ∧ k ≤ 60) (hc1 : -1 ≤ c1 ∧ c1 < 8) : rd_M l yX0_terms cX0_terms 3 (some .int) ({ frames := 3, cells := 0, slots := 0, locals := 71 }) [.ref o, .int (iZ f), .int (iZ c1)] (rX D o q1 q2 cI tE tL F G k) (some (.int (iZ (tmZ F f c1)))) := by
  refine rd_of RX0 (by decide) rfl (Nat.le_of_ble_eq_true rfl) ?_
  intro p e s m below meth c S hr hlk hB ls hl
  obtain ⟨hx, hb, hml, hown, hT⟩ := id S
  have hl : lv_has ls 3 [(0, .ref o), (1, .int (iZ f)), (2, .int (iZ c1))] := hl
  obtain ⟨hP, hK, hsX⟩ := id hB
  obtain ⟨⟨hZE, hTE⟩, hZL, hTL⟩ := id hsX
  refine lv_aload_n hx hb dX0_terms_0 rfl (lv_at hl 0 rfl) ?_
  refine lv_iload_n hx hb dX0_terms_1 rfl (lv_at hl 1 rfl) ?_
  refine rd_V (As := [.int (iZ f)]) (rest := []) (st1 := []) S (k_X0_needElement l D o q1 q2 cI tE tL F G k f (by omega)) tb_170 tb_172 ts_X0_needElement tb_1 tb_173 hd_X0_needElement ⟨rfl, rfl, by decide, by decide⟩ rX_bl (rX_mv hB) (rX_recv hB) rfl hl.1 rfl (Nat.le_of_ble_eq_true rfl) dX0_terms_2 ⟨Nat.zero_le _, Nat.zero_le _⟩ rfl ?_
  refine lv_iload_n hx hb dX0_terms_5 rfl (lv_at hl 2 rfl) ?_
  refine zi_const hx hb (-1) dX0_terms_6 ?_
  refine zi_cne (tgt := 19) hx hb dX0_terms_7 (by decide) (by omega) (by omega) (fun hc7 => ?_) (fun hc7 => ?_)
  · refine lv_iload_n hx hb dX0_terms_19 rfl (lv_at hl 2 rfl) ?_
    refine rd_S (As := [.int (iZ c1)]) (rest := []) (st1 := []) S (k_X0_needKind l c1 (by omega)) tb_42 tb_43 tb_1 tb_44 hd_X0_needKind ⟨rfl, rfl, by decide, by decide⟩ bl_T (fun _ _ _ => trivial) rfl hl.1 rfl (Nat.le_of_ble_eq_true rfl) dX0_terms_20 ⟨Nat.zero_le _, Nat.zero_le _⟩ rfl ?_
    refine lv_aload_n hx hb dX0_terms_23 rfl (lv_at hl 0 rfl) ?_
    refine lv_iload_n hx hb dX0_terms_24 rfl (lv_at hl 1 rfl) ?_
    refine lv_iload_n hx hb dX0_terms_25 rfl (lv_at hl 2 rfl) ?_
    refine lv_iload_n hx hb dX0_terms_26 rfl (lv_at hl 2 rfl) ?_
    refine rd_V (As := [.int (iZ f), .int (iZ c1), .int (iZ c1)]) (rest := []) (st1 := [.int (iZ (cnZ F (f * 72 + c1 * 9).toNat (Int.toNat ((c1 - c1 + 1) * 9))))]) S (k_X0_countTerms l D o q1 q2 cI tE tL F G k f c1 c1 hF (by omega) (by omega)) tb_216 tb_218 ts_X0_countTerms tb_1 tb_219 hd_X0_countTerms ⟨rfl, rfl, by decide, by decide⟩ rX_bl (rX_mv hB) (rX_recv hB) rfl hl.1 rfl (Nat.le_of_ble_eq_true rfl) dX0_terms_27 ⟨Nat.zero_le _, Nat.zero_le _⟩ rfl ?_
    have hct30 := cnZ_rng F (f * 72 + c1 * 9).toNat (Int.toNat ((c1 - c1 + 1) * 9))
    exact rd_iret hx hb hr hlk (congrArg (fun z => some (Value.int (iZ z))) (show (tmZ F f c1 : Int) = cnZ F (f * 72 + c1 * 9).toNat (Int.toNat ((c1 - c1 + 1) * 9)) from by unfold tmZ; rw [if_neg (by omega), show (c1 - c1 + 1) * 9 = 9 by omega]; rfl)) dX0_terms_30
  · refine lv_aload_n hx hb dX0_terms_10 rfl (lv_at hl 0 rfl) ?_
    refine lv_iload_n hx hb dX0_terms_11 rfl (lv_at hl 1 rfl) ?_
    refine zi_const hx hb 0 dX0_terms_12 ?_
    refine zi_bi hx hb 7 dX0_terms_13 (by decide) ?_
    refine rd_V (As := [.int (iZ f), .int (iZ 0), .int (iZ 7)]) (rest := []) (st1 := [.int (iZ (cnZ F (f * 72 + 0 * 9).toNat (Int.toNat ((7 - 0 + 1) * 9))))]) S (k_X0_countTerms l D o q1 q2 cI tE tL F G k f 0 7 hF (by omega) (by omega)) tb_216 tb_218 ts_X0_countTerms tb_1 tb_219 hd_X0_countTerms ⟨rfl, rfl, by decide, by decide⟩ rX_bl (rX_mv hB) (rX_recv hB) rfl hl.1 rfl (Nat.le_of_ble_eq_true rfl) dX0_terms_15 ⟨Nat.zero_le _, Nat.zero_le _⟩ rfl ?_
    have hct18 := cnZ_rng F (f * 72 + 0 * 9).toNat (Int.toNat ((7 - 0 + 1) * 9))
    exact rd_iret hx hb hr hlk (congrArg (fun z => some (Value.int (iZ z))) (show (tmZ F f c1 : Int) = cnZ F (f * 72 + 0 * 9).toNat (Int.toNat ((7 - 0 + 1) * 9)) from by unfold tmZ; rw [if_pos (by omega), show f * 72 + 0 * 9 = f * 72 by omega]; rfl)) dX0_terms_18
def dgZ (F : Nat → Int) (f c : Int) : Nat → Int
  | 0 => -5
  | m + 1 => if nuZ F f c ((m : Int) - 4) = 0 then dgZ F f c m else (m : Int) - 4
theorem dg_at {F : Nat → Int} {f c n : Int} (h : -4 ≤ n) : dgZ F f c (n + 5).toNat = if nuZ F f c n = 0 then dgZ F f c (n + 4).toNat else n := by
  rw [show (n + 5).toNat = (n + 4).toNat + 1 by omega]
  unfold dgZ
  rw [show (((n + 4).toNat : Nat) : Int) - 4 = n by omega]
  cases h9 : (n + 4).toNat with
  | zero => rfl
  | succ q => rfl
set_option maxHeartbeats 4000000 in
set_option maxRecDepth 100000 in
theorem k_X0_degree (l : Launch) (D : va_G) (o q1 q2 : Nat) (cI : ClassId) (tE tL : Nat) (F G : Nat → Int) (k : Int) (f c1 : Int) (hF : ∀ j, 0 ≤ F j ∧ F j < 32003) (hf : 0 ≤ f ∧ f < k ∧ k ≤ 60) (hc1 : 0 ≤ c1 ∧ c1 < 8) : rd_M l yX0_degree cX0_degree 4 (some .int) ({ frames := 2, cells := 0, slots := 0, locals := 45 }) [.ref o, .int (iZ f), .int (iZ c1)] (rX D o q1 q2 cI tE tL F G k) (some (.int (iZ (dgZ F f c1 9)))) := by
  refine rd_of RX0 (by decide) rfl (Nat.le_of_ble_eq_true rfl) ?_
  intro p e s m below meth c S hr hlk hB ls hl
  obtain ⟨hx, hb, hml, hown, hT⟩ := id S
  have hl : lv_has ls 4 [(0, .ref o), (1, .int (iZ f)), (2, .int (iZ c1))] := hl
  obtain ⟨hP, hK, hsX⟩ := id hB
  obtain ⟨⟨hZE, hTE⟩, hZL, hTL⟩ := id hsX
  refine lv_aload_n hx hb dX0_degree_0 rfl (lv_at hl 0 rfl) ?_
  refine lv_iload_n hx hb dX0_degree_1 rfl (lv_at hl 1 rfl) ?_
  refine rd_V (As := [.int (iZ f)]) (rest := []) (st1 := []) S (k_X0_needElement l D o q1 q2 cI tE tL F G k f (by omega)) tb_170 tb_172 ts_X0_needElement tb_1 tb_173 hd_X0_needElement ⟨rfl, rfl, by decide, by decide⟩ rX_bl (rX_mv hB) (rX_recv hB) rfl hl.1 rfl (Nat.le_of_ble_eq_true rfl) dX0_degree_2 ⟨Nat.zero_le _, Nat.zero_le _⟩ rfl ?_
  refine lv_iload_n hx hb dX0_degree_5 rfl (lv_at hl 2 rfl) ?_
  refine rd_S (As := [.int (iZ c1)]) (rest := []) (st1 := []) S (k_X0_needKind l c1 (by omega)) tb_42 tb_43 tb_1 tb_44 hd_X0_needKind ⟨rfl, rfl, by decide, by decide⟩ bl_T (fun _ _ _ => trivial) rfl hl.1 rfl (Nat.le_of_ble_eq_true rfl) dX0_degree_6 ⟨Nat.zero_le _, Nat.zero_le _⟩ rfl ?_
  refine zi_const hx hb 4 dX0_degree_9 ?_
  refine lv_istore_n (lv' := [(3, .int (iZ 4)), (0, .ref o), (1, .int (iZ f)), (2, .int (iZ c1))]) hx hb dX0_degree_10 rfl hl (by decide) rfl (fun ls hl => ?_)
  refine lp_go (nL := 4) (α := Int) (fun z => [(0, .ref o), (1, .int (iZ f)), (2, .int (iZ c1)), (3, .int (iZ z))]) (fun m11 z => z ≤ 4 ∧ z + 5 = (m11 : Int) ∧ dgZ F f c1 9 = dgZ F f c1 (z + 5).toNat) ?_ 9 ((4 : Int)) (by exact ⟨by omega, by omega, rfl⟩) ls (lv_sub hl [1, 2, 3, 0] rfl)
  intro m11 z1 hI11 ih11 ls hl
  obtain ⟨n, rfl⟩ : ∃ y : Int, y = z1 := ⟨_, rfl⟩
  have hl : lv_has ls 4 [(0, .ref o), (1, .int (iZ f)), (2, .int (iZ c1)), (3, .int (iZ n))] := hl
  have hI11 : n ≤ 4 ∧ n + 5 = (m11 : Int) ∧ dgZ F f c1 9 = dgZ F f c1 (n + 5).toNat := hI11
  refine lv_iload_n hx hb dX0_degree_11 rfl (lv_at hl 3 rfl) ?_
  refine zi_bi hx hb (-4) dX0_degree_12 (by decide) ?_
  refine zi_clt (tgt := 35) hx hb dX0_degree_14 (by decide) (by omega) (by omega) (fun hc14 => ?_) (fun hc14 => ?_)
  · refine zi_bi hx hb (-5) dX0_degree_35 (by decide) ?_
    exact rd_iret hx hb hr hlk (congrArg (fun z => some (Value.int (iZ z))) (show (dgZ F f c1 9 : Int) = (-5) from by rw [hI11.2.2, show (n + 5).toNat = 0 by omega]; rfl)) dX0_degree_37
  · refine lv_aload_n hx hb dX0_degree_17 rfl (lv_at hl 0 rfl) ?_
    refine lv_iload_n hx hb dX0_degree_18 rfl (lv_at hl 1 rfl) ?_
    refine lv_iload_n hx hb dX0_degree_19 rfl (lv_at hl 2 rfl) ?_
    refine lv_iload_n hx hb dX0_degree_20 rfl (lv_at hl 3 rfl) ?_
    refine rd_V (As := [.int (iZ f), .int (iZ c1), .int (iZ n)]) (rest := []) (st1 := [.int (iZ (nuZ F f c1 n))]) S (k_X0_number l D o q1 q2 cI tE tL F G k f c1 n (by omega) (by omega) (by omega)) tb_194 tb_196 ts_X0_number tb_1 tb_197 hd_X0_number ⟨rfl, rfl, by decide, by decide⟩ rX_bl (rX_mv hB) (rX_recv hB) rfl hl.1 rfl (Nat.le_of_ble_eq_true rfl) dX0_degree_21 ⟨Nat.zero_le _, Nat.zero_le _⟩ rfl ?_
    have hn24 := nuZ_rng hF f c1 n
    refine zi_feq (tgt := 29) hx hb dX0_degree_24 (by decide) (by omega) (fun hc24 => ?_) (fun hc24 => ?_)
    · refine zi_inc (lv' := [(3, .int (iZ (n + (-1)))), (0, .ref o), (1, .int (iZ f)), (2, .int (iZ c1))]) hx hb dX0_degree_29 hl (k := 3) rfl (by decide) rfl (fun ls hl => ?_)
      refine lv_goto (tgt := 11) hx hb dX0_degree_32 (by decide) ?_
      exact ih11 (m11 - 1) (n + (-1)) (by omega) (by refine ⟨by omega, by omega, ?_⟩; rw [hI11.2.2, dg_at (by omega), if_pos (by omega)]; exact congrArg _ (by omega)) ls (lv_sub hl [1, 2, 3, 0] rfl)
    · refine lv_iload_n hx hb dX0_degree_27 rfl (lv_at hl 3 rfl) ?_
      exact rd_iret hx hb hr hlk (congrArg (fun z => some (Value.int (iZ z))) (show (dgZ F f c1 9 : Int) = n from by rw [hI11.2.2, dg_at (by omega), if_neg (by omega)])) dX0_degree_28
set_option maxHeartbeats 4000000 in
set_option maxRecDepth 100000 in
theorem k_X0_rest (l : Launch) (D : va_G) (o q1 q2 : Nat) (cI : ClassId) (tE tL : Nat) (F G : Nat → Int) (k : Int) (f c1 : Int) (hF : ∀ j, 0 ≤ F j ∧ F j < 32003) (hf : 0 ≤ f ∧ f < k ∧ k ≤ 60) (hc1 : 0 ≤ c1 ∧ c1 < 8) : rd_M l yX0_rest cX0_rest 3 (some .int) ({ frames := 5, cells := 0, slots := 0, locals := 113 }) [.ref o, .int (iZ f), .int (iZ c1)] (rX D o q1 q2 cI tE tL F G k) (some (.int (iZ (rsZ F f c1)))) := by
  refine rd_of RX0 (by decide) rfl (Nat.le_of_ble_eq_true rfl) ?_
  intro p e s m below meth c S hr hlk hB ls hl
  obtain ⟨hx, hb, hml, hown, hT⟩ := id S
  have hl : lv_has ls 3 [(0, .ref o), (1, .int (iZ f)), (2, .int (iZ c1))] := hl
  obtain ⟨hP, hK, hsX⟩ := id hB
  obtain ⟨⟨hZE, hTE⟩, hZL, hTL⟩ := id hsX
  refine lv_aload_n hx hb dX0_rest_0 rfl (lv_at hl 0 rfl) ?_
  refine lv_iload_n hx hb dX0_rest_1 rfl (lv_at hl 1 rfl) ?_
  refine rd_V (As := [.int (iZ f)]) (rest := []) (st1 := []) S (k_X0_needElement l D o q1 q2 cI tE tL F G k f (by omega)) tb_170 tb_172 ts_X0_needElement tb_1 tb_173 hd_X0_needElement ⟨rfl, rfl, by decide, by decide⟩ rX_bl (rX_mv hB) (rX_recv hB) rfl hl.1 rfl (Nat.le_of_ble_eq_true rfl) dX0_rest_2 ⟨Nat.zero_le _, Nat.zero_le _⟩ rfl ?_
  refine lv_iload_n hx hb dX0_rest_5 rfl (lv_at hl 2 rfl) ?_
  refine rd_S (As := [.int (iZ c1)]) (rest := []) (st1 := []) S (k_X0_needKind l c1 (by omega)) tb_42 tb_43 tb_1 tb_44 hd_X0_needKind ⟨rfl, rfl, by decide, by decide⟩ bl_T (fun _ _ _ => trivial) rfl hl.1 rfl (Nat.le_of_ble_eq_true rfl) dX0_rest_6 ⟨Nat.zero_le _, Nat.zero_le _⟩ rfl ?_
  refine lv_aload_n hx hb dX0_rest_9 rfl (lv_at hl 0 rfl) ?_
  refine lv_iload_n hx hb dX0_rest_10 rfl (lv_at hl 1 rfl) ?_
  refine lv_iload_n hx hb dX0_rest_11 rfl (lv_at hl 2 rfl) ?_
  refine rd_V (As := [.int (iZ f), .int (iZ c1)]) (rest := []) (st1 := [.int (iZ (rsZ F f c1))]) S (k_X0_restOf l D o q1 q2 cI tE tL F G k f c1 hF (by omega) (by omega)) tb_297 tb_299 ts_X0_restOf tb_1 tb_300 hd_X0_restOf ⟨rfl, rfl, by decide, by decide⟩ rX_bl (rX_mv hB) (rX_recv hB) rfl hl.1 rfl (Nat.le_of_ble_eq_true rfl) dX0_rest_12 ⟨Nat.zero_le _, Nat.zero_le _⟩ rfl ?_
  have hrs15 := rsZ_rng F f c1
  exact rd_iret hx hb hr hlk (congrArg (fun z => some (Value.int (iZ z))) (show (rsZ F f c1 : Int) = rsZ F f c1 from rfl)) dX0_rest_15
def smZ (F : Nat → Int) (f g : Int) : Int := if ∀ j : Nat, j < 72 → F ((f * 72).toNat + j) = F ((g * 72).toNat + j) then 1 else 0
theorem nu_lin {F : Nat → Int} {f c n : Int} (hf : 0 ≤ f ∧ f < 60) (hc : 0 ≤ c ∧ c < 8) (hn : -4 ≤ n ∧ n ≤ 4) : nuZ F f c n = F ((f * 72).toNat + (c * 9 + n + 4).toNat) := by
  unfold nuZ
  rw [if_pos (by omega), show (f * 72 + c * 9 + n + 4).toNat = (f * 72).toNat + (c * 9 + n + 4).toNat by omega]
set_option maxHeartbeats 4000000 in
set_option maxRecDepth 100000 in
theorem k_X0_same (l : Launch) (D : va_G) (o q1 q2 : Nat) (cI : ClassId) (tE tL : Nat) (F G : Nat → Int) (k : Int) (f g : Int) (hF : ∀ j, 0 ≤ F j ∧ F j < 32003) (hf : 0 ≤ f ∧ f < k ∧ k ≤ 60) (hg : 0 ≤ g ∧ g < k) : rd_M l yX0_same cX0_same 5 (some .boolean) ({ frames := 2, cells := 0, slots := 0, locals := 45 }) [.ref o, .int (iZ f), .int (iZ g)] (rX D o q1 q2 cI tE tL F G k) (some (.int (iZ (smZ F f g)))) := by
  refine rd_of RX0 (by decide) rfl (Nat.le_of_ble_eq_true rfl) ?_
  intro p e s m below meth c S hr hlk hB ls hl
  obtain ⟨hx, hb, hml, hown, hT⟩ := id S
  have hl : lv_has ls 5 [(0, .ref o), (1, .int (iZ f)), (2, .int (iZ g))] := hl
  obtain ⟨hP, hK, hsX⟩ := id hB
  obtain ⟨⟨hZE, hTE⟩, hZL, hTL⟩ := id hsX
  refine lv_aload_n hx hb dX0_same_0 rfl (lv_at hl 0 rfl) ?_
  refine lv_iload_n hx hb dX0_same_1 rfl (lv_at hl 1 rfl) ?_
  refine rd_V (As := [.int (iZ f)]) (rest := []) (st1 := []) S (k_X0_needElement l D o q1 q2 cI tE tL F G k f (by omega)) tb_170 tb_172 ts_X0_needElement tb_1 tb_173 hd_X0_needElement ⟨rfl, rfl, by decide, by decide⟩ rX_bl (rX_mv hB) (rX_recv hB) rfl hl.1 rfl (Nat.le_of_ble_eq_true rfl) dX0_same_2 ⟨Nat.zero_le _, Nat.zero_le _⟩ rfl ?_
  refine lv_aload_n hx hb dX0_same_5 rfl (lv_at hl 0 rfl) ?_
  refine lv_iload_n hx hb dX0_same_6 rfl (lv_at hl 2 rfl) ?_
  refine rd_V (As := [.int (iZ g)]) (rest := []) (st1 := []) S (k_X0_needElement l D o q1 q2 cI tE tL F G k g (by omega)) tb_170 tb_172 ts_X0_needElement tb_1 tb_173 hd_X0_needElement ⟨rfl, rfl, by decide, by decide⟩ rX_bl (rX_mv hB) (rX_recv hB) rfl hl.1 rfl (Nat.le_of_ble_eq_true rfl) dX0_same_7 ⟨Nat.zero_le _, Nat.zero_le _⟩ rfl ?_
  refine zi_const hx hb 0 dX0_same_10 ?_
  refine lv_istore_n (lv' := [(3, .int (iZ 0)), (0, .ref o), (1, .int (iZ f)), (2, .int (iZ g))]) hx hb dX0_same_11 rfl hl (by decide) rfl (fun ls hl => ?_)
  refine lp_go (nL := 5) (α := Int) (fun z => [(0, .ref o), (1, .int (iZ f)), (2, .int (iZ g)), (3, .int (iZ z))]) (fun m12 z => 0 ≤ z ∧ z + (m12 : Int) = 8 ∧ ∀ j : Nat, (j : Int) < z * 9 → F ((f * 72).toNat + j) = F ((g * 72).toNat + j)) ?_ 8 ((0 : Int)) (by refine ⟨by omega, by omega, ?_⟩; intro i hi; omega) ls (lv_sub hl [1, 2, 3, 0] rfl)
  intro m12 z1 hI12 ih12 ls hl
  obtain ⟨c1, rfl⟩ : ∃ y : Int, y = z1 := ⟨_, rfl⟩
  have hl : lv_has ls 5 [(0, .ref o), (1, .int (iZ f)), (2, .int (iZ g)), (3, .int (iZ c1))] := hl
  have hI12 : 0 ≤ c1 ∧ c1 + (m12 : Int) = 8 ∧ ∀ j : Nat, (j : Int) < c1 * 9 → F ((f * 72).toNat + j) = F ((g * 72).toNat + j) := hI12
  refine lv_iload_n hx hb dX0_same_12 rfl (lv_at hl 3 rfl) ?_
  refine zi_bi hx hb 8 dX0_same_13 (by decide) ?_
  refine zi_cge (tgt := 61) hx hb dX0_same_15 (by decide) (by omega) (by omega) (fun hc15 => ?_) (fun hc15 => ?_)
  · refine zi_const hx hb 1 dX0_same_61 ?_
    exact rd_zret hx hb hr hlk (congrArg (fun z => some (Value.int (iZ z))) (show (smZ F f g : Int) = 1 from by unfold smZ; rw [if_pos]; intro j hj; exact hI12.2.2 j (by omega))) (by decide) dX0_same_62
  · refine zi_bi hx hb (-4) dX0_same_18 (by decide) ?_
    refine lv_istore (lv' := [(4, .int (iZ (-4))), (0, .ref o), (1, .int (iZ f)), (2, .int (iZ g)), (3, .int (iZ c1))]) hx hb dX0_same_20 hl (by decide) rfl (fun ls hl => ?_)
    refine lp_go (nL := 5) (α := Int) (fun z => [(0, .ref o), (1, .int (iZ f)), (2, .int (iZ g)), (3, .int (iZ c1)), (4, .int (iZ z))]) (fun m22 z => -4 ≤ z ∧ z + (m22 : Int) = 5 ∧ ∀ j : Nat, (j : Int) < c1 * 9 + z + 4 → F ((f * 72).toNat + j) = F ((g * 72).toNat + j)) ?_ 9 (((-4) : Int)) (by refine ⟨by omega, by omega, ?_⟩; intro j hj; exact hI12.2.2 j (by omega)) ls (lv_sub hl [1, 2, 3, 4, 0] rfl)
    intro m22 z2 hI22 ih22 ls hl
    obtain ⟨n, rfl⟩ : ∃ y : Int, y = z2 := ⟨_, rfl⟩
    have hl : lv_has ls 5 [(0, .ref o), (1, .int (iZ f)), (2, .int (iZ g)), (3, .int (iZ c1)), (4, .int (iZ n))] := hl
    have hI22 : -4 ≤ n ∧ n + (m22 : Int) = 5 ∧ ∀ j : Nat, (j : Int) < c1 * 9 + n + 4 → F ((f * 72).toNat + j) = F ((g * 72).toNat + j) := hI22
    refine lv_iload hx hb dX0_same_22 (lv_at hl 4 rfl) ?_
    refine zi_const hx hb 4 dX0_same_24 ?_
    refine zi_cgt (tgt := 55) hx hb dX0_same_25 (by decide) (by omega) (by omega) (fun hc25 => ?_) (fun hc25 => ?_)
    · refine zi_inc (lv' := [(3, .int (iZ (c1 + 1))), (0, .ref o), (1, .int (iZ f)), (2, .int (iZ g)), (4, .int (iZ n))]) hx hb dX0_same_55 hl (k := 3) rfl (by decide) rfl (fun ls hl => ?_)
      refine lv_goto (tgt := 12) hx hb dX0_same_58 (by decide) ?_
      exact ih12 (m12 - 1) (c1 + 1) (by omega) (by refine ⟨by omega, by omega, ?_⟩; intro j hj; exact hI22.2.2 j (by omega)) ls (lv_sub hl [1, 2, 3, 0] rfl)
    · refine lv_aload_n hx hb dX0_same_28 rfl (lv_at hl 0 rfl) ?_
      refine lv_iload_n hx hb dX0_same_29 rfl (lv_at hl 1 rfl) ?_
      refine lv_iload_n hx hb dX0_same_30 rfl (lv_at hl 3 rfl) ?_
      refine lv_iload hx hb dX0_same_31 (lv_at hl 4 rfl) ?_
      refine rd_V (As := [.int (iZ f), .int (iZ c1), .int (iZ n)]) (rest := []) (st1 := [.int (iZ (nuZ F f c1 n))]) S (k_X0_number l D o q1 q2 cI tE tL F G k f c1 n (by omega) (by omega) (by omega)) tb_194 tb_196 ts_X0_number tb_1 tb_197 hd_X0_number ⟨rfl, rfl, by decide, by decide⟩ rX_bl (rX_mv hB) (rX_recv hB) rfl hl.1 rfl (Nat.le_of_ble_eq_true rfl) dX0_same_33 ⟨Nat.zero_le _, Nat.zero_le _⟩ rfl ?_
      have hn36 := nuZ_rng hF f c1 n
      refine lv_aload_n hx hb dX0_same_36 rfl (lv_at hl 0 rfl) ?_
      refine lv_iload_n hx hb dX0_same_37 rfl (lv_at hl 2 rfl) ?_
      refine lv_iload_n hx hb dX0_same_38 rfl (lv_at hl 3 rfl) ?_
      refine lv_iload hx hb dX0_same_39 (lv_at hl 4 rfl) ?_
      refine rd_V (As := [.int (iZ g), .int (iZ c1), .int (iZ n)]) (rest := [.int (iZ (nuZ F f c1 n))]) (st1 := [.int (iZ (nuZ F g c1 n)), .int (iZ (nuZ F f c1 n))]) S (k_X0_number l D o q1 q2 cI tE tL F G k g c1 n (by omega) (by omega) (by omega)) tb_194 tb_196 ts_X0_number tb_1 tb_197 hd_X0_number ⟨rfl, rfl, by decide, by decide⟩ rX_bl (rX_mv hB) (rX_recv hB) rfl hl.1 rfl (Nat.le_of_ble_eq_true rfl) dX0_same_41 ⟨Nat.zero_le _, Nat.zero_le _⟩ rfl ?_
      have hn44 := nuZ_rng hF g c1 n
      refine zi_ceq (tgt := 49) hx hb dX0_same_44 (by decide) (by omega) (by omega) (fun hc44 => ?_) (fun hc44 => ?_)
      · refine zi_inc (lv' := [(4, .int (iZ (n + 1))), (0, .ref o), (1, .int (iZ f)), (2, .int (iZ g)), (3, .int (iZ c1))]) hx hb dX0_same_49 hl (k := 4) rfl (by decide) rfl (fun ls hl => ?_)
        refine lv_goto (tgt := 22) hx hb dX0_same_52 (by decide) ?_
        exact ih22 (m22 - 1) (n + 1) (by omega) (by refine ⟨by omega, by omega, ?_⟩; intro j hj; rcases (show (j : Int) < c1 * 9 + n + 4 ∨ j = (c1 * 9 + n + 4).toNat by omega) with h3 | h3; exact hI22.2.2 j h3; rw [h3, ← nu_lin (F := F) (f := f) (c := c1) (n := n) (by omega) (by omega) (by omega), ← nu_lin (F := F) (f := g) (c := c1) (n := n) (by omega) (by omega) (by omega)]; exact hc44) ls (lv_sub hl [1, 2, 3, 4, 0] rfl)
      · refine zi_const hx hb 0 dX0_same_47 ?_
        exact rd_zret hx hb hr hlk (congrArg (fun z => some (Value.int (iZ z))) (show (smZ F f g : Int) = 0 from by unfold smZ; rw [if_neg]; intro h; have h2 := h (c1 * 9 + n + 4).toNat (by omega); rw [← nu_lin (F := F) (f := f) (c := c1) (n := n) (by omega) (by omega) (by omega), ← nu_lin (F := F) (f := g) (c := c1) (n := n) (by omega) (by omega) (by omega)] at h2; exact hc44 h2)) (by decide) dX0_same_48
def kvZ (b c d : Int) (z : Int) : Int := pwP b (lPz z).toNat * pwP (if ePz z < 0 then d else c) (if 0 ≤ ePz z then ePz z else -ePz z).toNat % 32003
def suZ (F : Nat → Int) (f a b c xi ei : Int) : Nat → Int
  | 0 => 0
  | m + 1 => (suZ F f a b c xi ei m + kvZ b c ei m * vxZ F f m a xi) % 32003
theorem suZ_rng (F : Nat → Int) (f a b c xi ei : Int) (m : Nat) : 0 ≤ suZ F f a b c xi ei m ∧ suZ F f a b c xi ei m < 32003 := by
  cases m with
  | zero => exact ⟨Int.le_refl _, by unfold suZ; omega⟩
  | succ m => unfold suZ; omega
theorem kvZ_rng (b c d z : Int) : 0 ≤ kvZ b c d z ∧ kvZ b c d z < 32003 := by unfold kvZ; omega
def vlZ (F : Nat → Int) (f x l e : Int) : Int := if (x % 32003 = 0 ∧ dxZ F f = 1) ∨ (e % 32003 = 0 ∧ deZ F f = 1) then -1 else suZ F f (x % 32003) (l % 32003) (e % 32003) (pwP (x % 32003) 32001) (pwP (e % 32003) 32001) 8
theorem ab_at {z : Int} (h : -2147483647 ≤ z ∧ z ≤ 2147483647) : (if 0 ≤ iZ z then iZ z else 0 - iZ z) = iZ (if 0 ≤ z then z else -z) := by
  have h1 : (0 ≤ iZ z) ↔ 0 ≤ z := iZ_le (a := 0) (by omega) (by omega)
  by_cases h0 : 0 ≤ z
  · rw [if_pos (h1.mpr h0), if_pos h0]
  · rw [if_neg (fun q => h0 (h1.mp q)), if_neg h0]
    show iZ 0 - iZ z = _
    rw [iZ_sub]
    congr 1
    omega
theorem su_step {F : Nat → Int} {f a b c xi ei v z kv : Int} (hz : 0 ≤ z) (hv : v = suZ F f a b c xi ei z.toNat) (hk : kv = kvZ b c ei z) : (v + kv * vxZ F f z a xi) % 32003 = suZ F f a b c xi ei (z + 1).toNat := by
  rw [show (z + 1).toNat = z.toNat + 1 by omega]
  unfold suZ
  rw [show ((z.toNat : Nat) : Int) = z by omega, hk, hv]
set_option maxHeartbeats 4000000 in
set_option maxRecDepth 100000 in
theorem k_X0_value (l : Launch) (D : va_G) (o q1 q2 : Nat) (cI : ClassId) (tE tL : Nat) (F G : Nat → Int) (k : Int) (f x1 l1 e1 : Int) (hF : ∀ j, 0 ≤ F j ∧ F j < 32003) (hf : 0 ≤ f ∧ f < k ∧ k ≤ 60) (hx1 : -9223372036854775808 ≤ x1 ∧ x1 ≤ 9223372036854775807) (hl1 : -9223372036854775808 ≤ l1 ∧ l1 ≤ 9223372036854775807) (he1 : -9223372036854775808 ≤ e1 ∧ e1 ≤ 9223372036854775807) : rd_M l yX0_value cX0_value 16 (some .int) ({ frames := 4, cells := 0, slots := 0, locals := 92 }) [.ref o, .int (iZ f), .long (lZ x1), .long (lZ l1), .long (lZ e1)] (rX D o q1 q2 cI tE tL F G k) (some (.int (iZ (vlZ F f x1 l1 e1)))) := by
  refine rd_of RX0 (by decide) rfl (Nat.le_of_ble_eq_true rfl) ?_
  intro p e s m below meth c S hr hlk hB ls hl
  obtain ⟨hx, hb, hml, hown, hT⟩ := id S
  have hl : lv_has ls 16 [(0, .ref o), (1, .int (iZ f)), (2, .long (lZ x1)), (4, .long (lZ l1)), (6, .long (lZ e1))] := hl
  obtain ⟨hP, hK, hsX⟩ := id hB
  obtain ⟨⟨hZE, hTE⟩, hZL, hTL⟩ := id hsX
  refine lv_aload_n hx hb dX0_value_0 rfl (lv_at hl 0 rfl) ?_
  refine lv_iload_n hx hb dX0_value_1 rfl (lv_at hl 1 rfl) ?_
  refine rd_V (As := [.int (iZ f)]) (rest := []) (st1 := []) S (k_X0_needElement l D o q1 q2 cI tE tL F G k f (by omega)) tb_170 tb_172 ts_X0_needElement tb_1 tb_173 hd_X0_needElement ⟨rfl, rfl, by decide, by decide⟩ rX_bl (rX_mv hB) (rX_recv hB) rfl hl.1 rfl (Nat.le_of_ble_eq_true rfl) dX0_value_2 ⟨Nat.zero_le _, Nat.zero_le _⟩ rfl ?_
  refine lv_lload_n hx hb dX0_value_5 rfl (lv_at hl 2 rfl) ?_
  refine rd_S (As := [.long (lZ x1)]) (rest := []) (st1 := [.int (iZ (x1 % 32003))]) S (k_X0_reduce l x1 (by omega)) tb_154 tb_155 tb_1 tb_156 hd_X0_reduce ⟨rfl, rfl, by decide, by decide⟩ bl_T (fun _ _ _ => trivial) rfl hl.1 rfl (Nat.le_of_ble_eq_true rfl) dX0_value_6 ⟨Nat.zero_le _, Nat.zero_le _⟩ rfl ?_
  refine zi_top (fun v1 ev1 => ?_)
  refine lv_istore (lv' := [(8, .int (iZ v1)), (0, .ref o), (1, .int (iZ f)), (2, .long (lZ x1)), (4, .long (lZ l1)), (6, .long (lZ e1))]) hx hb dX0_value_9 hl (by decide) rfl (fun ls hl => ?_)
  refine lv_lload hx hb dX0_value_11 (lv_at hl 4 rfl) ?_
  refine rd_S (As := [.long (lZ l1)]) (rest := []) (st1 := [.int (iZ (l1 % 32003))]) S (k_X0_reduce l l1 (by omega)) tb_154 tb_155 tb_1 tb_156 hd_X0_reduce ⟨rfl, rfl, by decide, by decide⟩ bl_T (fun _ _ _ => trivial) rfl hl.1 rfl (Nat.le_of_ble_eq_true rfl) dX0_value_13 ⟨Nat.zero_le _, Nat.zero_le _⟩ rfl ?_
  refine zi_top (fun v2 ev2 => ?_)
  refine lv_istore (lv' := [(9, .int (iZ v2)), (8, .int (iZ v1)), (0, .ref o), (1, .int (iZ f)), (2, .long (lZ x1)), (4, .long (lZ l1)), (6, .long (lZ e1))]) hx hb dX0_value_16 hl (by decide) rfl (fun ls hl => ?_)
  refine lv_lload hx hb dX0_value_18 (lv_at hl 6 rfl) ?_
  refine rd_S (As := [.long (lZ e1)]) (rest := []) (st1 := [.int (iZ (e1 % 32003))]) S (k_X0_reduce l e1 (by omega)) tb_154 tb_155 tb_1 tb_156 hd_X0_reduce ⟨rfl, rfl, by decide, by decide⟩ bl_T (fun _ _ _ => trivial) rfl hl.1 rfl (Nat.le_of_ble_eq_true rfl) dX0_value_20 ⟨Nat.zero_le _, Nat.zero_le _⟩ rfl ?_
  refine zi_top (fun v3 ev3 => ?_)
  refine lv_istore (lv' := [(10, .int (iZ v3)), (9, .int (iZ v2)), (8, .int (iZ v1)), (0, .ref o), (1, .int (iZ f)), (2, .long (lZ x1)), (4, .long (lZ l1)), (6, .long (lZ e1))]) hx hb dX0_value_23 hl (by decide) rfl (fun ls hl => ?_)
  refine lv_iload hx hb dX0_value_25 (lv_at hl 2 rfl) ?_
  refine zi_fne (tgt := 38) hx hb dX0_value_27 (by decide) (by omega) (fun hc27 => ?_) (fun hc27 => ?_)
  · refine lv_iload hx hb dX0_value_38 (lv_at hl 0 rfl) ?_
    refine zi_fne (tgt := 53) hx hb dX0_value_40 (by decide) (by omega) (fun hc40 => ?_) (fun hc40 => ?_)
    · have hq1 := pwP_rng v1 32001
      have hq2 := pwP_rng v3 32001
      refine lv_iload hx hb dX0_value_53 (lv_at hl 2 rfl) ?_
      refine rd_S (As := [.int (iZ v1)]) (rest := []) (st1 := [.int (iZ (pwP v1 32001))]) S (k_X0_inverse l v1 (by omega)) tb_304 tb_305 tb_1 tb_306 hd_X0_inverse ⟨rfl, rfl, by decide, by decide⟩ bl_T (fun _ _ _ => trivial) rfl hl.1 rfl (Nat.le_of_ble_eq_true rfl) dX0_value_55 ⟨Nat.zero_le _, Nat.zero_le _⟩ rfl ?_
      refine zi_top (fun v4 ev4 => ?_)
      refine lv_istore (lv' := [(11, .int (iZ v4)), (10, .int (iZ v3)), (9, .int (iZ v2)), (8, .int (iZ v1)), (0, .ref o), (1, .int (iZ f)), (2, .long (lZ x1)), (4, .long (lZ l1)), (6, .long (lZ e1))]) hx hb dX0_value_58 hl (by decide) rfl (fun ls hl => ?_)
      refine lv_iload hx hb dX0_value_60 (lv_at hl 1 rfl) ?_
      refine rd_S (As := [.int (iZ v3)]) (rest := []) (st1 := [.int (iZ (pwP v3 32001))]) S (k_X0_inverse l v3 (by omega)) tb_304 tb_305 tb_1 tb_306 hd_X0_inverse ⟨rfl, rfl, by decide, by decide⟩ bl_T (fun _ _ _ => trivial) rfl hl.1 rfl (Nat.le_of_ble_eq_true rfl) dX0_value_62 ⟨Nat.zero_le _, Nat.zero_le _⟩ rfl ?_
      refine zi_top (fun v5 ev5 => ?_)
      refine lv_istore (lv' := [(12, .int (iZ v5)), (11, .int (iZ v4)), (10, .int (iZ v3)), (9, .int (iZ v2)), (8, .int (iZ v1)), (0, .ref o), (1, .int (iZ f)), (2, .long (lZ x1)), (4, .long (lZ l1)), (6, .long (lZ e1))]) hx hb dX0_value_65 hl (by decide) rfl (fun ls hl => ?_)
      refine zi_const hx hb 0 dX0_value_67 ?_
      refine lv_istore (lv' := [(13, .int (iZ 0)), (12, .int (iZ v5)), (11, .int (iZ v4)), (10, .int (iZ v3)), (9, .int (iZ v2)), (8, .int (iZ v1)), (0, .ref o), (1, .int (iZ f)), (2, .long (lZ x1)), (4, .long (lZ l1)), (6, .long (lZ e1))]) hx hb dX0_value_68 hl (by decide) rfl (fun ls hl => ?_)
      refine zi_const hx hb 0 dX0_value_70 ?_
      refine lv_istore (lv' := [(14, .int (iZ 0)), (13, .int (iZ 0)), (12, .int (iZ v5)), (11, .int (iZ v4)), (10, .int (iZ v3)), (9, .int (iZ v2)), (8, .int (iZ v1)), (0, .ref o), (1, .int (iZ f)), (2, .long (lZ x1)), (4, .long (lZ l1)), (6, .long (lZ e1))]) hx hb dX0_value_71 hl (by decide) rfl (fun ls hl => ?_)
      refine lp_go (nL := 16) (α := Int × Int) (fun z => [(0, .ref o), (1, .int (iZ f)), (8, .int (iZ v1)), (9, .int (iZ v2)), (10, .int (iZ v3)), (11, .int (iZ v4)), (12, .int (iZ v5)), (13, .int (iZ z.1)), (14, .int (iZ z.2))]) (fun m73 z => 0 ≤ z.2 ∧ z.2 + (m73 : Int) = 8 ∧ z.1 = suZ F f v1 v2 v3 v4 v5 z.2.toNat) ?_ 8 ((0 : Int), (0 : Int)) (by exact ⟨by omega, by omega, rfl⟩) ls (lv_sub hl [7, 8, 6, 5, 4, 3, 2, 1, 0] rfl)
      intro m73 z6 hI73 ih73 ls hl
      obtain ⟨v, c1⟩ := z6
      have hl : lv_has ls 16 [(0, .ref o), (1, .int (iZ f)), (8, .int (iZ v1)), (9, .int (iZ v2)), (10, .int (iZ v3)), (11, .int (iZ v4)), (12, .int (iZ v5)), (13, .int (iZ v)), (14, .int (iZ c1))] := hl
      have hI73 : 0 ≤ c1 ∧ c1 + (m73 : Int) = 8 ∧ v = suZ F f v1 v2 v3 v4 v5 c1.toNat := hI73
      have hel := lPz_rng c1
      have hee := ePz_rng c1
      have hvr := suZ_rng F f v1 v2 v3 v4 v5 c1.toNat
      rw [← hI73.2.2] at hvr
      have hp1 := pwP_rng v2 (lPz c1).toNat
      have hp2 := pwP_rng v5 (Int.toNat (if 0 ≤ ePz c1 then ePz c1 else -ePz c1))
      have hp3 := pwP_rng v3 (Int.toNat (if 0 ≤ ePz c1 then ePz c1 else -ePz c1))
      have hab : 0 ≤ (if 0 ≤ ePz c1 then ePz c1 else -ePz c1) ∧ (if 0 ≤ ePz c1 then ePz c1 else -ePz c1) ≤ 2 := by split <;> omega
      refine lv_iload hx hb dX0_value_73 (lv_at hl 8 rfl) ?_
      refine zi_bi hx hb 8 dX0_value_75 (by decide) ?_
      refine zi_cge (tgt := 155) hx hb dX0_value_77 (by decide) (by omega) (by omega) (fun hc77 => ?_) (fun hc77 => ?_)
      · refine lv_iload hx hb dX0_value_155 (lv_at hl 7 rfl) ?_
        exact rd_iret hx hb hr hlk (congrArg (fun z => some (Value.int (iZ z))) (show (vlZ F f x1 l1 e1 : Int) = v from by unfold vlZ; rw [if_neg (by omega), hI73.2.2, show c1.toNat = 8 by omega, ev4, ev5, ev1, ev2, ev3])) dX0_value_157
      · refine lv_iload hx hb dX0_value_80 (lv_at hl 3 rfl) ?_
        refine va_gets hx hb hZL va_S.rf hown (hT _ tb_238) (fun _ h9 => h9) dX0_value_82 ?_
        refine lv_iload hx hb dX0_value_85 (lv_at hl 8 rfl) ?_
        refine va_ti hx hb hTL va_S.rf (iZ_in (by omega) (by omega) (by decide)) (lP_at (z := c1) (by omega)) dX0_value_87 ?_
        refine rd_S (As := [.int (iZ v2), .int (iZ (lPz c1))]) (rest := []) (st1 := [.int (iZ (pwP v2 (Int.toNat (lPz c1))))]) S (k_X0_power l v2 (lPz c1) (by omega) (by omega)) tb_307 tb_308 tb_1 tb_309 hd_X0_power ⟨rfl, rfl, by decide, by decide⟩ bl_T (fun _ _ _ => trivial) rfl hl.1 rfl (Nat.le_of_ble_eq_true rfl) dX0_value_88 ⟨Nat.zero_le _, Nat.zero_le _⟩ rfl ?_
        refine va_gets hx hb hZE va_S.rf hown (hT _ tb_236) (fun _ h9 => h9) dX0_value_91 ?_
        refine lv_iload hx hb dX0_value_94 (lv_at hl 8 rfl) ?_
        refine va_ti hx hb hTE va_S.rf (iZ_in (by omega) (by omega) (by decide)) (eP_at (z := c1) (by omega)) dX0_value_96 ?_
        refine zi_fge (tgt := 105) hx hb dX0_value_97 (by decide) (by omega) (fun hc97 => ?_) (fun hc97 => ?_)
        · refine lv_iload hx hb dX0_value_105 (lv_at hl 4 rfl) ?_
          refine va_gets hx hb hZE va_S.rf hown (hT _ tb_236) (fun _ h9 => h9) dX0_value_107 ?_
          refine lv_iload hx hb dX0_value_110 (lv_at hl 8 rfl) ?_
          refine va_ti hx hb hTE va_S.rf (iZ_in (by omega) (by omega) (by decide)) (eP_at (z := c1) (by omega)) dX0_value_112 ?_
          refine va_mabs hx hb (by rw [hml]; exact hl.1.symm) hown (hT _ tb_373) (hT _ tb_374) (hT _ tb_9) (hT _ tb_375) (by decide) (Nat.le_of_ble_eq_true rfl) (Nat.zero_le _) (Nat.zero_le _) dX0_value_113 ?_
          refine zi_as (ab_at (z := ePz c1) (by omega)) ?_
          refine rd_S (As := [.int (iZ v3), .int (iZ (if 0 ≤ ePz c1 then ePz c1 else -(ePz c1)))]) (rest := [.int (iZ (pwP v2 (Int.toNat (lPz c1))))]) (st1 := [.int (iZ (pwP v3 (Int.toNat (if 0 ≤ ePz c1 then ePz c1 else -(ePz c1))))), .int (iZ (pwP v2 (Int.toNat (lPz c1))))]) S (k_X0_power l v3 (if 0 ≤ ePz c1 then ePz c1 else -(ePz c1)) (by omega) (by omega)) tb_307 tb_308 tb_1 tb_309 hd_X0_power ⟨rfl, rfl, by decide, by decide⟩ bl_T (fun _ _ _ => trivial) rfl hl.1 rfl (Nat.le_of_ble_eq_true rfl) dX0_value_116 ⟨Nat.zero_le _, Nat.zero_le _⟩ rfl ?_
          refine rd_S (As := [.int (iZ (pwP v2 (Int.toNat (lPz c1)))), .int (iZ (pwP v3 (Int.toNat (if 0 ≤ ePz c1 then ePz c1 else -(ePz c1)))))]) (rest := []) (st1 := [.int (iZ ((pwP v2 (Int.toNat (lPz c1))) * (pwP v3 (Int.toNat (if 0 ≤ ePz c1 then ePz c1 else -(ePz c1)))) % 32003))]) S (k_X0_multiply l (pwP v2 (Int.toNat (lPz c1))) (pwP v3 (Int.toNat (if 0 ≤ ePz c1 then ePz c1 else -(ePz c1)))) (by omega) (by omega)) tb_310 tb_311 tb_1 tb_312 hd_X0_multiply ⟨rfl, rfl, by decide, by decide⟩ bl_T (fun _ _ _ => trivial) rfl hl.1 rfl (Nat.le_of_ble_eq_true rfl) dX0_value_119 ⟨Nat.zero_le _, Nat.zero_le _⟩ rfl ?_
          refine zi_top (fun v7 ev7 => ?_)
          refine lv_istore (lv' := [(15, .int (iZ v7)), (0, .ref o), (1, .int (iZ f)), (8, .int (iZ v1)), (9, .int (iZ v2)), (10, .int (iZ v3)), (11, .int (iZ v4)), (12, .int (iZ v5)), (13, .int (iZ v)), (14, .int (iZ c1))]) hx hb dX0_value_122 hl (by decide) rfl (fun ls hl => ?_)
          have hkv : 0 ≤ v7 ∧ v7 < 32003 := by rw [ev7]; omega
          have hkm := mul_rng hkv (vxZ_rng F f c1 v1 v4)
          refine lv_iload hx hb dX0_value_124 (lv_at hl 8 rfl) ?_
          refine zi_i2l hx hb dX0_value_126 (by omega) ?_
          refine lv_iload hx hb dX0_value_127 (lv_at hl 0 rfl) ?_
          refine zi_i2l hx hb dX0_value_129 (by omega) ?_
          refine lv_aload_n hx hb dX0_value_130 rfl (lv_at hl 1 rfl) ?_
          refine lv_iload_n hx hb dX0_value_131 rfl (lv_at hl 2 rfl) ?_
          refine lv_iload hx hb dX0_value_132 (lv_at hl 9 rfl) ?_
          refine lv_iload hx hb dX0_value_134 (lv_at hl 3 rfl) ?_
          refine lv_iload hx hb dX0_value_136 (lv_at hl 6 rfl) ?_
          refine rd_V (As := [.int (iZ f), .int (iZ c1), .int (iZ v1), .int (iZ v4)]) (rest := [.long (lZ v7), .long (lZ v)]) (st1 := [.int (iZ (vxZ F f c1 v1 v4)), .long (lZ v7), .long (lZ v)]) S (k_X0_valueInX l D o q1 q2 cI tE tL F G k f c1 v1 v4 hF (by omega) (by omega) (by omega) (by omega)) tb_376 tb_378 ts_X0_valueInX tb_1 tb_379 hd_X0_valueInX ⟨rfl, rfl, by decide, by decide⟩ rX_bl (rX_mv hB) (rX_recv hB) rfl hl.1 rfl (Nat.le_of_ble_eq_true rfl) dX0_value_138 ⟨Nat.zero_le _, Nat.zero_le _⟩ rfl ?_
          have hvx141 := vxZ_rng F f c1 v1 v4
          refine zi_i2l hx hb dX0_value_141 (by omega) ?_
          refine zl_mul hx hb dX0_value_142 ?_
          refine zl_add hx hb dX0_value_143 ?_
          refine rd_S (As := [.long (lZ (v + (v7 * (vxZ F f c1 v1 v4))))]) (rest := []) (st1 := [.int (iZ ((v + (v7 * (vxZ F f c1 v1 v4))) % 32003))]) S (k_X0_reduce l (v + (v7 * (vxZ F f c1 v1 v4))) (by omega)) tb_154 tb_155 tb_1 tb_156 hd_X0_reduce ⟨rfl, rfl, by decide, by decide⟩ bl_T (fun _ _ _ => trivial) rfl hl.1 rfl (Nat.le_of_ble_eq_true rfl) dX0_value_144 ⟨Nat.zero_le _, Nat.zero_le _⟩ rfl ?_
          refine zi_top (fun v8 ev8 => ?_)
          refine lv_istore (lv' := [(13, .int (iZ v8)), (15, .int (iZ v7)), (0, .ref o), (1, .int (iZ f)), (8, .int (iZ v1)), (9, .int (iZ v2)), (10, .int (iZ v3)), (11, .int (iZ v4)), (12, .int (iZ v5)), (14, .int (iZ c1))]) hx hb dX0_value_147 hl (by decide) rfl (fun ls hl => ?_)
          refine zi_inc (lv' := [(14, .int (iZ (c1 + 1))), (13, .int (iZ v8)), (15, .int (iZ v7)), (0, .ref o), (1, .int (iZ f)), (8, .int (iZ v1)), (9, .int (iZ v2)), (10, .int (iZ v3)), (11, .int (iZ v4)), (12, .int (iZ v5))]) hx hb dX0_value_149 hl (k := 9) rfl (by decide) rfl (fun ls hl => ?_)
          refine lv_goto (tgt := 73) hx hb dX0_value_152 (by decide) ?_
          exact ih73 (m73 - 1) (v8, c1 + 1) (by omega) (by refine ⟨by omega, by omega, ?_⟩; rw [ev8]; exact su_step (by omega) hI73.2.2 (by rw [ev7]; unfold kvZ; rw [if_neg (show ¬ ePz c1 < 0 by omega)])) ls (lv_sub hl [3, 4, 5, 6, 7, 8, 9, 1, 0] rfl)
        · refine lv_iload hx hb dX0_value_100 (lv_at hl 6 rfl) ?_
          refine lv_goto (tgt := 107) hx hb dX0_value_102 (by decide) ?_
          refine va_gets hx hb hZE va_S.rf hown (hT _ tb_236) (fun _ h9 => h9) dX0_value_107 ?_
          refine lv_iload hx hb dX0_value_110 (lv_at hl 8 rfl) ?_
          refine va_ti hx hb hTE va_S.rf (iZ_in (by omega) (by omega) (by decide)) (eP_at (z := c1) (by omega)) dX0_value_112 ?_
          refine va_mabs hx hb (by rw [hml]; exact hl.1.symm) hown (hT _ tb_373) (hT _ tb_374) (hT _ tb_9) (hT _ tb_375) (by decide) (Nat.le_of_ble_eq_true rfl) (Nat.zero_le _) (Nat.zero_le _) dX0_value_113 ?_
          refine zi_as (ab_at (z := ePz c1) (by omega)) ?_
          refine rd_S (As := [.int (iZ v5), .int (iZ (if 0 ≤ ePz c1 then ePz c1 else -(ePz c1)))]) (rest := [.int (iZ (pwP v2 (Int.toNat (lPz c1))))]) (st1 := [.int (iZ (pwP v5 (Int.toNat (if 0 ≤ ePz c1 then ePz c1 else -(ePz c1))))), .int (iZ (pwP v2 (Int.toNat (lPz c1))))]) S (k_X0_power l v5 (if 0 ≤ ePz c1 then ePz c1 else -(ePz c1)) (by omega) (by omega)) tb_307 tb_308 tb_1 tb_309 hd_X0_power ⟨rfl, rfl, by decide, by decide⟩ bl_T (fun _ _ _ => trivial) rfl hl.1 rfl (Nat.le_of_ble_eq_true rfl) dX0_value_116 ⟨Nat.zero_le _, Nat.zero_le _⟩ rfl ?_
          refine rd_S (As := [.int (iZ (pwP v2 (Int.toNat (lPz c1)))), .int (iZ (pwP v5 (Int.toNat (if 0 ≤ ePz c1 then ePz c1 else -(ePz c1)))))]) (rest := []) (st1 := [.int (iZ ((pwP v2 (Int.toNat (lPz c1))) * (pwP v5 (Int.toNat (if 0 ≤ ePz c1 then ePz c1 else -(ePz c1)))) % 32003))]) S (k_X0_multiply l (pwP v2 (Int.toNat (lPz c1))) (pwP v5 (Int.toNat (if 0 ≤ ePz c1 then ePz c1 else -(ePz c1)))) (by omega) (by omega)) tb_310 tb_311 tb_1 tb_312 hd_X0_multiply ⟨rfl, rfl, by decide, by decide⟩ bl_T (fun _ _ _ => trivial) rfl hl.1 rfl (Nat.le_of_ble_eq_true rfl) dX0_value_119 ⟨Nat.zero_le _, Nat.zero_le _⟩ rfl ?_
          refine zi_top (fun v9 ev9 => ?_)
          refine lv_istore (lv' := [(15, .int (iZ v9)), (0, .ref o), (1, .int (iZ f)), (8, .int (iZ v1)), (9, .int (iZ v2)), (10, .int (iZ v3)), (11, .int (iZ v4)), (12, .int (iZ v5)), (13, .int (iZ v)), (14, .int (iZ c1))]) hx hb dX0_value_122 hl (by decide) rfl (fun ls hl => ?_)
          have hkv : 0 ≤ v9 ∧ v9 < 32003 := by rw [ev9]; omega
          have hkm := mul_rng hkv (vxZ_rng F f c1 v1 v4)
          refine lv_iload hx hb dX0_value_124 (lv_at hl 8 rfl) ?_
          refine zi_i2l hx hb dX0_value_126 (by omega) ?_
          refine lv_iload hx hb dX0_value_127 (lv_at hl 0 rfl) ?_
          refine zi_i2l hx hb dX0_value_129 (by omega) ?_
          refine lv_aload_n hx hb dX0_value_130 rfl (lv_at hl 1 rfl) ?_
          refine lv_iload_n hx hb dX0_value_131 rfl (lv_at hl 2 rfl) ?_
          refine lv_iload hx hb dX0_value_132 (lv_at hl 9 rfl) ?_
          refine lv_iload hx hb dX0_value_134 (lv_at hl 3 rfl) ?_
          refine lv_iload hx hb dX0_value_136 (lv_at hl 6 rfl) ?_
          refine rd_V (As := [.int (iZ f), .int (iZ c1), .int (iZ v1), .int (iZ v4)]) (rest := [.long (lZ v9), .long (lZ v)]) (st1 := [.int (iZ (vxZ F f c1 v1 v4)), .long (lZ v9), .long (lZ v)]) S (k_X0_valueInX l D o q1 q2 cI tE tL F G k f c1 v1 v4 hF (by omega) (by omega) (by omega) (by omega)) tb_376 tb_378 ts_X0_valueInX tb_1 tb_379 hd_X0_valueInX ⟨rfl, rfl, by decide, by decide⟩ rX_bl (rX_mv hB) (rX_recv hB) rfl hl.1 rfl (Nat.le_of_ble_eq_true rfl) dX0_value_138 ⟨Nat.zero_le _, Nat.zero_le _⟩ rfl ?_
          have hvx141 := vxZ_rng F f c1 v1 v4
          refine zi_i2l hx hb dX0_value_141 (by omega) ?_
          refine zl_mul hx hb dX0_value_142 ?_
          refine zl_add hx hb dX0_value_143 ?_
          refine rd_S (As := [.long (lZ (v + (v9 * (vxZ F f c1 v1 v4))))]) (rest := []) (st1 := [.int (iZ ((v + (v9 * (vxZ F f c1 v1 v4))) % 32003))]) S (k_X0_reduce l (v + (v9 * (vxZ F f c1 v1 v4))) (by omega)) tb_154 tb_155 tb_1 tb_156 hd_X0_reduce ⟨rfl, rfl, by decide, by decide⟩ bl_T (fun _ _ _ => trivial) rfl hl.1 rfl (Nat.le_of_ble_eq_true rfl) dX0_value_144 ⟨Nat.zero_le _, Nat.zero_le _⟩ rfl ?_
          refine zi_top (fun v10 ev10 => ?_)
          refine lv_istore (lv' := [(13, .int (iZ v10)), (15, .int (iZ v9)), (0, .ref o), (1, .int (iZ f)), (8, .int (iZ v1)), (9, .int (iZ v2)), (10, .int (iZ v3)), (11, .int (iZ v4)), (12, .int (iZ v5)), (14, .int (iZ c1))]) hx hb dX0_value_147 hl (by decide) rfl (fun ls hl => ?_)
          refine zi_inc (lv' := [(14, .int (iZ (c1 + 1))), (13, .int (iZ v10)), (15, .int (iZ v9)), (0, .ref o), (1, .int (iZ f)), (8, .int (iZ v1)), (9, .int (iZ v2)), (10, .int (iZ v3)), (11, .int (iZ v4)), (12, .int (iZ v5))]) hx hb dX0_value_149 hl (k := 9) rfl (by decide) rfl (fun ls hl => ?_)
          refine lv_goto (tgt := 73) hx hb dX0_value_152 (by decide) ?_
          exact ih73 (m73 - 1) (v10, c1 + 1) (by omega) (by refine ⟨by omega, by omega, ?_⟩; rw [ev10]; exact su_step (by omega) hI73.2.2 (by rw [ev9]; unfold kvZ; rw [if_pos (show ePz c1 < 0 by omega)])) ls (lv_sub hl [3, 4, 5, 6, 7, 8, 9, 1, 0] rfl)
    · refine lv_aload_n hx hb dX0_value_43 rfl (lv_at hl 3 rfl) ?_
      refine lv_iload_n hx hb dX0_value_44 rfl (lv_at hl 4 rfl) ?_
      refine rd_V (As := [.int (iZ f)]) (rest := []) (st1 := [.int (iZ (deZ F f))]) S (k_X0_dividesByE l D o q1 q2 cI tE tL F G k f hF (by omega)) tb_369 tb_371 ts_X0_dividesByE tb_1 tb_372 hd_X0_dividesByE ⟨rfl, rfl, by decide, by decide⟩ rX_bl (rX_mv hB) (rX_recv hB) rfl hl.1 rfl (Nat.le_of_ble_eq_true rfl) dX0_value_45 ⟨Nat.zero_le _, Nat.zero_le _⟩ rfl ?_
      have hde48 := deZ_or F f
      refine zi_feq (tgt := 53) hx hb dX0_value_48 (by decide) (by omega) (fun hc48 => ?_) (fun hc48 => ?_)
      · have hq1 := pwP_rng v1 32001
        have hq2 := pwP_rng v3 32001
        refine lv_iload hx hb dX0_value_53 (lv_at hl 2 rfl) ?_
        refine rd_S (As := [.int (iZ v1)]) (rest := []) (st1 := [.int (iZ (pwP v1 32001))]) S (k_X0_inverse l v1 (by omega)) tb_304 tb_305 tb_1 tb_306 hd_X0_inverse ⟨rfl, rfl, by decide, by decide⟩ bl_T (fun _ _ _ => trivial) rfl hl.1 rfl (Nat.le_of_ble_eq_true rfl) dX0_value_55 ⟨Nat.zero_le _, Nat.zero_le _⟩ rfl ?_
        refine zi_top (fun v11 ev11 => ?_)
        refine lv_istore (lv' := [(11, .int (iZ v11)), (10, .int (iZ v3)), (9, .int (iZ v2)), (8, .int (iZ v1)), (0, .ref o), (1, .int (iZ f)), (2, .long (lZ x1)), (4, .long (lZ l1)), (6, .long (lZ e1))]) hx hb dX0_value_58 hl (by decide) rfl (fun ls hl => ?_)
        refine lv_iload hx hb dX0_value_60 (lv_at hl 1 rfl) ?_
        refine rd_S (As := [.int (iZ v3)]) (rest := []) (st1 := [.int (iZ (pwP v3 32001))]) S (k_X0_inverse l v3 (by omega)) tb_304 tb_305 tb_1 tb_306 hd_X0_inverse ⟨rfl, rfl, by decide, by decide⟩ bl_T (fun _ _ _ => trivial) rfl hl.1 rfl (Nat.le_of_ble_eq_true rfl) dX0_value_62 ⟨Nat.zero_le _, Nat.zero_le _⟩ rfl ?_
        refine zi_top (fun v12 ev12 => ?_)
        refine lv_istore (lv' := [(12, .int (iZ v12)), (11, .int (iZ v11)), (10, .int (iZ v3)), (9, .int (iZ v2)), (8, .int (iZ v1)), (0, .ref o), (1, .int (iZ f)), (2, .long (lZ x1)), (4, .long (lZ l1)), (6, .long (lZ e1))]) hx hb dX0_value_65 hl (by decide) rfl (fun ls hl => ?_)
        refine zi_const hx hb 0 dX0_value_67 ?_
        refine lv_istore (lv' := [(13, .int (iZ 0)), (12, .int (iZ v12)), (11, .int (iZ v11)), (10, .int (iZ v3)), (9, .int (iZ v2)), (8, .int (iZ v1)), (0, .ref o), (1, .int (iZ f)), (2, .long (lZ x1)), (4, .long (lZ l1)), (6, .long (lZ e1))]) hx hb dX0_value_68 hl (by decide) rfl (fun ls hl => ?_)
        refine zi_const hx hb 0 dX0_value_70 ?_
        refine lv_istore (lv' := [(14, .int (iZ 0)), (13, .int (iZ 0)), (12, .int (iZ v12)), (11, .int (iZ v11)), (10, .int (iZ v3)), (9, .int (iZ v2)), (8, .int (iZ v1)), (0, .ref o), (1, .int (iZ f)), (2, .long (lZ x1)), (4, .long (lZ l1)), (6, .long (lZ e1))]) hx hb dX0_value_71 hl (by decide) rfl (fun ls hl => ?_)
        refine lp_go (nL := 16) (α := Int × Int) (fun z => [(0, .ref o), (1, .int (iZ f)), (8, .int (iZ v1)), (9, .int (iZ v2)), (10, .int (iZ v3)), (11, .int (iZ v11)), (12, .int (iZ v12)), (13, .int (iZ z.1)), (14, .int (iZ z.2))]) (fun m73 z => 0 ≤ z.2 ∧ z.2 + (m73 : Int) = 8 ∧ z.1 = suZ F f v1 v2 v3 v11 v12 z.2.toNat) ?_ 8 ((0 : Int), (0 : Int)) (by exact ⟨by omega, by omega, rfl⟩) ls (lv_sub hl [7, 8, 6, 5, 4, 3, 2, 1, 0] rfl)
        intro m73 z13 hI73 ih73 ls hl
        obtain ⟨v, c1⟩ := z13
        have hl : lv_has ls 16 [(0, .ref o), (1, .int (iZ f)), (8, .int (iZ v1)), (9, .int (iZ v2)), (10, .int (iZ v3)), (11, .int (iZ v11)), (12, .int (iZ v12)), (13, .int (iZ v)), (14, .int (iZ c1))] := hl
        have hI73 : 0 ≤ c1 ∧ c1 + (m73 : Int) = 8 ∧ v = suZ F f v1 v2 v3 v11 v12 c1.toNat := hI73
        have hel := lPz_rng c1
        have hee := ePz_rng c1
        have hvr := suZ_rng F f v1 v2 v3 v11 v12 c1.toNat
        rw [← hI73.2.2] at hvr
        have hp1 := pwP_rng v2 (lPz c1).toNat
        have hp2 := pwP_rng v12 (Int.toNat (if 0 ≤ ePz c1 then ePz c1 else -ePz c1))
        have hp3 := pwP_rng v3 (Int.toNat (if 0 ≤ ePz c1 then ePz c1 else -ePz c1))
        have hab : 0 ≤ (if 0 ≤ ePz c1 then ePz c1 else -ePz c1) ∧ (if 0 ≤ ePz c1 then ePz c1 else -ePz c1) ≤ 2 := by split <;> omega
        refine lv_iload hx hb dX0_value_73 (lv_at hl 8 rfl) ?_
        refine zi_bi hx hb 8 dX0_value_75 (by decide) ?_
        refine zi_cge (tgt := 155) hx hb dX0_value_77 (by decide) (by omega) (by omega) (fun hc77 => ?_) (fun hc77 => ?_)
        · refine lv_iload hx hb dX0_value_155 (lv_at hl 7 rfl) ?_
          exact rd_iret hx hb hr hlk (congrArg (fun z => some (Value.int (iZ z))) (show (vlZ F f x1 l1 e1 : Int) = v from by unfold vlZ; rw [if_neg (by omega), hI73.2.2, show c1.toNat = 8 by omega, ev11, ev12, ev1, ev2, ev3])) dX0_value_157
        · refine lv_iload hx hb dX0_value_80 (lv_at hl 3 rfl) ?_
          refine va_gets hx hb hZL va_S.rf hown (hT _ tb_238) (fun _ h9 => h9) dX0_value_82 ?_
          refine lv_iload hx hb dX0_value_85 (lv_at hl 8 rfl) ?_
          refine va_ti hx hb hTL va_S.rf (iZ_in (by omega) (by omega) (by decide)) (lP_at (z := c1) (by omega)) dX0_value_87 ?_
          refine rd_S (As := [.int (iZ v2), .int (iZ (lPz c1))]) (rest := []) (st1 := [.int (iZ (pwP v2 (Int.toNat (lPz c1))))]) S (k_X0_power l v2 (lPz c1) (by omega) (by omega)) tb_307 tb_308 tb_1 tb_309 hd_X0_power ⟨rfl, rfl, by decide, by decide⟩ bl_T (fun _ _ _ => trivial) rfl hl.1 rfl (Nat.le_of_ble_eq_true rfl) dX0_value_88 ⟨Nat.zero_le _, Nat.zero_le _⟩ rfl ?_
          refine va_gets hx hb hZE va_S.rf hown (hT _ tb_236) (fun _ h9 => h9) dX0_value_91 ?_
          refine lv_iload hx hb dX0_value_94 (lv_at hl 8 rfl) ?_
          refine va_ti hx hb hTE va_S.rf (iZ_in (by omega) (by omega) (by decide)) (eP_at (z := c1) (by omega)) dX0_value_96 ?_
          refine zi_fge (tgt := 105) hx hb dX0_value_97 (by decide) (by omega) (fun hc97 => ?_) (fun hc97 => ?_)
          · refine lv_iload hx hb dX0_value_105 (lv_at hl 4 rfl) ?_
            refine va_gets hx hb hZE va_S.rf hown (hT _ tb_236) (fun _ h9 => h9) dX0_value_107 ?_
            refine lv_iload hx hb dX0_value_110 (lv_at hl 8 rfl) ?_
            refine va_ti hx hb hTE va_S.rf (iZ_in (by omega) (by omega) (by decide)) (eP_at (z := c1) (by omega)) dX0_value_112 ?_
            refine va_mabs hx hb (by rw [hml]; exact hl.1.symm) hown (hT _ tb_373) (hT _ tb_374) (hT _ tb_9) (hT _ tb_375) (by decide) (Nat.le_of_ble_eq_true rfl) (Nat.zero_le _) (Nat.zero_le _) dX0_value_113 ?_
            refine zi_as (ab_at (z := ePz c1) (by omega)) ?_
            refine rd_S (As := [.int (iZ v3), .int (iZ (if 0 ≤ ePz c1 then ePz c1 else -(ePz c1)))]) (rest := [.int (iZ (pwP v2 (Int.toNat (lPz c1))))]) (st1 := [.int (iZ (pwP v3 (Int.toNat (if 0 ≤ ePz c1 then ePz c1 else -(ePz c1))))), .int (iZ (pwP v2 (Int.toNat (lPz c1))))]) S (k_X0_power l v3 (if 0 ≤ ePz c1 then ePz c1 else -(ePz c1)) (by omega) (by omega)) tb_307 tb_308 tb_1 tb_309 hd_X0_power ⟨rfl, rfl, by decide, by decide⟩ bl_T (fun _ _ _ => trivial) rfl hl.1 rfl (Nat.le_of_ble_eq_true rfl) dX0_value_116 ⟨Nat.zero_le _, Nat.zero_le _⟩ rfl ?_
            refine rd_S (As := [.int (iZ (pwP v2 (Int.toNat (lPz c1)))), .int (iZ (pwP v3 (Int.toNat (if 0 ≤ ePz c1 then ePz c1 else -(ePz c1)))))]) (rest := []) (st1 := [.int (iZ ((pwP v2 (Int.toNat (lPz c1))) * (pwP v3 (Int.toNat (if 0 ≤ ePz c1 then ePz c1 else -(ePz c1)))) % 32003))]) S (k_X0_multiply l (pwP v2 (Int.toNat (lPz c1))) (pwP v3 (Int.toNat (if 0 ≤ ePz c1 then ePz c1 else -(ePz c1)))) (by omega) (by omega)) tb_310 tb_311 tb_1 tb_312 hd_X0_multiply ⟨rfl, rfl, by decide, by decide⟩ bl_T (fun _ _ _ => trivial) rfl hl.1 rfl (Nat.le_of_ble_eq_true rfl) dX0_value_119 ⟨Nat.zero_le _, Nat.zero_le _⟩ rfl ?_
            refine zi_top (fun v14 ev14 => ?_)
            refine lv_istore (lv' := [(15, .int (iZ v14)), (0, .ref o), (1, .int (iZ f)), (8, .int (iZ v1)), (9, .int (iZ v2)), (10, .int (iZ v3)), (11, .int (iZ v11)), (12, .int (iZ v12)), (13, .int (iZ v)), (14, .int (iZ c1))]) hx hb dX0_value_122 hl (by decide) rfl (fun ls hl => ?_)
            have hkv : 0 ≤ v14 ∧ v14 < 32003 := by rw [ev14]; omega
            have hkm := mul_rng hkv (vxZ_rng F f c1 v1 v11)
            refine lv_iload hx hb dX0_value_124 (lv_at hl 8 rfl) ?_
            refine zi_i2l hx hb dX0_value_126 (by omega) ?_
            refine lv_iload hx hb dX0_value_127 (lv_at hl 0 rfl) ?_
            refine zi_i2l hx hb dX0_value_129 (by omega) ?_
            refine lv_aload_n hx hb dX0_value_130 rfl (lv_at hl 1 rfl) ?_
            refine lv_iload_n hx hb dX0_value_131 rfl (lv_at hl 2 rfl) ?_
            refine lv_iload hx hb dX0_value_132 (lv_at hl 9 rfl) ?_
            refine lv_iload hx hb dX0_value_134 (lv_at hl 3 rfl) ?_
            refine lv_iload hx hb dX0_value_136 (lv_at hl 6 rfl) ?_
            refine rd_V (As := [.int (iZ f), .int (iZ c1), .int (iZ v1), .int (iZ v11)]) (rest := [.long (lZ v14), .long (lZ v)]) (st1 := [.int (iZ (vxZ F f c1 v1 v11)), .long (lZ v14), .long (lZ v)]) S (k_X0_valueInX l D o q1 q2 cI tE tL F G k f c1 v1 v11 hF (by omega) (by omega) (by omega) (by omega)) tb_376 tb_378 ts_X0_valueInX tb_1 tb_379 hd_X0_valueInX ⟨rfl, rfl, by decide, by decide⟩ rX_bl (rX_mv hB) (rX_recv hB) rfl hl.1 rfl (Nat.le_of_ble_eq_true rfl) dX0_value_138 ⟨Nat.zero_le _, Nat.zero_le _⟩ rfl ?_
            have hvx141 := vxZ_rng F f c1 v1 v11
            refine zi_i2l hx hb dX0_value_141 (by omega) ?_
            refine zl_mul hx hb dX0_value_142 ?_
            refine zl_add hx hb dX0_value_143 ?_
            refine rd_S (As := [.long (lZ (v + (v14 * (vxZ F f c1 v1 v11))))]) (rest := []) (st1 := [.int (iZ ((v + (v14 * (vxZ F f c1 v1 v11))) % 32003))]) S (k_X0_reduce l (v + (v14 * (vxZ F f c1 v1 v11))) (by omega)) tb_154 tb_155 tb_1 tb_156 hd_X0_reduce ⟨rfl, rfl, by decide, by decide⟩ bl_T (fun _ _ _ => trivial) rfl hl.1 rfl (Nat.le_of_ble_eq_true rfl) dX0_value_144 ⟨Nat.zero_le _, Nat.zero_le _⟩ rfl ?_
            refine zi_top (fun v15 ev15 => ?_)
            refine lv_istore (lv' := [(13, .int (iZ v15)), (15, .int (iZ v14)), (0, .ref o), (1, .int (iZ f)), (8, .int (iZ v1)), (9, .int (iZ v2)), (10, .int (iZ v3)), (11, .int (iZ v11)), (12, .int (iZ v12)), (14, .int (iZ c1))]) hx hb dX0_value_147 hl (by decide) rfl (fun ls hl => ?_)
            refine zi_inc (lv' := [(14, .int (iZ (c1 + 1))), (13, .int (iZ v15)), (15, .int (iZ v14)), (0, .ref o), (1, .int (iZ f)), (8, .int (iZ v1)), (9, .int (iZ v2)), (10, .int (iZ v3)), (11, .int (iZ v11)), (12, .int (iZ v12))]) hx hb dX0_value_149 hl (k := 9) rfl (by decide) rfl (fun ls hl => ?_)
            refine lv_goto (tgt := 73) hx hb dX0_value_152 (by decide) ?_
            exact ih73 (m73 - 1) (v15, c1 + 1) (by omega) (by refine ⟨by omega, by omega, ?_⟩; rw [ev15]; exact su_step (by omega) hI73.2.2 (by rw [ev14]; unfold kvZ; rw [if_neg (show ¬ ePz c1 < 0 by omega)])) ls (lv_sub hl [3, 4, 5, 6, 7, 8, 9, 1, 0] rfl)
          · refine lv_iload hx hb dX0_value_100 (lv_at hl 6 rfl) ?_
            refine lv_goto (tgt := 107) hx hb dX0_value_102 (by decide) ?_
            refine va_gets hx hb hZE va_S.rf hown (hT _ tb_236) (fun _ h9 => h9) dX0_value_107 ?_
            refine lv_iload hx hb dX0_value_110 (lv_at hl 8 rfl) ?_
            refine va_ti hx hb hTE va_S.rf (iZ_in (by omega) (by omega) (by decide)) (eP_at (z := c1) (by omega)) dX0_value_112 ?_
            refine va_mabs hx hb (by rw [hml]; exact hl.1.symm) hown (hT _ tb_373) (hT _ tb_374) (hT _ tb_9) (hT _ tb_375) (by decide) (Nat.le_of_ble_eq_true rfl) (Nat.zero_le _) (Nat.zero_le _) dX0_value_113 ?_
            refine zi_as (ab_at (z := ePz c1) (by omega)) ?_
            refine rd_S (As := [.int (iZ v12), .int (iZ (if 0 ≤ ePz c1 then ePz c1 else -(ePz c1)))]) (rest := [.int (iZ (pwP v2 (Int.toNat (lPz c1))))]) (st1 := [.int (iZ (pwP v12 (Int.toNat (if 0 ≤ ePz c1 then ePz c1 else -(ePz c1))))), .int (iZ (pwP v2 (Int.toNat (lPz c1))))]) S (k_X0_power l v12 (if 0 ≤ ePz c1 then ePz c1 else -(ePz c1)) (by omega) (by omega)) tb_307 tb_308 tb_1 tb_309 hd_X0_power ⟨rfl, rfl, by decide, by decide⟩ bl_T (fun _ _ _ => trivial) rfl hl.1 rfl (Nat.le_of_ble_eq_true rfl) dX0_value_116 ⟨Nat.zero_le _, Nat.zero_le _⟩ rfl ?_
            refine rd_S (As := [.int (iZ (pwP v2 (Int.toNat (lPz c1)))), .int (iZ (pwP v12 (Int.toNat (if 0 ≤ ePz c1 then ePz c1 else -(ePz c1)))))]) (rest := []) (st1 := [.int (iZ ((pwP v2 (Int.toNat (lPz c1))) * (pwP v12 (Int.toNat (if 0 ≤ ePz c1 then ePz c1 else -(ePz c1)))) % 32003))]) S (k_X0_multiply l (pwP v2 (Int.toNat (lPz c1))) (pwP v12 (Int.toNat (if 0 ≤ ePz c1 then ePz c1 else -(ePz c1)))) (by omega) (by omega)) tb_310 tb_311 tb_1 tb_312 hd_X0_multiply ⟨rfl, rfl, by decide, by decide⟩ bl_T (fun _ _ _ => trivial) rfl hl.1 rfl (Nat.le_of_ble_eq_true rfl) dX0_value_119 ⟨Nat.zero_le _, Nat.zero_le _⟩ rfl ?_
            refine zi_top (fun v16 ev16 => ?_)
            refine lv_istore (lv' := [(15, .int (iZ v16)), (0, .ref o), (1, .int (iZ f)), (8, .int (iZ v1)), (9, .int (iZ v2)), (10, .int (iZ v3)), (11, .int (iZ v11)), (12, .int (iZ v12)), (13, .int (iZ v)), (14, .int (iZ c1))]) hx hb dX0_value_122 hl (by decide) rfl (fun ls hl => ?_)
            have hkv : 0 ≤ v16 ∧ v16 < 32003 := by rw [ev16]; omega
            have hkm := mul_rng hkv (vxZ_rng F f c1 v1 v11)
            refine lv_iload hx hb dX0_value_124 (lv_at hl 8 rfl) ?_
            refine zi_i2l hx hb dX0_value_126 (by omega) ?_
            refine lv_iload hx hb dX0_value_127 (lv_at hl 0 rfl) ?_
            refine zi_i2l hx hb dX0_value_129 (by omega) ?_
            refine lv_aload_n hx hb dX0_value_130 rfl (lv_at hl 1 rfl) ?_
            refine lv_iload_n hx hb dX0_value_131 rfl (lv_at hl 2 rfl) ?_
            refine lv_iload hx hb dX0_value_132 (lv_at hl 9 rfl) ?_
            refine lv_iload hx hb dX0_value_134 (lv_at hl 3 rfl) ?_
            refine lv_iload hx hb dX0_value_136 (lv_at hl 6 rfl) ?_
            refine rd_V (As := [.int (iZ f), .int (iZ c1), .int (iZ v1), .int (iZ v11)]) (rest := [.long (lZ v16), .long (lZ v)]) (st1 := [.int (iZ (vxZ F f c1 v1 v11)), .long (lZ v16), .long (lZ v)]) S (k_X0_valueInX l D o q1 q2 cI tE tL F G k f c1 v1 v11 hF (by omega) (by omega) (by omega) (by omega)) tb_376 tb_378 ts_X0_valueInX tb_1 tb_379 hd_X0_valueInX ⟨rfl, rfl, by decide, by decide⟩ rX_bl (rX_mv hB) (rX_recv hB) rfl hl.1 rfl (Nat.le_of_ble_eq_true rfl) dX0_value_138 ⟨Nat.zero_le _, Nat.zero_le _⟩ rfl ?_
            have hvx141 := vxZ_rng F f c1 v1 v11
            refine zi_i2l hx hb dX0_value_141 (by omega) ?_
            refine zl_mul hx hb dX0_value_142 ?_
            refine zl_add hx hb dX0_value_143 ?_
            refine rd_S (As := [.long (lZ (v + (v16 * (vxZ F f c1 v1 v11))))]) (rest := []) (st1 := [.int (iZ ((v + (v16 * (vxZ F f c1 v1 v11))) % 32003))]) S (k_X0_reduce l (v + (v16 * (vxZ F f c1 v1 v11))) (by omega)) tb_154 tb_155 tb_1 tb_156 hd_X0_reduce ⟨rfl, rfl, by decide, by decide⟩ bl_T (fun _ _ _ => trivial) rfl hl.1 rfl (Nat.le_of_ble_eq_true rfl) dX0_value_144 ⟨Nat.zero_le _, Nat.zero_le _⟩ rfl ?_
            refine zi_top (fun v17 ev17 => ?_)
            refine lv_istore (lv' := [(13, .int (iZ v17)), (15, .int (iZ v16)), (0, .ref o), (1, .int (iZ f)), (8, .int (iZ v1)), (9, .int (iZ v2)), (10, .int (iZ v3)), (11, .int (iZ v11)), (12, .int (iZ v12)), (14, .int (iZ c1))]) hx hb dX0_value_147 hl (by decide) rfl (fun ls hl => ?_)
            refine zi_inc (lv' := [(14, .int (iZ (c1 + 1))), (13, .int (iZ v17)), (15, .int (iZ v16)), (0, .ref o), (1, .int (iZ f)), (8, .int (iZ v1)), (9, .int (iZ v2)), (10, .int (iZ v3)), (11, .int (iZ v11)), (12, .int (iZ v12))]) hx hb dX0_value_149 hl (k := 9) rfl (by decide) rfl (fun ls hl => ?_)
            refine lv_goto (tgt := 73) hx hb dX0_value_152 (by decide) ?_
            exact ih73 (m73 - 1) (v17, c1 + 1) (by omega) (by refine ⟨by omega, by omega, ?_⟩; rw [ev17]; exact su_step (by omega) hI73.2.2 (by rw [ev16]; unfold kvZ; rw [if_pos (show ePz c1 < 0 by omega)])) ls (lv_sub hl [3, 4, 5, 6, 7, 8, 9, 1, 0] rfl)
      · refine zi_const hx hb (-1) dX0_value_51 ?_
        exact rd_iret hx hb hr hlk (congrArg (fun z => some (Value.int (iZ z))) (show (vlZ F f x1 l1 e1 : Int) = (-1) from by unfold vlZ; rw [if_pos (by omega)])) dX0_value_52
  · refine lv_aload_n hx hb dX0_value_30 rfl (lv_at hl 3 rfl) ?_
    refine lv_iload_n hx hb dX0_value_31 rfl (lv_at hl 4 rfl) ?_
    refine rd_V (As := [.int (iZ f)]) (rest := []) (st1 := [.int (iZ (dxZ F f))]) S (k_X0_dividesByX l D o q1 q2 cI tE tL F G k f hF (by omega)) tb_365 tb_367 ts_X0_dividesByX tb_1 tb_368 hd_X0_dividesByX ⟨rfl, rfl, by decide, by decide⟩ rX_bl (rX_mv hB) (rX_recv hB) rfl hl.1 rfl (Nat.le_of_ble_eq_true rfl) dX0_value_32 ⟨Nat.zero_le _, Nat.zero_le _⟩ rfl ?_
    have hdx35 := dxZ_or F f
    refine zi_fne (tgt := 51) hx hb dX0_value_35 (by decide) (by omega) (fun hc35 => ?_) (fun hc35 => ?_)
    · refine zi_const hx hb (-1) dX0_value_51 ?_
      exact rd_iret hx hb hr hlk (congrArg (fun z => some (Value.int (iZ z))) (show (vlZ F f x1 l1 e1 : Int) = (-1) from by unfold vlZ; rw [if_pos (by omega)])) dX0_value_52
    · refine lv_iload hx hb dX0_value_38 (lv_at hl 0 rfl) ?_
      refine zi_fne (tgt := 53) hx hb dX0_value_40 (by decide) (by omega) (fun hc40 => ?_) (fun hc40 => ?_)
      · have hq1 := pwP_rng v1 32001
        have hq2 := pwP_rng v3 32001
        refine lv_iload hx hb dX0_value_53 (lv_at hl 2 rfl) ?_
        refine rd_S (As := [.int (iZ v1)]) (rest := []) (st1 := [.int (iZ (pwP v1 32001))]) S (k_X0_inverse l v1 (by omega)) tb_304 tb_305 tb_1 tb_306 hd_X0_inverse ⟨rfl, rfl, by decide, by decide⟩ bl_T (fun _ _ _ => trivial) rfl hl.1 rfl (Nat.le_of_ble_eq_true rfl) dX0_value_55 ⟨Nat.zero_le _, Nat.zero_le _⟩ rfl ?_
        refine zi_top (fun v18 ev18 => ?_)
        refine lv_istore (lv' := [(11, .int (iZ v18)), (10, .int (iZ v3)), (9, .int (iZ v2)), (8, .int (iZ v1)), (0, .ref o), (1, .int (iZ f)), (2, .long (lZ x1)), (4, .long (lZ l1)), (6, .long (lZ e1))]) hx hb dX0_value_58 hl (by decide) rfl (fun ls hl => ?_)
        refine lv_iload hx hb dX0_value_60 (lv_at hl 1 rfl) ?_
        refine rd_S (As := [.int (iZ v3)]) (rest := []) (st1 := [.int (iZ (pwP v3 32001))]) S (k_X0_inverse l v3 (by omega)) tb_304 tb_305 tb_1 tb_306 hd_X0_inverse ⟨rfl, rfl, by decide, by decide⟩ bl_T (fun _ _ _ => trivial) rfl hl.1 rfl (Nat.le_of_ble_eq_true rfl) dX0_value_62 ⟨Nat.zero_le _, Nat.zero_le _⟩ rfl ?_
        refine zi_top (fun v19 ev19 => ?_)
        refine lv_istore (lv' := [(12, .int (iZ v19)), (11, .int (iZ v18)), (10, .int (iZ v3)), (9, .int (iZ v2)), (8, .int (iZ v1)), (0, .ref o), (1, .int (iZ f)), (2, .long (lZ x1)), (4, .long (lZ l1)), (6, .long (lZ e1))]) hx hb dX0_value_65 hl (by decide) rfl (fun ls hl => ?_)
        refine zi_const hx hb 0 dX0_value_67 ?_
        refine lv_istore (lv' := [(13, .int (iZ 0)), (12, .int (iZ v19)), (11, .int (iZ v18)), (10, .int (iZ v3)), (9, .int (iZ v2)), (8, .int (iZ v1)), (0, .ref o), (1, .int (iZ f)), (2, .long (lZ x1)), (4, .long (lZ l1)), (6, .long (lZ e1))]) hx hb dX0_value_68 hl (by decide) rfl (fun ls hl => ?_)
        refine zi_const hx hb 0 dX0_value_70 ?_
        refine lv_istore (lv' := [(14, .int (iZ 0)), (13, .int (iZ 0)), (12, .int (iZ v19)), (11, .int (iZ v18)), (10, .int (iZ v3)), (9, .int (iZ v2)), (8, .int (iZ v1)), (0, .ref o), (1, .int (iZ f)), (2, .long (lZ x1)), (4, .long (lZ l1)), (6, .long (lZ e1))]) hx hb dX0_value_71 hl (by decide) rfl (fun ls hl => ?_)
        refine lp_go (nL := 16) (α := Int × Int) (fun z => [(0, .ref o), (1, .int (iZ f)), (8, .int (iZ v1)), (9, .int (iZ v2)), (10, .int (iZ v3)), (11, .int (iZ v18)), (12, .int (iZ v19)), (13, .int (iZ z.1)), (14, .int (iZ z.2))]) (fun m73 z => 0 ≤ z.2 ∧ z.2 + (m73 : Int) = 8 ∧ z.1 = suZ F f v1 v2 v3 v18 v19 z.2.toNat) ?_ 8 ((0 : Int), (0 : Int)) (by exact ⟨by omega, by omega, rfl⟩) ls (lv_sub hl [7, 8, 6, 5, 4, 3, 2, 1, 0] rfl)
        intro m73 z20 hI73 ih73 ls hl
        obtain ⟨v, c1⟩ := z20
        have hl : lv_has ls 16 [(0, .ref o), (1, .int (iZ f)), (8, .int (iZ v1)), (9, .int (iZ v2)), (10, .int (iZ v3)), (11, .int (iZ v18)), (12, .int (iZ v19)), (13, .int (iZ v)), (14, .int (iZ c1))] := hl
        have hI73 : 0 ≤ c1 ∧ c1 + (m73 : Int) = 8 ∧ v = suZ F f v1 v2 v3 v18 v19 c1.toNat := hI73
        have hel := lPz_rng c1
        have hee := ePz_rng c1
        have hvr := suZ_rng F f v1 v2 v3 v18 v19 c1.toNat
        rw [← hI73.2.2] at hvr
        have hp1 := pwP_rng v2 (lPz c1).toNat
        have hp2 := pwP_rng v19 (Int.toNat (if 0 ≤ ePz c1 then ePz c1 else -ePz c1))
        have hp3 := pwP_rng v3 (Int.toNat (if 0 ≤ ePz c1 then ePz c1 else -ePz c1))
        have hab : 0 ≤ (if 0 ≤ ePz c1 then ePz c1 else -ePz c1) ∧ (if 0 ≤ ePz c1 then ePz c1 else -ePz c1) ≤ 2 := by split <;> omega
        refine lv_iload hx hb dX0_value_73 (lv_at hl 8 rfl) ?_
        refine zi_bi hx hb 8 dX0_value_75 (by decide) ?_
        refine zi_cge (tgt := 155) hx hb dX0_value_77 (by decide) (by omega) (by omega) (fun hc77 => ?_) (fun hc77 => ?_)
        · refine lv_iload hx hb dX0_value_155 (lv_at hl 7 rfl) ?_
          exact rd_iret hx hb hr hlk (congrArg (fun z => some (Value.int (iZ z))) (show (vlZ F f x1 l1 e1 : Int) = v from by unfold vlZ; rw [if_neg (by omega), hI73.2.2, show c1.toNat = 8 by omega, ev18, ev19, ev1, ev2, ev3])) dX0_value_157
        · refine lv_iload hx hb dX0_value_80 (lv_at hl 3 rfl) ?_
          refine va_gets hx hb hZL va_S.rf hown (hT _ tb_238) (fun _ h9 => h9) dX0_value_82 ?_
          refine lv_iload hx hb dX0_value_85 (lv_at hl 8 rfl) ?_
          refine va_ti hx hb hTL va_S.rf (iZ_in (by omega) (by omega) (by decide)) (lP_at (z := c1) (by omega)) dX0_value_87 ?_
          refine rd_S (As := [.int (iZ v2), .int (iZ (lPz c1))]) (rest := []) (st1 := [.int (iZ (pwP v2 (Int.toNat (lPz c1))))]) S (k_X0_power l v2 (lPz c1) (by omega) (by omega)) tb_307 tb_308 tb_1 tb_309 hd_X0_power ⟨rfl, rfl, by decide, by decide⟩ bl_T (fun _ _ _ => trivial) rfl hl.1 rfl (Nat.le_of_ble_eq_true rfl) dX0_value_88 ⟨Nat.zero_le _, Nat.zero_le _⟩ rfl ?_
          refine va_gets hx hb hZE va_S.rf hown (hT _ tb_236) (fun _ h9 => h9) dX0_value_91 ?_
          refine lv_iload hx hb dX0_value_94 (lv_at hl 8 rfl) ?_
          refine va_ti hx hb hTE va_S.rf (iZ_in (by omega) (by omega) (by decide)) (eP_at (z := c1) (by omega)) dX0_value_96 ?_
          refine zi_fge (tgt := 105) hx hb dX0_value_97 (by decide) (by omega) (fun hc97 => ?_) (fun hc97 => ?_)
          · refine lv_iload hx hb dX0_value_105 (lv_at hl 4 rfl) ?_
            refine va_gets hx hb hZE va_S.rf hown (hT _ tb_236) (fun _ h9 => h9) dX0_value_107 ?_
            refine lv_iload hx hb dX0_value_110 (lv_at hl 8 rfl) ?_
            refine va_ti hx hb hTE va_S.rf (iZ_in (by omega) (by omega) (by decide)) (eP_at (z := c1) (by omega)) dX0_value_112 ?_
            refine va_mabs hx hb (by rw [hml]; exact hl.1.symm) hown (hT _ tb_373) (hT _ tb_374) (hT _ tb_9) (hT _ tb_375) (by decide) (Nat.le_of_ble_eq_true rfl) (Nat.zero_le _) (Nat.zero_le _) dX0_value_113 ?_
            refine zi_as (ab_at (z := ePz c1) (by omega)) ?_
            refine rd_S (As := [.int (iZ v3), .int (iZ (if 0 ≤ ePz c1 then ePz c1 else -(ePz c1)))]) (rest := [.int (iZ (pwP v2 (Int.toNat (lPz c1))))]) (st1 := [.int (iZ (pwP v3 (Int.toNat (if 0 ≤ ePz c1 then ePz c1 else -(ePz c1))))), .int (iZ (pwP v2 (Int.toNat (lPz c1))))]) S (k_X0_power l v3 (if 0 ≤ ePz c1 then ePz c1 else -(ePz c1)) (by omega) (by omega)) tb_307 tb_308 tb_1 tb_309 hd_X0_power ⟨rfl, rfl, by decide, by decide⟩ bl_T (fun _ _ _ => trivial) rfl hl.1 rfl (Nat.le_of_ble_eq_true rfl) dX0_value_116 ⟨Nat.zero_le _, Nat.zero_le _⟩ rfl ?_
            refine rd_S (As := [.int (iZ (pwP v2 (Int.toNat (lPz c1)))), .int (iZ (pwP v3 (Int.toNat (if 0 ≤ ePz c1 then ePz c1 else -(ePz c1)))))]) (rest := []) (st1 := [.int (iZ ((pwP v2 (Int.toNat (lPz c1))) * (pwP v3 (Int.toNat (if 0 ≤ ePz c1 then ePz c1 else -(ePz c1)))) % 32003))]) S (k_X0_multiply l (pwP v2 (Int.toNat (lPz c1))) (pwP v3 (Int.toNat (if 0 ≤ ePz c1 then ePz c1 else -(ePz c1)))) (by omega) (by omega)) tb_310 tb_311 tb_1 tb_312 hd_X0_multiply ⟨rfl, rfl, by decide, by decide⟩ bl_T (fun _ _ _ => trivial) rfl hl.1 rfl (Nat.le_of_ble_eq_true rfl) dX0_value_119 ⟨Nat.zero_le _, Nat.zero_le _⟩ rfl ?_
            refine zi_top (fun v21 ev21 => ?_)
            refine lv_istore (lv' := [(15, .int (iZ v21)), (0, .ref o), (1, .int (iZ f)), (8, .int (iZ v1)), (9, .int (iZ v2)), (10, .int (iZ v3)), (11, .int (iZ v18)), (12, .int (iZ v19)), (13, .int (iZ v)), (14, .int (iZ c1))]) hx hb dX0_value_122 hl (by decide) rfl (fun ls hl => ?_)
            have hkv : 0 ≤ v21 ∧ v21 < 32003 := by rw [ev21]; omega
            have hkm := mul_rng hkv (vxZ_rng F f c1 v1 v18)
            refine lv_iload hx hb dX0_value_124 (lv_at hl 8 rfl) ?_
            refine zi_i2l hx hb dX0_value_126 (by omega) ?_
            refine lv_iload hx hb dX0_value_127 (lv_at hl 0 rfl) ?_
            refine zi_i2l hx hb dX0_value_129 (by omega) ?_
            refine lv_aload_n hx hb dX0_value_130 rfl (lv_at hl 1 rfl) ?_
            refine lv_iload_n hx hb dX0_value_131 rfl (lv_at hl 2 rfl) ?_
            refine lv_iload hx hb dX0_value_132 (lv_at hl 9 rfl) ?_
            refine lv_iload hx hb dX0_value_134 (lv_at hl 3 rfl) ?_
            refine lv_iload hx hb dX0_value_136 (lv_at hl 6 rfl) ?_
            refine rd_V (As := [.int (iZ f), .int (iZ c1), .int (iZ v1), .int (iZ v18)]) (rest := [.long (lZ v21), .long (lZ v)]) (st1 := [.int (iZ (vxZ F f c1 v1 v18)), .long (lZ v21), .long (lZ v)]) S (k_X0_valueInX l D o q1 q2 cI tE tL F G k f c1 v1 v18 hF (by omega) (by omega) (by omega) (by omega)) tb_376 tb_378 ts_X0_valueInX tb_1 tb_379 hd_X0_valueInX ⟨rfl, rfl, by decide, by decide⟩ rX_bl (rX_mv hB) (rX_recv hB) rfl hl.1 rfl (Nat.le_of_ble_eq_true rfl) dX0_value_138 ⟨Nat.zero_le _, Nat.zero_le _⟩ rfl ?_
            have hvx141 := vxZ_rng F f c1 v1 v18
            refine zi_i2l hx hb dX0_value_141 (by omega) ?_
            refine zl_mul hx hb dX0_value_142 ?_
            refine zl_add hx hb dX0_value_143 ?_
            refine rd_S (As := [.long (lZ (v + (v21 * (vxZ F f c1 v1 v18))))]) (rest := []) (st1 := [.int (iZ ((v + (v21 * (vxZ F f c1 v1 v18))) % 32003))]) S (k_X0_reduce l (v + (v21 * (vxZ F f c1 v1 v18))) (by omega)) tb_154 tb_155 tb_1 tb_156 hd_X0_reduce ⟨rfl, rfl, by decide, by decide⟩ bl_T (fun _ _ _ => trivial) rfl hl.1 rfl (Nat.le_of_ble_eq_true rfl) dX0_value_144 ⟨Nat.zero_le _, Nat.zero_le _⟩ rfl ?_
            refine zi_top (fun v22 ev22 => ?_)
            refine lv_istore (lv' := [(13, .int (iZ v22)), (15, .int (iZ v21)), (0, .ref o), (1, .int (iZ f)), (8, .int (iZ v1)), (9, .int (iZ v2)), (10, .int (iZ v3)), (11, .int (iZ v18)), (12, .int (iZ v19)), (14, .int (iZ c1))]) hx hb dX0_value_147 hl (by decide) rfl (fun ls hl => ?_)
            refine zi_inc (lv' := [(14, .int (iZ (c1 + 1))), (13, .int (iZ v22)), (15, .int (iZ v21)), (0, .ref o), (1, .int (iZ f)), (8, .int (iZ v1)), (9, .int (iZ v2)), (10, .int (iZ v3)), (11, .int (iZ v18)), (12, .int (iZ v19))]) hx hb dX0_value_149 hl (k := 9) rfl (by decide) rfl (fun ls hl => ?_)
            refine lv_goto (tgt := 73) hx hb dX0_value_152 (by decide) ?_
            exact ih73 (m73 - 1) (v22, c1 + 1) (by omega) (by refine ⟨by omega, by omega, ?_⟩; rw [ev22]; exact su_step (by omega) hI73.2.2 (by rw [ev21]; unfold kvZ; rw [if_neg (show ¬ ePz c1 < 0 by omega)])) ls (lv_sub hl [3, 4, 5, 6, 7, 8, 9, 1, 0] rfl)
          · refine lv_iload hx hb dX0_value_100 (lv_at hl 6 rfl) ?_
            refine lv_goto (tgt := 107) hx hb dX0_value_102 (by decide) ?_
            refine va_gets hx hb hZE va_S.rf hown (hT _ tb_236) (fun _ h9 => h9) dX0_value_107 ?_
            refine lv_iload hx hb dX0_value_110 (lv_at hl 8 rfl) ?_
            refine va_ti hx hb hTE va_S.rf (iZ_in (by omega) (by omega) (by decide)) (eP_at (z := c1) (by omega)) dX0_value_112 ?_
            refine va_mabs hx hb (by rw [hml]; exact hl.1.symm) hown (hT _ tb_373) (hT _ tb_374) (hT _ tb_9) (hT _ tb_375) (by decide) (Nat.le_of_ble_eq_true rfl) (Nat.zero_le _) (Nat.zero_le _) dX0_value_113 ?_
            refine zi_as (ab_at (z := ePz c1) (by omega)) ?_
            refine rd_S (As := [.int (iZ v19), .int (iZ (if 0 ≤ ePz c1 then ePz c1 else -(ePz c1)))]) (rest := [.int (iZ (pwP v2 (Int.toNat (lPz c1))))]) (st1 := [.int (iZ (pwP v19 (Int.toNat (if 0 ≤ ePz c1 then ePz c1 else -(ePz c1))))), .int (iZ (pwP v2 (Int.toNat (lPz c1))))]) S (k_X0_power l v19 (if 0 ≤ ePz c1 then ePz c1 else -(ePz c1)) (by omega) (by omega)) tb_307 tb_308 tb_1 tb_309 hd_X0_power ⟨rfl, rfl, by decide, by decide⟩ bl_T (fun _ _ _ => trivial) rfl hl.1 rfl (Nat.le_of_ble_eq_true rfl) dX0_value_116 ⟨Nat.zero_le _, Nat.zero_le _⟩ rfl ?_
            refine rd_S (As := [.int (iZ (pwP v2 (Int.toNat (lPz c1)))), .int (iZ (pwP v19 (Int.toNat (if 0 ≤ ePz c1 then ePz c1 else -(ePz c1)))))]) (rest := []) (st1 := [.int (iZ ((pwP v2 (Int.toNat (lPz c1))) * (pwP v19 (Int.toNat (if 0 ≤ ePz c1 then ePz c1 else -(ePz c1)))) % 32003))]) S (k_X0_multiply l (pwP v2 (Int.toNat (lPz c1))) (pwP v19 (Int.toNat (if 0 ≤ ePz c1 then ePz c1 else -(ePz c1)))) (by omega) (by omega)) tb_310 tb_311 tb_1 tb_312 hd_X0_multiply ⟨rfl, rfl, by decide, by decide⟩ bl_T (fun _ _ _ => trivial) rfl hl.1 rfl (Nat.le_of_ble_eq_true rfl) dX0_value_119 ⟨Nat.zero_le _, Nat.zero_le _⟩ rfl ?_
            refine zi_top (fun v23 ev23 => ?_)
            refine lv_istore (lv' := [(15, .int (iZ v23)), (0, .ref o), (1, .int (iZ f)), (8, .int (iZ v1)), (9, .int (iZ v2)), (10, .int (iZ v3)), (11, .int (iZ v18)), (12, .int (iZ v19)), (13, .int (iZ v)), (14, .int (iZ c1))]) hx hb dX0_value_122 hl (by decide) rfl (fun ls hl => ?_)
            have hkv : 0 ≤ v23 ∧ v23 < 32003 := by rw [ev23]; omega
            have hkm := mul_rng hkv (vxZ_rng F f c1 v1 v18)
            refine lv_iload hx hb dX0_value_124 (lv_at hl 8 rfl) ?_
            refine zi_i2l hx hb dX0_value_126 (by omega) ?_
            refine lv_iload hx hb dX0_value_127 (lv_at hl 0 rfl) ?_
            refine zi_i2l hx hb dX0_value_129 (by omega) ?_
            refine lv_aload_n hx hb dX0_value_130 rfl (lv_at hl 1 rfl) ?_
            refine lv_iload_n hx hb dX0_value_131 rfl (lv_at hl 2 rfl) ?_
            refine lv_iload hx hb dX0_value_132 (lv_at hl 9 rfl) ?_
            refine lv_iload hx hb dX0_value_134 (lv_at hl 3 rfl) ?_
            refine lv_iload hx hb dX0_value_136 (lv_at hl 6 rfl) ?_
            refine rd_V (As := [.int (iZ f), .int (iZ c1), .int (iZ v1), .int (iZ v18)]) (rest := [.long (lZ v23), .long (lZ v)]) (st1 := [.int (iZ (vxZ F f c1 v1 v18)), .long (lZ v23), .long (lZ v)]) S (k_X0_valueInX l D o q1 q2 cI tE tL F G k f c1 v1 v18 hF (by omega) (by omega) (by omega) (by omega)) tb_376 tb_378 ts_X0_valueInX tb_1 tb_379 hd_X0_valueInX ⟨rfl, rfl, by decide, by decide⟩ rX_bl (rX_mv hB) (rX_recv hB) rfl hl.1 rfl (Nat.le_of_ble_eq_true rfl) dX0_value_138 ⟨Nat.zero_le _, Nat.zero_le _⟩ rfl ?_
            have hvx141 := vxZ_rng F f c1 v1 v18
            refine zi_i2l hx hb dX0_value_141 (by omega) ?_
            refine zl_mul hx hb dX0_value_142 ?_
            refine zl_add hx hb dX0_value_143 ?_
            refine rd_S (As := [.long (lZ (v + (v23 * (vxZ F f c1 v1 v18))))]) (rest := []) (st1 := [.int (iZ ((v + (v23 * (vxZ F f c1 v1 v18))) % 32003))]) S (k_X0_reduce l (v + (v23 * (vxZ F f c1 v1 v18))) (by omega)) tb_154 tb_155 tb_1 tb_156 hd_X0_reduce ⟨rfl, rfl, by decide, by decide⟩ bl_T (fun _ _ _ => trivial) rfl hl.1 rfl (Nat.le_of_ble_eq_true rfl) dX0_value_144 ⟨Nat.zero_le _, Nat.zero_le _⟩ rfl ?_
            refine zi_top (fun v24 ev24 => ?_)
            refine lv_istore (lv' := [(13, .int (iZ v24)), (15, .int (iZ v23)), (0, .ref o), (1, .int (iZ f)), (8, .int (iZ v1)), (9, .int (iZ v2)), (10, .int (iZ v3)), (11, .int (iZ v18)), (12, .int (iZ v19)), (14, .int (iZ c1))]) hx hb dX0_value_147 hl (by decide) rfl (fun ls hl => ?_)
            refine zi_inc (lv' := [(14, .int (iZ (c1 + 1))), (13, .int (iZ v24)), (15, .int (iZ v23)), (0, .ref o), (1, .int (iZ f)), (8, .int (iZ v1)), (9, .int (iZ v2)), (10, .int (iZ v3)), (11, .int (iZ v18)), (12, .int (iZ v19))]) hx hb dX0_value_149 hl (k := 9) rfl (by decide) rfl (fun ls hl => ?_)
            refine lv_goto (tgt := 73) hx hb dX0_value_152 (by decide) ?_
            exact ih73 (m73 - 1) (v24, c1 + 1) (by omega) (by refine ⟨by omega, by omega, ?_⟩; rw [ev24]; exact su_step (by omega) hI73.2.2 (by rw [ev23]; unfold kvZ; rw [if_pos (show ePz c1 < 0 by omega)])) ls (lv_sub hl [3, 4, 5, 6, 7, 8, 9, 1, 0] rfl)
      · refine lv_aload_n hx hb dX0_value_43 rfl (lv_at hl 3 rfl) ?_
        refine lv_iload_n hx hb dX0_value_44 rfl (lv_at hl 4 rfl) ?_
        refine rd_V (As := [.int (iZ f)]) (rest := []) (st1 := [.int (iZ (deZ F f))]) S (k_X0_dividesByE l D o q1 q2 cI tE tL F G k f hF (by omega)) tb_369 tb_371 ts_X0_dividesByE tb_1 tb_372 hd_X0_dividesByE ⟨rfl, rfl, by decide, by decide⟩ rX_bl (rX_mv hB) (rX_recv hB) rfl hl.1 rfl (Nat.le_of_ble_eq_true rfl) dX0_value_45 ⟨Nat.zero_le _, Nat.zero_le _⟩ rfl ?_
        have hde48 := deZ_or F f
        refine zi_feq (tgt := 53) hx hb dX0_value_48 (by decide) (by omega) (fun hc48 => ?_) (fun hc48 => ?_)
        · have hq1 := pwP_rng v1 32001
          have hq2 := pwP_rng v3 32001
          refine lv_iload hx hb dX0_value_53 (lv_at hl 2 rfl) ?_
          refine rd_S (As := [.int (iZ v1)]) (rest := []) (st1 := [.int (iZ (pwP v1 32001))]) S (k_X0_inverse l v1 (by omega)) tb_304 tb_305 tb_1 tb_306 hd_X0_inverse ⟨rfl, rfl, by decide, by decide⟩ bl_T (fun _ _ _ => trivial) rfl hl.1 rfl (Nat.le_of_ble_eq_true rfl) dX0_value_55 ⟨Nat.zero_le _, Nat.zero_le _⟩ rfl ?_
          refine zi_top (fun v25 ev25 => ?_)
          refine lv_istore (lv' := [(11, .int (iZ v25)), (10, .int (iZ v3)), (9, .int (iZ v2)), (8, .int (iZ v1)), (0, .ref o), (1, .int (iZ f)), (2, .long (lZ x1)), (4, .long (lZ l1)), (6, .long (lZ e1))]) hx hb dX0_value_58 hl (by decide) rfl (fun ls hl => ?_)
          refine lv_iload hx hb dX0_value_60 (lv_at hl 1 rfl) ?_
          refine rd_S (As := [.int (iZ v3)]) (rest := []) (st1 := [.int (iZ (pwP v3 32001))]) S (k_X0_inverse l v3 (by omega)) tb_304 tb_305 tb_1 tb_306 hd_X0_inverse ⟨rfl, rfl, by decide, by decide⟩ bl_T (fun _ _ _ => trivial) rfl hl.1 rfl (Nat.le_of_ble_eq_true rfl) dX0_value_62 ⟨Nat.zero_le _, Nat.zero_le _⟩ rfl ?_
          refine zi_top (fun v26 ev26 => ?_)
          refine lv_istore (lv' := [(12, .int (iZ v26)), (11, .int (iZ v25)), (10, .int (iZ v3)), (9, .int (iZ v2)), (8, .int (iZ v1)), (0, .ref o), (1, .int (iZ f)), (2, .long (lZ x1)), (4, .long (lZ l1)), (6, .long (lZ e1))]) hx hb dX0_value_65 hl (by decide) rfl (fun ls hl => ?_)
          refine zi_const hx hb 0 dX0_value_67 ?_
          refine lv_istore (lv' := [(13, .int (iZ 0)), (12, .int (iZ v26)), (11, .int (iZ v25)), (10, .int (iZ v3)), (9, .int (iZ v2)), (8, .int (iZ v1)), (0, .ref o), (1, .int (iZ f)), (2, .long (lZ x1)), (4, .long (lZ l1)), (6, .long (lZ e1))]) hx hb dX0_value_68 hl (by decide) rfl (fun ls hl => ?_)
          refine zi_const hx hb 0 dX0_value_70 ?_
          refine lv_istore (lv' := [(14, .int (iZ 0)), (13, .int (iZ 0)), (12, .int (iZ v26)), (11, .int (iZ v25)), (10, .int (iZ v3)), (9, .int (iZ v2)), (8, .int (iZ v1)), (0, .ref o), (1, .int (iZ f)), (2, .long (lZ x1)), (4, .long (lZ l1)), (6, .long (lZ e1))]) hx hb dX0_value_71 hl (by decide) rfl (fun ls hl => ?_)
          refine lp_go (nL := 16) (α := Int × Int) (fun z => [(0, .ref o), (1, .int (iZ f)), (8, .int (iZ v1)), (9, .int (iZ v2)), (10, .int (iZ v3)), (11, .int (iZ v25)), (12, .int (iZ v26)), (13, .int (iZ z.1)), (14, .int (iZ z.2))]) (fun m73 z => 0 ≤ z.2 ∧ z.2 + (m73 : Int) = 8 ∧ z.1 = suZ F f v1 v2 v3 v25 v26 z.2.toNat) ?_ 8 ((0 : Int), (0 : Int)) (by exact ⟨by omega, by omega, rfl⟩) ls (lv_sub hl [7, 8, 6, 5, 4, 3, 2, 1, 0] rfl)
          intro m73 z27 hI73 ih73 ls hl
          obtain ⟨v, c1⟩ := z27
          have hl : lv_has ls 16 [(0, .ref o), (1, .int (iZ f)), (8, .int (iZ v1)), (9, .int (iZ v2)), (10, .int (iZ v3)), (11, .int (iZ v25)), (12, .int (iZ v26)), (13, .int (iZ v)), (14, .int (iZ c1))] := hl
          have hI73 : 0 ≤ c1 ∧ c1 + (m73 : Int) = 8 ∧ v = suZ F f v1 v2 v3 v25 v26 c1.toNat := hI73
          have hel := lPz_rng c1
          have hee := ePz_rng c1
          have hvr := suZ_rng F f v1 v2 v3 v25 v26 c1.toNat
          rw [← hI73.2.2] at hvr
          have hp1 := pwP_rng v2 (lPz c1).toNat
          have hp2 := pwP_rng v26 (Int.toNat (if 0 ≤ ePz c1 then ePz c1 else -ePz c1))
          have hp3 := pwP_rng v3 (Int.toNat (if 0 ≤ ePz c1 then ePz c1 else -ePz c1))
          have hab : 0 ≤ (if 0 ≤ ePz c1 then ePz c1 else -ePz c1) ∧ (if 0 ≤ ePz c1 then ePz c1 else -ePz c1) ≤ 2 := by split <;> omega
          refine lv_iload hx hb dX0_value_73 (lv_at hl 8 rfl) ?_
          refine zi_bi hx hb 8 dX0_value_75 (by decide) ?_
          refine zi_cge (tgt := 155) hx hb dX0_value_77 (by decide) (by omega) (by omega) (fun hc77 => ?_) (fun hc77 => ?_)
          · refine lv_iload hx hb dX0_value_155 (lv_at hl 7 rfl) ?_
            exact rd_iret hx hb hr hlk (congrArg (fun z => some (Value.int (iZ z))) (show (vlZ F f x1 l1 e1 : Int) = v from by unfold vlZ; rw [if_neg (by omega), hI73.2.2, show c1.toNat = 8 by omega, ev25, ev26, ev1, ev2, ev3])) dX0_value_157
          · refine lv_iload hx hb dX0_value_80 (lv_at hl 3 rfl) ?_
            refine va_gets hx hb hZL va_S.rf hown (hT _ tb_238) (fun _ h9 => h9) dX0_value_82 ?_
            refine lv_iload hx hb dX0_value_85 (lv_at hl 8 rfl) ?_
            refine va_ti hx hb hTL va_S.rf (iZ_in (by omega) (by omega) (by decide)) (lP_at (z := c1) (by omega)) dX0_value_87 ?_
            refine rd_S (As := [.int (iZ v2), .int (iZ (lPz c1))]) (rest := []) (st1 := [.int (iZ (pwP v2 (Int.toNat (lPz c1))))]) S (k_X0_power l v2 (lPz c1) (by omega) (by omega)) tb_307 tb_308 tb_1 tb_309 hd_X0_power ⟨rfl, rfl, by decide, by decide⟩ bl_T (fun _ _ _ => trivial) rfl hl.1 rfl (Nat.le_of_ble_eq_true rfl) dX0_value_88 ⟨Nat.zero_le _, Nat.zero_le _⟩ rfl ?_
            refine va_gets hx hb hZE va_S.rf hown (hT _ tb_236) (fun _ h9 => h9) dX0_value_91 ?_
            refine lv_iload hx hb dX0_value_94 (lv_at hl 8 rfl) ?_
            refine va_ti hx hb hTE va_S.rf (iZ_in (by omega) (by omega) (by decide)) (eP_at (z := c1) (by omega)) dX0_value_96 ?_
            refine zi_fge (tgt := 105) hx hb dX0_value_97 (by decide) (by omega) (fun hc97 => ?_) (fun hc97 => ?_)
            · refine lv_iload hx hb dX0_value_105 (lv_at hl 4 rfl) ?_
              refine va_gets hx hb hZE va_S.rf hown (hT _ tb_236) (fun _ h9 => h9) dX0_value_107 ?_
              refine lv_iload hx hb dX0_value_110 (lv_at hl 8 rfl) ?_
              refine va_ti hx hb hTE va_S.rf (iZ_in (by omega) (by omega) (by decide)) (eP_at (z := c1) (by omega)) dX0_value_112 ?_
              refine va_mabs hx hb (by rw [hml]; exact hl.1.symm) hown (hT _ tb_373) (hT _ tb_374) (hT _ tb_9) (hT _ tb_375) (by decide) (Nat.le_of_ble_eq_true rfl) (Nat.zero_le _) (Nat.zero_le _) dX0_value_113 ?_
              refine zi_as (ab_at (z := ePz c1) (by omega)) ?_
              refine rd_S (As := [.int (iZ v3), .int (iZ (if 0 ≤ ePz c1 then ePz c1 else -(ePz c1)))]) (rest := [.int (iZ (pwP v2 (Int.toNat (lPz c1))))]) (st1 := [.int (iZ (pwP v3 (Int.toNat (if 0 ≤ ePz c1 then ePz c1 else -(ePz c1))))), .int (iZ (pwP v2 (Int.toNat (lPz c1))))]) S (k_X0_power l v3 (if 0 ≤ ePz c1 then ePz c1 else -(ePz c1)) (by omega) (by omega)) tb_307 tb_308 tb_1 tb_309 hd_X0_power ⟨rfl, rfl, by decide, by decide⟩ bl_T (fun _ _ _ => trivial) rfl hl.1 rfl (Nat.le_of_ble_eq_true rfl) dX0_value_116 ⟨Nat.zero_le _, Nat.zero_le _⟩ rfl ?_
              refine rd_S (As := [.int (iZ (pwP v2 (Int.toNat (lPz c1)))), .int (iZ (pwP v3 (Int.toNat (if 0 ≤ ePz c1 then ePz c1 else -(ePz c1)))))]) (rest := []) (st1 := [.int (iZ ((pwP v2 (Int.toNat (lPz c1))) * (pwP v3 (Int.toNat (if 0 ≤ ePz c1 then ePz c1 else -(ePz c1)))) % 32003))]) S (k_X0_multiply l (pwP v2 (Int.toNat (lPz c1))) (pwP v3 (Int.toNat (if 0 ≤ ePz c1 then ePz c1 else -(ePz c1)))) (by omega) (by omega)) tb_310 tb_311 tb_1 tb_312 hd_X0_multiply ⟨rfl, rfl, by decide, by decide⟩ bl_T (fun _ _ _ => trivial) rfl hl.1 rfl (Nat.le_of_ble_eq_true rfl) dX0_value_119 ⟨Nat.zero_le _, Nat.zero_le _⟩ rfl ?_
              refine zi_top (fun v28 ev28 => ?_)
              refine lv_istore (lv' := [(15, .int (iZ v28)), (0, .ref o), (1, .int (iZ f)), (8, .int (iZ v1)), (9, .int (iZ v2)), (10, .int (iZ v3)), (11, .int (iZ v25)), (12, .int (iZ v26)), (13, .int (iZ v)), (14, .int (iZ c1))]) hx hb dX0_value_122 hl (by decide) rfl (fun ls hl => ?_)
              have hkv : 0 ≤ v28 ∧ v28 < 32003 := by rw [ev28]; omega
              have hkm := mul_rng hkv (vxZ_rng F f c1 v1 v25)
              refine lv_iload hx hb dX0_value_124 (lv_at hl 8 rfl) ?_
              refine zi_i2l hx hb dX0_value_126 (by omega) ?_
              refine lv_iload hx hb dX0_value_127 (lv_at hl 0 rfl) ?_
              refine zi_i2l hx hb dX0_value_129 (by omega) ?_
              refine lv_aload_n hx hb dX0_value_130 rfl (lv_at hl 1 rfl) ?_
              refine lv_iload_n hx hb dX0_value_131 rfl (lv_at hl 2 rfl) ?_
              refine lv_iload hx hb dX0_value_132 (lv_at hl 9 rfl) ?_
              refine lv_iload hx hb dX0_value_134 (lv_at hl 3 rfl) ?_
              refine lv_iload hx hb dX0_value_136 (lv_at hl 6 rfl) ?_
              refine rd_V (As := [.int (iZ f), .int (iZ c1), .int (iZ v1), .int (iZ v25)]) (rest := [.long (lZ v28), .long (lZ v)]) (st1 := [.int (iZ (vxZ F f c1 v1 v25)), .long (lZ v28), .long (lZ v)]) S (k_X0_valueInX l D o q1 q2 cI tE tL F G k f c1 v1 v25 hF (by omega) (by omega) (by omega) (by omega)) tb_376 tb_378 ts_X0_valueInX tb_1 tb_379 hd_X0_valueInX ⟨rfl, rfl, by decide, by decide⟩ rX_bl (rX_mv hB) (rX_recv hB) rfl hl.1 rfl (Nat.le_of_ble_eq_true rfl) dX0_value_138 ⟨Nat.zero_le _, Nat.zero_le _⟩ rfl ?_
              have hvx141 := vxZ_rng F f c1 v1 v25
              refine zi_i2l hx hb dX0_value_141 (by omega) ?_
              refine zl_mul hx hb dX0_value_142 ?_
              refine zl_add hx hb dX0_value_143 ?_
              refine rd_S (As := [.long (lZ (v + (v28 * (vxZ F f c1 v1 v25))))]) (rest := []) (st1 := [.int (iZ ((v + (v28 * (vxZ F f c1 v1 v25))) % 32003))]) S (k_X0_reduce l (v + (v28 * (vxZ F f c1 v1 v25))) (by omega)) tb_154 tb_155 tb_1 tb_156 hd_X0_reduce ⟨rfl, rfl, by decide, by decide⟩ bl_T (fun _ _ _ => trivial) rfl hl.1 rfl (Nat.le_of_ble_eq_true rfl) dX0_value_144 ⟨Nat.zero_le _, Nat.zero_le _⟩ rfl ?_
              refine zi_top (fun v29 ev29 => ?_)
              refine lv_istore (lv' := [(13, .int (iZ v29)), (15, .int (iZ v28)), (0, .ref o), (1, .int (iZ f)), (8, .int (iZ v1)), (9, .int (iZ v2)), (10, .int (iZ v3)), (11, .int (iZ v25)), (12, .int (iZ v26)), (14, .int (iZ c1))]) hx hb dX0_value_147 hl (by decide) rfl (fun ls hl => ?_)
              refine zi_inc (lv' := [(14, .int (iZ (c1 + 1))), (13, .int (iZ v29)), (15, .int (iZ v28)), (0, .ref o), (1, .int (iZ f)), (8, .int (iZ v1)), (9, .int (iZ v2)), (10, .int (iZ v3)), (11, .int (iZ v25)), (12, .int (iZ v26))]) hx hb dX0_value_149 hl (k := 9) rfl (by decide) rfl (fun ls hl => ?_)
              refine lv_goto (tgt := 73) hx hb dX0_value_152 (by decide) ?_
              exact ih73 (m73 - 1) (v29, c1 + 1) (by omega) (by refine ⟨by omega, by omega, ?_⟩; rw [ev29]; exact su_step (by omega) hI73.2.2 (by rw [ev28]; unfold kvZ; rw [if_neg (show ¬ ePz c1 < 0 by omega)])) ls (lv_sub hl [3, 4, 5, 6, 7, 8, 9, 1, 0] rfl)
            · refine lv_iload hx hb dX0_value_100 (lv_at hl 6 rfl) ?_
              refine lv_goto (tgt := 107) hx hb dX0_value_102 (by decide) ?_
              refine va_gets hx hb hZE va_S.rf hown (hT _ tb_236) (fun _ h9 => h9) dX0_value_107 ?_
              refine lv_iload hx hb dX0_value_110 (lv_at hl 8 rfl) ?_
              refine va_ti hx hb hTE va_S.rf (iZ_in (by omega) (by omega) (by decide)) (eP_at (z := c1) (by omega)) dX0_value_112 ?_
              refine va_mabs hx hb (by rw [hml]; exact hl.1.symm) hown (hT _ tb_373) (hT _ tb_374) (hT _ tb_9) (hT _ tb_375) (by decide) (Nat.le_of_ble_eq_true rfl) (Nat.zero_le _) (Nat.zero_le _) dX0_value_113 ?_
              refine zi_as (ab_at (z := ePz c1) (by omega)) ?_
              refine rd_S (As := [.int (iZ v26), .int (iZ (if 0 ≤ ePz c1 then ePz c1 else -(ePz c1)))]) (rest := [.int (iZ (pwP v2 (Int.toNat (lPz c1))))]) (st1 := [.int (iZ (pwP v26 (Int.toNat (if 0 ≤ ePz c1 then ePz c1 else -(ePz c1))))), .int (iZ (pwP v2 (Int.toNat (lPz c1))))]) S (k_X0_power l v26 (if 0 ≤ ePz c1 then ePz c1 else -(ePz c1)) (by omega) (by omega)) tb_307 tb_308 tb_1 tb_309 hd_X0_power ⟨rfl, rfl, by decide, by decide⟩ bl_T (fun _ _ _ => trivial) rfl hl.1 rfl (Nat.le_of_ble_eq_true rfl) dX0_value_116 ⟨Nat.zero_le _, Nat.zero_le _⟩ rfl ?_
              refine rd_S (As := [.int (iZ (pwP v2 (Int.toNat (lPz c1)))), .int (iZ (pwP v26 (Int.toNat (if 0 ≤ ePz c1 then ePz c1 else -(ePz c1)))))]) (rest := []) (st1 := [.int (iZ ((pwP v2 (Int.toNat (lPz c1))) * (pwP v26 (Int.toNat (if 0 ≤ ePz c1 then ePz c1 else -(ePz c1)))) % 32003))]) S (k_X0_multiply l (pwP v2 (Int.toNat (lPz c1))) (pwP v26 (Int.toNat (if 0 ≤ ePz c1 then ePz c1 else -(ePz c1)))) (by omega) (by omega)) tb_310 tb_311 tb_1 tb_312 hd_X0_multiply ⟨rfl, rfl, by decide, by decide⟩ bl_T (fun _ _ _ => trivial) rfl hl.1 rfl (Nat.le_of_ble_eq_true rfl) dX0_value_119 ⟨Nat.zero_le _, Nat.zero_le _⟩ rfl ?_
              refine zi_top (fun v30 ev30 => ?_)
              refine lv_istore (lv' := [(15, .int (iZ v30)), (0, .ref o), (1, .int (iZ f)), (8, .int (iZ v1)), (9, .int (iZ v2)), (10, .int (iZ v3)), (11, .int (iZ v25)), (12, .int (iZ v26)), (13, .int (iZ v)), (14, .int (iZ c1))]) hx hb dX0_value_122 hl (by decide) rfl (fun ls hl => ?_)
              have hkv : 0 ≤ v30 ∧ v30 < 32003 := by rw [ev30]; omega
              have hkm := mul_rng hkv (vxZ_rng F f c1 v1 v25)
              refine lv_iload hx hb dX0_value_124 (lv_at hl 8 rfl) ?_
              refine zi_i2l hx hb dX0_value_126 (by omega) ?_
              refine lv_iload hx hb dX0_value_127 (lv_at hl 0 rfl) ?_
              refine zi_i2l hx hb dX0_value_129 (by omega) ?_
              refine lv_aload_n hx hb dX0_value_130 rfl (lv_at hl 1 rfl) ?_
              refine lv_iload_n hx hb dX0_value_131 rfl (lv_at hl 2 rfl) ?_
              refine lv_iload hx hb dX0_value_132 (lv_at hl 9 rfl) ?_
              refine lv_iload hx hb dX0_value_134 (lv_at hl 3 rfl) ?_
              refine lv_iload hx hb dX0_value_136 (lv_at hl 6 rfl) ?_
              refine rd_V (As := [.int (iZ f), .int (iZ c1), .int (iZ v1), .int (iZ v25)]) (rest := [.long (lZ v30), .long (lZ v)]) (st1 := [.int (iZ (vxZ F f c1 v1 v25)), .long (lZ v30), .long (lZ v)]) S (k_X0_valueInX l D o q1 q2 cI tE tL F G k f c1 v1 v25 hF (by omega) (by omega) (by omega) (by omega)) tb_376 tb_378 ts_X0_valueInX tb_1 tb_379 hd_X0_valueInX ⟨rfl, rfl, by decide, by decide⟩ rX_bl (rX_mv hB) (rX_recv hB) rfl hl.1 rfl (Nat.le_of_ble_eq_true rfl) dX0_value_138 ⟨Nat.zero_le _, Nat.zero_le _⟩ rfl ?_
              have hvx141 := vxZ_rng F f c1 v1 v25
              refine zi_i2l hx hb dX0_value_141 (by omega) ?_
              refine zl_mul hx hb dX0_value_142 ?_
              refine zl_add hx hb dX0_value_143 ?_
              refine rd_S (As := [.long (lZ (v + (v30 * (vxZ F f c1 v1 v25))))]) (rest := []) (st1 := [.int (iZ ((v + (v30 * (vxZ F f c1 v1 v25))) % 32003))]) S (k_X0_reduce l (v + (v30 * (vxZ F f c1 v1 v25))) (by omega)) tb_154 tb_155 tb_1 tb_156 hd_X0_reduce ⟨rfl, rfl, by decide, by decide⟩ bl_T (fun _ _ _ => trivial) rfl hl.1 rfl (Nat.le_of_ble_eq_true rfl) dX0_value_144 ⟨Nat.zero_le _, Nat.zero_le _⟩ rfl ?_
              refine zi_top (fun v31 ev31 => ?_)
              refine lv_istore (lv' := [(13, .int (iZ v31)), (15, .int (iZ v30)), (0, .ref o), (1, .int (iZ f)), (8, .int (iZ v1)), (9, .int (iZ v2)), (10, .int (iZ v3)), (11, .int (iZ v25)), (12, .int (iZ v26)), (14, .int (iZ c1))]) hx hb dX0_value_147 hl (by decide) rfl (fun ls hl => ?_)
              refine zi_inc (lv' := [(14, .int (iZ (c1 + 1))), (13, .int (iZ v31)), (15, .int (iZ v30)), (0, .ref o), (1, .int (iZ f)), (8, .int (iZ v1)), (9, .int (iZ v2)), (10, .int (iZ v3)), (11, .int (iZ v25)), (12, .int (iZ v26))]) hx hb dX0_value_149 hl (k := 9) rfl (by decide) rfl (fun ls hl => ?_)
              refine lv_goto (tgt := 73) hx hb dX0_value_152 (by decide) ?_
              exact ih73 (m73 - 1) (v31, c1 + 1) (by omega) (by refine ⟨by omega, by omega, ?_⟩; rw [ev31]; exact su_step (by omega) hI73.2.2 (by rw [ev30]; unfold kvZ; rw [if_pos (show ePz c1 < 0 by omega)])) ls (lv_sub hl [3, 4, 5, 6, 7, 8, 9, 1, 0] rfl)
        · refine zi_const hx hb (-1) dX0_value_51 ?_
          exact rd_iret hx hb hr hlk (congrArg (fun z => some (Value.int (iZ z))) (show (vlZ F f x1 l1 e1 : Int) = (-1) from by unfold vlZ; rw [if_pos (by omega)])) dX0_value_52
end
section
/-! ===== methods of the class that write its cells ===== -/
def aX (o q1 q2 sz : Nat) : Nat → Prop := fun q => (q = o ∨ q = q1 ∨ q = q2) ∨ sz ≤ q
def dX (o q1 q2 : Nat) : Prop := o ≠ q1 ∧ o ≠ q2 ∧ q1 ≠ q2
def uZ (F : Nat → Int) (n : Nat) (x : Int) : Nat → Int := fun j => if j = n then x else F j
theorem uZ_upd {F : Nat → Int} {i x : Int} (h : 0 ≤ i ∧ i ≤ 2147483647) : upd (fun j => iZ (F j)) (iZ i).toNatClampNeg (iZ x) = fun j => iZ (uZ F i.toNat x j) := by
  funext j
  rw [iZ_cl h.1 h.2]
  unfold uZ
  by_cases hj : j = i.toNat
  · subst hj
    rw [pk_us, if_pos rfl]
  · rw [pk_un hj, if_neg hj]
theorem dX_D {o q1 q2 : Nat} {cI : ClassId} {F G : Nat → Int} {k : Int} {A : Nat → Prop} (hd : dX o q1 q2) (hA : A o ∧ A q1 ∧ A q2) : va_D A (wX o q1 q2 cI F G k) := by
  obtain ⟨h1, h2, h3⟩ := hd
  obtain ⟨a1, a2, a3⟩ := hA
  refine ⟨fun i j p q hp hq e => ?_, fun i q hq => ?_⟩
  · match i, j, hp, hq with
    | 0, 0, _, _ => rfl
    | 1, 1, _, _ => rfl
    | 2, 2, _, _ => rfl
    | 0, 1, hp, hq => cases hp; cases hq; exact absurd e h1
    | 0, 2, hp, hq => cases hp; cases hq; exact absurd e h2
    | 1, 0, hp, hq => cases hp; cases hq; exact absurd e.symm h1
    | 1, 2, hp, hq => cases hp; cases hq; exact absurd e h3
    | 2, 0, hp, hq => cases hp; cases hq; exact absurd e.symm h2
    | 2, 1, hp, hq => cases hp; cases hq; exact absurd e.symm h3
    | i + 3, _, hp, _ => simp at hp
    | 0, j + 3, _, hq => simp at hq
    | 1, j + 3, _, hq => simp at hq
    | 2, j + 3, _, hq => simp at hq
  · match i, hq with
    | 0, hq => cases hq; exact a1
    | 1, hq => cases hq; exact a2
    | 2, hq => cases hq; exact a3
    | i + 3, hq => simp at hq
def cQ (D : va_G) (o q1 q2 : Nat) (cI : ClassId) (A : Nat → Prop) (r : Option Value) (F G : Nat → Int) (k : Int) : Array Value → State → Outcome → State → Prop := fun _ st oc t => oc = .returned r ∧ va_P D vwCl (wX o q1 q2 cI F G k) t.heap ∧ va_F A st t
def cB (D : va_G) (o q1 q2 : Nat) (cI : ClassId) (tE tL : Nat) (F G : Nat → Int) (k : Int) (sz : Nat) : State → Prop := fun U => U.heap.size = sz ∧ va_P D vwCl (wX o q1 q2 cI F G k) U.heap ∧ va_K D vwCl [(cI, .int)] U ∧ sX tE tL (aX o q1 q2 sz) U U.heap
def wr_M (l : Launch) (y : MethodName) (cc : ByteArray) (mL : Nat) (ret : Option FieldType) (rm : Room) (As : List Value) (D : va_G) (o q1 q2 : Nat) (cI : ClassId) (tE tL : Nat) (F G : Nat → Int) (k : Int) (r : Option Value) (F' G' : Nat → Int) (k' : Int) : Prop :=
  ∀ sz : Nat, Met l y (.code y cc mL ret :: TB) rm (va_Pc (.ref o :: As) (cB D o q1 q2 cI tE tL F G k sz)) (cQ D o q1 q2 cI (aX o q1 q2 sz) r F' G' k') 0 0 (aX o q1 q2 sz)
theorem cB_bl {D : va_G} {o q1 q2 : Nat} {cI : ClassId} {tE tL : Nat} {F G : Nat → Int} {k : Int} {sz : Nat} : bl_B (cB D o q1 q2 cI tE tL F G k sz) := fun U g mk a h => ⟨h.1, h.2.1, va_K.moved (u := U) (U := U.calling g mk a) (Vm.Alike.refl U.vm) h.2.2.1, sX.moved (u := U) (U := U.calling g mk a) (Vm.Alike.refl U.vm) h.2.2.2⟩
section WR
variable {p : Program} {l : Launch} {e : Env} {R : Room} {s : State} {m : MethodId} {args : Array Value} {below : List Frame} {meth : Method} {c : Code} {H : Heap} {locs : List Loc} {cells slots : Nat} {Q : State → Prop}
variable {pc : Nat} {ls : Array Slot} {rest st0 st1 : List Value} {a : Array Value} {D : va_G} {o q1 q2 : Nat} {cI : ClassId} {tE tL : Nat} {F G F' G' : Nat → Int} {k k' : Int} {A : Nat → Prop} {H0 : Heap}
theorem wr_go {r : Option Value} {A1 : Nat → Prop} (hr : va_Run p l e R s m args below meth c H locs cells slots 0 0 (F0 m pc ls st0) rest (cQ D o q1 q2 cI A1 r F' G' k' a) A1) (hS : va_S A H0 H locs) (hA1 : ∀ q, A1 q → A q)
    (kk : ∀ (H1 : Heap) (locs1 : List Loc), va_P D vwCl (wX o q1 q2 cI F' G' k') H1 → va_S A H0 H1 locs1 → H.size ≤ H1.size → (∀ q : Nat, q < H.size → ¬ A1 q → H1[q]? = H[q]?) → W p l e R s m args below meth c H1 locs1 cells slots Q (F0 m (pc + 3) ls (r.toList ++ rest))) : W p l e R s m args below meth c H locs cells slots Q (F0 m pc ls st0) := by
  intro T hT X
  obtain ⟨v, st₀, t, T', L, h0, X', hL, e1, e2, ⟨hv, hp, hz, hk⟩, st⟩ := hr T hT X
  cases hv
  rw [h0] at hz hk
  obtain ⟨t2, a1, b1⟩ := kk T'.heap (locs ++ L) (by rw [e1]; exact hp)
    ⟨Nat.le_trans hS.1 (by rw [e1]; exact hz), fun q h1 h2 => by rw [e1, hk q (Nat.lt_of_lt_of_le h1 hS.1) (fun z => h2 (hA1 q z))]; exact hS.2.1 q h1 h2, fun q hq => by
      rcases List.mem_append.mp hq with h | h
      · exact hS.2.2 q h
      · exact hA1 _ (hL q h)⟩ (by rw [e1]; exact hz) (fun q h1 h2 => by rw [e1]; exact hk q h1 h2) T' rfl X'
  exact ⟨t2, st t2 a1, b1⟩
variable {y : MethodName} {cc cy : ByteArray} {nL mL i n : Nat} {ret : Option FieldType} {rm : Room} {own : String} {As : List Value} {r : Option Value}
theorem wr_V (S : CallFix p m c cc nL s args TB own) (hM : wr_M l y cy mL ret rm As D o q1 q2 cI tE tL F G k r F' G' k') (h1 : Cond.methodLink own i y ∈ TB) (h2 : Cond.instanceMethod y ∈ TB) (h3 : Cond.selects RX0 y y ∈ TB) (h4 : Cond.initialized RX0 ∈ TB) (hc : Cond.code y cy mL ret ∈ TB)
    (hd : y.cls = RX0 ∧ y.cls ≠ "java/lang/invoke/MethodHandle" ∧ y.cls ≠ "java/lang/invoke/VarHandle" ∧ (parseMethodDescriptor y.desc).map (fun d => d.parameters.length) = some n) (hrm : rm.cells = 0 ∧ rm.slots = 0 ∧ rm.frames + 1 ≤ R.frames ∧ 8 + (mL + 11) + rm.locals ≤ R.locals)
    (hP : va_P D vwCl (wX o q1 q2 cI F G k) H) {tys : List (ClassId × FieldType)} (hK : va_K D vwCl tys s) (ht : tys[0]? = some (cI, .int)) (hs : sX tE tL A s s.heap) (hS : va_S A s.heap H locs) (hA : A o ∧ A q1 ∧ A q2) (hAn : ∀ q, s.heap.size ≤ q → A q)
    (hn : As.length = n) (hnL : ls.size = nL) (hst : st0 = As.reverse ++ .ref o :: rest) (hw : (rest.map fun v => v.category).sum ≤ 8) (hdg : decode cc pc = .ok (.invokevirtual i, 3)) (hcs : cells ≤ R.cells ∧ slots ≤ R.slots) (hs1 : r.toList ++ rest = st1)
    (kk : ∀ (H1 : Heap) (locs1 : List Loc), va_P D vwCl (wX o q1 q2 cI F' G' k') H1 → va_S A s.heap H1 locs1 → H.size ≤ H1.size → (∀ q : Nat, q < H.size → ¬ aX o q1 q2 H.size q → H1[q]? = H[q]?) → W p l e R s m args below meth c H1 locs1 cells slots Q (F0 m (pc + 3) ls st1)) : W p l e R s m args below meth c H locs cells slots Q (F0 m pc ls st0) := by
  have hsub : ∀ q, aX o q1 q2 H.size q → A q := fun q hq => by
    rcases hq with (h | h | h) | h
    · rw [h]; exact hA.1
    · rw [h]; exact hA.2.1
    · rw [h]; exact hA.2.2
    · exact hAn q (Nat.le_trans hS.1 h)
  have hK1 : va_K D vwCl [(cI, .int)] s := hK.sub [0] (by rw [List.filterMap_cons, ht]; rfl)
  refine wr_go (va_runV S (hM H.size) (cwV n S.2.2.2.2 (gd_V h1 h2 h3 h4 hc) rfl hrm.1 hrm.2.1 hd hrm.2.2) ⟨fun a U g mk q => ⟨q.1, cB_bl U g mk a q.2⟩, va_recv hK hP (ci := 0) (q0 := 0) rfl rfl, fun U hU hW => ⟨rfl, by rw [hU], by rw [hU]; exact hP, va_K.moved hW.alike hK1, by rw [hU]; exact sX.moved hW.alike ((hs.kept hS.2.1).narrow hsub)⟩⟩ rfl hn hnL hst (lv_room (m := m) (pc := pc) (ls := ls) (rest := st0) hw) hdg hcs) hS hsub (fun H1 locs1 a1 a2 a3 a4 => ?_)
  rw [hs1]
  exact kk H1 locs1 a1 a2 a3 a4
/-- what a reading method asks, in a heap that has moved on -/
theorem rX_w (hP : va_P D vwCl (wX o q1 q2 cI F G k) H) {tys : List (ClassId × FieldType)} (hK : va_K D vwCl tys s) (ht : tys[0]? = some (cI, .int)) (hs : sX tE tL A s s.heap) (hS : va_S A s.heap H locs) : ∀ U : State, U.heap = H → s.WarmedH U.vm → rX D o q1 q2 cI tE tL F G k U := fun U hU hW => by
  have hK1 : va_K D vwCl [(cI, .int)] s := hK.sub [0] (by rw [List.filterMap_cons, ht]; rfl)
  refine ⟨by rw [hU]; exact hP, va_K.moved hW.alike hK1, ?_⟩
  unfold sB
  rw [hU]
  exact sX.moved hW.alike ((hs.kept hS.2.1).narrow (fun q h => h.elim))
theorem sB_w (hs : sX tE tL A s s.heap) (hS : va_S A s.heap H locs) : ∀ U : State, U.heap = H → s.WarmedH U.vm → sB tE tL U := fun U hU hW => by
  unfold sB
  rw [hU]
  exact sX.moved hW.alike ((hs.kept hS.2.1).narrow (fun q h => h.elim))
/-- numbers[i] = x -/
theorem wx_num (hx : p.tables.exec = Jvm.exec) (hb : c.code = cc) (hK : va_K D vwCl [(cI, .int)] s) (hP : va_P D vwCl (wX o q1 q2 cI F G k) H) (hd : dX o q1 q2) (hA : A o ∧ A q1 ∧ A q2) (hS : va_S A H0 H locs) {z x : Int} (hi : 0 ≤ z ∧ z < 4320) (hdg : decode cc pc = .ok (.iastore, 1))
    (kk : ∀ (H1 : Heap) (locs1 : List Loc), va_P D vwCl (wX o q1 q2 cI (uZ F z.toNat x) G k) H1 → va_S A H0 H1 locs1 → W p l e R s m args below meth c H1 locs1 cells slots Q (F0 m (pc + 1) ls rest)) : W p l e R s m args below meth c H locs cells slots Q (F0 m pc ls (.int (iZ x) :: .int (iZ z) :: .ref q1 :: rest)) := by
  refine va_iast hx hb hK hP (dX_D hd hA) hS 1 0 rfl rfl (iZ_in hi.1 (by omega) (by decide)) hdg (fun H1 locs1 hP hD hS => kk H1 locs1 ?_ hS)
  rw [uZ_upd (by omega)] at hP
  exact hP
/-- wide[i] = x -/
theorem wx_wid (hx : p.tables.exec = Jvm.exec) (hb : c.code = cc) (hK : va_K D vwCl [(cI, .int)] s) (hP : va_P D vwCl (wX o q1 q2 cI F G k) H) (hd : dX o q1 q2) (hA : A o ∧ A q1 ∧ A q2) (hS : va_S A H0 H locs) {z x : Int} (hi : 0 ≤ z ∧ z < 255) (hdg : decode cc pc = .ok (.iastore, 1))
    (kk : ∀ (H1 : Heap) (locs1 : List Loc), va_P D vwCl (wX o q1 q2 cI F (uZ G z.toNat x) k) H1 → va_S A H0 H1 locs1 → W p l e R s m args below meth c H1 locs1 cells slots Q (F0 m (pc + 1) ls rest)) : W p l e R s m args below meth c H locs cells slots Q (F0 m pc ls (.int (iZ x) :: .int (iZ z) :: .ref q2 :: rest)) := by
  refine va_iast hx hb hK hP (dX_D hd hA) hS 2 0 rfl rfl (iZ_in hi.1 (by omega) (by decide)) hdg (fun H1 locs1 hP hD hS => kk H1 locs1 ?_ hS)
  rw [uZ_upd (by omega)] at hP
  exact hP
/-- a loop over the class's cells -/
theorem lp_goX {head nL : Nat} {α : Type} (lv : α → List (Nat × Value)) (wF wG : α → Nat → Int) (wk : α → Int) (I : Nat → α → Prop)
    (step : ∀ (n : Nat) (a : α), I n a → (∀ (k : Nat) (b : α), k < n → I k b → ∀ (H : Heap) (locs : List Loc), va_P D vwCl (wX o q1 q2 cI (wF b) (wG b) (wk b)) H → va_S A H0 H locs → ∀ ls : Array Slot, lv_has ls nL (lv b) → W p l e R s m args below meth c H locs cells slots Q (F0 m head ls [])) → ∀ (H : Heap) (locs : List Loc), va_P D vwCl (wX o q1 q2 cI (wF a) (wG a) (wk a)) H → va_S A H0 H locs → ∀ ls : Array Slot, lv_has ls nL (lv a) → W p l e R s m args below meth c H locs cells slots Q (F0 m head ls [])) :
    ∀ (n : Nat) (a : α), I n a → ∀ (H : Heap) (locs : List Loc), va_P D vwCl (wX o q1 q2 cI (wF a) (wG a) (wk a)) H → va_S A H0 H locs → ∀ ls : Array Slot, lv_has ls nL (lv a) → W p l e R s m args below meth c H locs cells slots Q (F0 m head ls []) := by
  intro n
  induction n using Nat.strongRecOn with
  | _ n ih => exact fun a ha H locs hP hS ls hl => step n a ha (fun k b hk hb => ih k hk b hb) H locs hP hS ls hl
theorem wP_eq {F1 G1 : Nat → Int} {k1 : Int} (hP : va_P D vwCl (wX o q1 q2 cI F G k) H) (hF : F = F1) (hG : G = G1) (hk : k = k1) : va_P D vwCl (wX o q1 q2 cI F1 G1 k1) H := by
  subst hF; subst hG; subst hk
  exact hP
end WR
/-- a writing method's body -/
theorem wr_of {l : Launch} {y : MethodName} {cc : ByteArray} {mL : Nat} {ret : Option FieldType} {rm : Room} {As : List Value} {D : va_G} {o q1 q2 : Nat} {cI : ClassId} {tE tL : Nat} {F G F' G' : Nat → Int} {k k' : Int} {r : Option Value} (hy : plainName y.cls = true) (ho : y.cls = RX0) (hL : (lg_sl (.ref o :: As)).length ≤ mL)
    (body : ∀ (p : Program) (e : Env) (s : State) (m : MethodId) (below : List Frame) (meth : Method) (c : Code) (A : Nat → Prop), A = aX o q1 q2 s.heap.size → CallFix p m c cc mL s (Value.ref o :: As).toArray TB RX0 → meth.sig.returnType = ret → meth.locks = false → va_P D vwCl (wX o q1 q2 cI F G k) s.heap → va_K D vwCl [(cI, .int)] s → sX tE tL A s s.heap → (A o ∧ A q1 ∧ A q2) → (∀ q, s.heap.size ≤ q → A q) → va_S A s.heap s.heap [] → ∀ ls : Array Slot, lv_has ls mL (lv_args 0 (.ref o :: As)) →
      W p l e rm s m (Value.ref o :: As).toArray below meth c s.heap [] 0 0 (MQ below (cQ D o q1 q2 cI A r F' G' k') (Value.ref o :: As).toArray s 0 0 A) (F0 m 0 ls [])) : wr_M l y cc mL ret rm As D o q1 q2 cI tE tL F G k r F' G' k' := by
  intro sz
  refine Met.ofW (cc := cc) (maxL := mL) (ret := ret) hy rfl ?_
  intro p e s m args below meth c s₁ B hml hv
  obtain ⟨rfl, hsz, hP, hK, hs⟩ := hv
  subst hsz
  have hts := atoms_spec (ws := .code y cc mL ret :: TB) B.pre
  have hl := lv_entry (.ref o :: As) (n := mL) hL
  rw [lg_entry_eq]
  exact body p e s m below meth c _ rfl ⟨B.exec, B.bytes, hml, ho ▸ findClass_of_methodNamed B.named, fun w hw => hts w (List.mem_cons_of_mem _ hw)⟩ B.returns B.notSynchronized hP hK hs ⟨Or.inl (Or.inl rfl), Or.inl (Or.inr (Or.inl rfl)), Or.inl (Or.inr (Or.inr rfl))⟩ (fun q h => Or.inr h) va_S.rf _ hl
section WE
variable {p : Program} {l : Launch} {e : Env} {R : Room} {s : State} {m : MethodId} {args : Array Value} {below : List Frame} {meth : Method} {c : Code} {H : Heap} {locs : List Loc} {cells slots : Nat} {D : va_G} {o q1 q2 : Nat} {cI : ClassId} {F G : Nat → Int} {k : Int} {A : Nat → Prop}
theorem wr_iret {cc : ByteArray} {v : Int32} {pc : Nat} {ls : Array Slot} (hx : p.tables.exec = Jvm.exec) (hb : c.code = cc) (hr : meth.sig.returnType = some .int) (hlk : meth.locks = false) {r : Option Value} (hP : va_P D vwCl (wX o q1 q2 cI F G k) H) (hS : va_S A s.heap H locs) (hv : r = some (.int v)) (hdg : decode cc pc = .ok (.ireturn, 1)) : W p l e R s m args below meth c H locs cells slots (MQ below (cQ D o q1 q2 cI A r F G k) args s cells slots A) (F0 m pc ls [.int v]) :=
  W.iret hx hb hr (fun t ht _ => ⟨by rw [hv], by rw [ht]; exact hP, hS.F ht⟩) hS.2.2 hdg hlk
theorem wr_vret {cc : ByteArray} {pc : Nat} {ls : Array Slot} (hx : p.tables.exec = Jvm.exec) (hb : c.code = cc) (hr : meth.sig.returnType = none) (hlk : meth.locks = false) {r : Option Value} (hP : va_P D vwCl (wX o q1 q2 cI F G k) H) (hS : va_S A s.heap H locs) (hv : r = none) (hdg : decode cc pc = .ok (.return_, 1)) : W p l e R s m args below meth c H locs cells slots (MQ below (cQ D o q1 q2 cI A r F G k) args s cells slots A) (F0 m pc ls []) :=
  W.vret hx hb hr (fun t ht _ => ⟨by rw [hv], by rw [ht]; exact hP, hS.F ht⟩) hS.2.2 hdg hlk
end WE
end
section
def fiZ (F : Nat → Int) (b m : Nat) (g : Nat → Int) : Nat → Int := fun j => if b ≤ j ∧ j < b + m then g (j - b) else F j
theorem fi_step {F : Nat → Int} {b m : Nat} {g : Nat → Int} : uZ (fiZ F b m g) (b + m) (g m) = fiZ F b (m + 1) g := by
  funext j
  unfold uZ fiZ
  by_cases h : j = b + m
  · rw [if_pos h, if_pos (by omega), show j - b = m by omega]
  · rw [if_neg h]
    by_cases h2 : b ≤ j ∧ j < b + m
    · rw [if_pos h2, if_pos (by omega)]
    · rw [if_neg h2, if_neg (by omega)]
theorem fi_0 {F : Nat → Int} {b : Nat} {g : Nat → Int} : F = fiZ F b 0 g := by
  funext j
  unfold fiZ
  rw [if_neg (by omega)]
/-- a place written behind the ones that were -/
theorem fi_next {F : Nat → Int} {b m z : Int} {x : Int} {g : Nat → Int} (hb : 0 ≤ b) (hm : 0 ≤ m) (hz : z = b + m) (hx : x = g m.toNat) : uZ (fiZ F b.toNat m.toNat g) z.toNat x = fiZ F b.toNat (m + 1).toNat g := by
  rw [show z.toNat = b.toNat + m.toNat by omega, hx, fi_step, show (m + 1).toNat = m.toNat + 1 by omega]
theorem fi_len {F : Nat → Int} {b : Nat} {m n : Int} {g : Nat → Int} (h : m = n) : fiZ F b m.toNat g = fiZ F b n.toNat g := by rw [h]
theorem nu_fi {F : Nat → Int} {b m : Nat} {g : Nat → Int} {f c n : Int} (h : (f + 1) * 72 ≤ b) : nuZ (fiZ F b m g) f c n = nuZ F f c n := by
  unfold nuZ
  by_cases h1 : 0 ≤ f ∧ f < 60 ∧ 0 ≤ c ∧ c < 8 ∧ -4 ≤ n ∧ n ≤ 4
  · rw [if_pos h1, if_pos h1]
    unfold fiZ
    rw [if_neg (by omega)]
  · rw [if_neg h1, if_neg h1]
theorem fi_rng {F : Nat → Int} {b m : Nat} {g : Nat → Int} (hF : ∀ j, 0 ≤ F j ∧ F j < 32003) (hg : ∀ j, 0 ≤ g j ∧ g j < 32003) : ∀ j, 0 ≤ fiZ F b m g j ∧ fiZ F b m g j < 32003 := by
  intro j
  unfold fiZ
  split
  · exact hg _
  · exact hF _
def jC (j : Nat) : Int := ((j / 9 : Nat) : Int)
def jN (j : Nat) : Int := ((j % 9 : Nat) : Int) - 4
theorem jC_at {c n : Int} (hc : 0 ≤ c) (hn : -4 ≤ n ∧ n ≤ 4) : jC (c * 9 + n + 4).toNat = c := by unfold jC; omega
theorem jN_at {c n : Int} (hc : 0 ≤ c) (hn : -4 ≤ n ∧ n ≤ 4) : jN (c * 9 + n + 4).toNat = n := by unfold jN; omega
set_option maxHeartbeats 4000000 in
set_option maxRecDepth 100000 in
theorem k_X0_keepDraft (l : Launch) (D : va_G) (o q1 q2 : Nat) (cI : ClassId) (tE tL : Nat) (F G : Nat → Int) (k : Int)  (hd : dX o q1 q2)  : wr_M l yX0_keepDraft cX0_keepDraft 2 (some .int) ({ frames := 0, cells := 0, slots := 0, locals := 0 }) [] D o q1 q2 cI tE tL F G k (some (.int (iZ k))) F G (k + 1) := by
  refine wr_of (by decide) rfl (Nat.le_of_ble_eq_true rfl) ?_
  intro p e s m below meth c A hAe S hr hlk hP hK hs hA hAn hS ls hl
  obtain ⟨hx, hb, hml, hown, hT⟩ := id S
  obtain ⟨⟨hZE, hTE⟩, hZL, hTL⟩ := id hs
  have hl : lv_has ls 2 [(0, .ref o)] := hl
  refine lv_aload_n hx hb dX0_keepDraft_0 rfl (lv_at hl 0 rfl) ?_
  refine va_get (D := D) (ci := 0) (C := RX0) (T := TX0) (N := 3) hx hb hT inX0 hown hK hP 0 rfl rfl 2 (by decide) (hT _ tb_20) (fun _ h9 => h9) rfl dX0_keepDraft_1 ?_
  refine lv_istore_n (lv' := [(1, .int (iZ k)), (0, .ref o)]) hx hb dX0_keepDraft_4 rfl hl (by decide) rfl (fun ls hl => ?_)
  refine lv_aload_n hx hb dX0_keepDraft_5 rfl (lv_at hl 1 rfl) ?_
  refine lv_aload_n hx hb dX0_keepDraft_6 rfl (lv_at hl 1 rfl) ?_
  refine va_get (D := D) (ci := 0) (C := RX0) (T := TX0) (N := 3) hx hb hT inX0 hown hK hP 0 rfl rfl 2 (by decide) (hT _ tb_20) (fun _ h9 => h9) rfl dX0_keepDraft_7 ?_
  refine zi_const hx hb 1 dX0_keepDraft_10 ?_
  refine zi_add hx hb dX0_keepDraft_11 ?_
  refine va_put (D := D) (ci := 0) (v := .int (iZ (k + 1))) (ty := .int) (C := RX0) (T := TX0) (N := 3) hx hb hT inX0 tyX0 tyX0_ok nmX0 hown hK hP (dX_D hd hA) hS 0 rfl rfl 2 (by decide) (hT _ tb_20) (fun _ h9 => h9) rfl (by decide +kernel) rfl rfl (Nat.le_of_ble_eq_true rfl) dX0_keepDraft_12 (fun H locs hP _ hS => ?_)
  have hP : va_P D vwCl (wX o q1 q2 cI F G (k + 1)) H := hP
  refine lv_iload_n hx hb dX0_keepDraft_15 rfl (lv_at hl 0 rfl) ?_
  exact wr_iret hx hb hr hlk (wP_eq hP rfl rfl rfl) hS (congrArg (fun z => some (Value.int (iZ z))) (show (k : Int) = k from rfl)) dX0_keepDraft_16
set_option maxHeartbeats 4000000 in
set_option maxRecDepth 100000 in
theorem k_X0_setDraft (l : Launch) (D : va_G) (o q1 q2 : Nat) (cI : ClassId) (tE tL : Nat) (F G : Nat → Int) (k : Int) (c1 n v : Int) (hd : dX o q1 q2) (hk : 0 ≤ k ∧ k < 60) (hc1 : 0 ≤ c1 ∧ c1 < 8) (hn : -4 ≤ n ∧ n ≤ 4) : wr_M l yX0_setDraft cX0_setDraft 4 none ({ frames := 1, cells := 0, slots := 0, locals := 22 }) [.int (iZ c1), .int (iZ n), .int (iZ v)] D o q1 q2 cI tE tL F G k none (uZ F (k * 72 + c1 * 9 + n + 4).toNat v) G k := by
  refine wr_of (by decide) rfl (Nat.le_of_ble_eq_true rfl) ?_
  intro p e s m below meth c A hAe S hr hlk hP hK hs hA hAn hS ls hl
  obtain ⟨hx, hb, hml, hown, hT⟩ := id S
  obtain ⟨⟨hZE, hTE⟩, hZL, hTL⟩ := id hs
  have hl : lv_has ls 4 [(0, .ref o), (1, .int (iZ c1)), (2, .int (iZ n)), (3, .int (iZ v))] := hl
  refine lv_aload_n hx hb dX0_setDraft_0 rfl (lv_at hl 0 rfl) ?_
  refine va_get (D := D) (ci := 0) (C := RX0) (T := TX0) (N := 3) hx hb hT inX0 hown hK hP 0 rfl rfl 2 (by decide) (hT _ tb_20) (fun _ h9 => h9) rfl dX0_setDraft_1 ?_
  refine zi_bi hx hb 60 dX0_setDraft_4 (by decide) ?_
  refine zi_cge (tgt := 38) hx hb dX0_setDraft_6 (by decide) (by omega) (by omega) (fun hc6 => ?_) (fun hc6 => ?_)
  · exfalso
    omega
  · refine lv_iload_n hx hb dX0_setDraft_9 rfl (lv_at hl 1 rfl) ?_
    refine rd_S (As := [.int (iZ c1)]) (rest := []) (st1 := [.int (iZ (kdZ c1))]) S (k_X0_isKind l c1 (by omega)) tb_45 tb_46 tb_1 tb_47 hd_X0_isKind ⟨rfl, rfl, by decide, by decide⟩ bl_T (fun _ _ _ => trivial) rfl hl.1 rfl (Nat.le_of_ble_eq_true rfl) dX0_setDraft_10 ⟨Nat.zero_le _, Nat.zero_le _⟩ rfl ?_
    have hf13 := kdZ_or c1
    refine zi_feq (tgt := 38) hx hb dX0_setDraft_13 (by decide) (by omega) (fun hc13 => ?_) (fun hc13 => ?_)
    · exfalso
      omega
    · refine lv_iload_n hx hb dX0_setDraft_16 rfl (lv_at hl 2 rfl) ?_
      refine rd_S (As := [.int (iZ n)]) (rest := []) (st1 := [.int (iZ (pwZ n))]) S (k_X0_isPower l n (by omega)) tb_119 tb_120 tb_1 tb_121 hd_X0_isPower ⟨rfl, rfl, by decide, by decide⟩ bl_T (fun _ _ _ => trivial) rfl hl.1 rfl (Nat.le_of_ble_eq_true rfl) dX0_setDraft_17 ⟨Nat.zero_le _, Nat.zero_le _⟩ rfl ?_
      have hf20 := pwZ_or n
      refine zi_feq (tgt := 38) hx hb dX0_setDraft_20 (by decide) (by omega) (fun hc20 => ?_) (fun hc20 => ?_)
      · exfalso
        omega
      · refine lv_aload_n hx hb dX0_setDraft_23 rfl (lv_at hl 0 rfl) ?_
        refine va_get (D := D) (ci := 0) (C := RX0) (T := TX0) (N := 3) hx hb hT inX0 hown hK hP 0 rfl rfl 0 (by decide) (hT _ tb_18) (fun _ h9 => h9) rfl dX0_setDraft_24 ?_
        refine lv_aload_n hx hb dX0_setDraft_27 rfl (lv_at hl 0 rfl) ?_
        refine va_get (D := D) (ci := 0) (C := RX0) (T := TX0) (N := 3) hx hb hT inX0 hown hK hP 0 rfl rfl 2 (by decide) (hT _ tb_20) (fun _ h9 => h9) rfl dX0_setDraft_28 ?_
        refine lv_iload_n hx hb dX0_setDraft_31 rfl (lv_at hl 1 rfl) ?_
        refine lv_iload_n hx hb dX0_setDraft_32 rfl (lv_at hl 2 rfl) ?_
        refine rd_S (As := [.int (iZ k), .int (iZ c1), .int (iZ n)]) (rest := [.ref q1]) (st1 := [.int (iZ (k * 72 + c1 * 9 + n + 4)), .ref q1]) S (k_X0_place l k c1 n) tb_151 tb_152 tb_1 tb_153 hd_X0_place ⟨rfl, rfl, by decide, by decide⟩ bl_T (fun _ _ _ => trivial) rfl hl.1 rfl (Nat.le_of_ble_eq_true rfl) dX0_setDraft_33 ⟨Nat.zero_le _, Nat.zero_le _⟩ rfl ?_
        refine lv_iload_n hx hb dX0_setDraft_36 rfl (lv_at hl 3 rfl) ?_
        refine wx_num hx hb hK hP hd hA hS (by omega) dX0_setDraft_37 (fun H locs hP hS => ?_)
        obtain ⟨F1, eF1⟩ : ∃ Z : Nat → Int, Z = uZ F (k * 72 + c1 * 9 + n + 4).toNat v := ⟨_, rfl⟩
        rw [← eF1] at hP
        exact wr_vret hx hb hr hlk (wP_eq hP ((by rw [eF1])) rfl rfl) hS rfl dX0_setDraft_38
set_option maxHeartbeats 4000000 in
set_option maxRecDepth 100000 in
theorem k_X0_clearDraft (l : Launch) (D : va_G) (o q1 q2 : Nat) (cI : ClassId) (tE tL : Nat) (F G : Nat → Int) (k : Int)  (hd : dX o q1 q2) (hk : 0 ≤ k ∧ k < 60) : wr_M l yX0_clearDraft cX0_clearDraft 3 none ({ frames := 2, cells := 0, slots := 0, locals := 45 }) [] D o q1 q2 cI tE tL F G k none (fiZ F (k * 72).toNat 72 (fun j => (0 : Int))) G k := by
  refine wr_of (by decide) rfl (Nat.le_of_ble_eq_true rfl) ?_
  intro p e s m below meth c A hAe S hr hlk hP hK hs hA hAn hS ls hl
  obtain ⟨hx, hb, hml, hown, hT⟩ := id S
  obtain ⟨⟨hZE, hTE⟩, hZL, hTL⟩ := id hs
  have hl : lv_has ls 3 [(0, .ref o)] := hl
  refine zi_const hx hb 0 dX0_clearDraft_0 ?_
  refine lv_istore_n (lv' := [(1, .int (iZ 0)), (0, .ref o)]) hx hb dX0_clearDraft_1 rfl hl (by decide) rfl (fun ls hl => ?_)
  refine lp_goX (nL := 3) (α := Int) (fun z => [(0, .ref o), (1, .int (iZ z))]) (fun z => fiZ F (k * 72).toNat (z * 9).toNat (fun j => (0 : Int))) (fun _ => G) (fun _ => k) (fun m2 z => 0 ≤ z ∧ z + (m2 : Int) = 8) ?_ 8 ((0 : Int)) (by omega) _ _ (wP_eq hP fi_0 rfl rfl) hS ls (lv_sub hl [1, 0] rfl)
  intro m2 z1 hI2 ih2 H locs hP hS ls hl
  obtain ⟨c1, rfl⟩ : ∃ y : Int, y = z1 := ⟨_, rfl⟩
  have hl : lv_has ls 3 [(0, .ref o), (1, .int (iZ c1))] := hl
  have hI2 : 0 ≤ c1 ∧ c1 + (m2 : Int) = 8 := hI2
  have hP : va_P D vwCl (wX o q1 q2 cI (fiZ F (k * 72).toNat (c1 * 9).toNat (fun j => (0 : Int))) G k) H := hP
  obtain ⟨F2, eF2⟩ : ∃ Z : Nat → Int, Z = fiZ F (k * 72).toNat (c1 * 9).toNat (fun j => (0 : Int)) := ⟨_, rfl⟩
  rw [← eF2] at hP
  refine lv_iload_n hx hb dX0_clearDraft_2 rfl (lv_at hl 1 rfl) ?_
  refine zi_bi hx hb 8 dX0_clearDraft_3 (by decide) ?_
  refine zi_cge (tgt := 35) hx hb dX0_clearDraft_5 (by decide) (by omega) (by omega) (fun hc5 => ?_) (fun hc5 => ?_)
  · exact wr_vret hx hb hr hlk (wP_eq hP ((by rw [eF2]; exact fi_len (n := 72) (by omega))) rfl rfl) hS rfl dX0_clearDraft_35
  · refine zi_bi hx hb (-4) dX0_clearDraft_8 (by decide) ?_
    refine lv_istore_n (lv' := [(2, .int (iZ (-4))), (0, .ref o), (1, .int (iZ c1))]) hx hb dX0_clearDraft_10 rfl hl (by decide) rfl (fun ls hl => ?_)
    refine lp_goX (nL := 3) (α := Int) (fun z => [(0, .ref o), (1, .int (iZ c1)), (2, .int (iZ z))]) (fun z => fiZ F (k * 72).toNat (c1 * 9 + z + 4).toNat (fun j => (0 : Int))) (fun _ => G) (fun _ => k) (fun m11 z => -4 ≤ z ∧ z + (m11 : Int) = 5) ?_ 9 (((-4) : Int)) (by omega) _ _ (wP_eq hP ((by rw [eF2]; exact fi_len (by omega))) rfl rfl) hS ls (lv_sub hl [1, 2, 0] rfl)
    intro m11 z3 hI11 ih11 H locs hP hS ls hl
    obtain ⟨n, rfl⟩ : ∃ y : Int, y = z3 := ⟨_, rfl⟩
    have hl : lv_has ls 3 [(0, .ref o), (1, .int (iZ c1)), (2, .int (iZ n))] := hl
    have hI11 : -4 ≤ n ∧ n + (m11 : Int) = 5 := hI11
    have hP : va_P D vwCl (wX o q1 q2 cI (fiZ F (k * 72).toNat (c1 * 9 + n + 4).toNat (fun j => (0 : Int))) G k) H := hP
    obtain ⟨F4, eF4⟩ : ∃ Z : Nat → Int, Z = fiZ F (k * 72).toNat (c1 * 9 + n + 4).toNat (fun j => (0 : Int)) := ⟨_, rfl⟩
    rw [← eF4] at hP
    refine lv_iload_n hx hb dX0_clearDraft_11 rfl (lv_at hl 2 rfl) ?_
    refine zi_const hx hb 4 dX0_clearDraft_12 ?_
    refine zi_cgt (tgt := 29) hx hb dX0_clearDraft_13 (by decide) (by omega) (by omega) (fun hc13 => ?_) (fun hc13 => ?_)
    · refine zi_inc (lv' := [(1, .int (iZ (c1 + 1))), (0, .ref o), (2, .int (iZ n))]) hx hb dX0_clearDraft_29 hl (k := 1) rfl (by decide) rfl (fun ls hl => ?_)
      refine lv_goto (tgt := 2) hx hb dX0_clearDraft_32 (by decide) ?_
      exact ih2 (m2 - 1) (c1 + 1) (by omega) (by omega) _ _ (wP_eq hP ((by rw [eF4]; exact fi_len (by omega))) rfl rfl) hS ls (lv_sub hl [1, 0] rfl)
    · refine lv_aload_n hx hb dX0_clearDraft_16 rfl (lv_at hl 0 rfl) ?_
      refine lv_iload_n hx hb dX0_clearDraft_17 rfl (lv_at hl 1 rfl) ?_
      refine lv_iload_n hx hb dX0_clearDraft_18 rfl (lv_at hl 2 rfl) ?_
      refine zi_const hx hb 0 dX0_clearDraft_19 ?_
      refine wr_V (As := [.int (iZ c1), .int (iZ n), .int (iZ 0)]) (rest := []) (st1 := []) (F' := uZ F4 (k * 72 + c1 * 9 + n + 4).toNat 0) (G' := G) (k' := k) S (k_X0_setDraft l D o q1 q2 cI tE tL F4 G k c1 n 0 hd (by omega) (by omega) (by omega)) tb_147 tb_149 ts_X0_setDraft tb_1 tb_150 hd_X0_setDraft ⟨rfl, rfl, by decide, by decide⟩ hP hK rfl hs hS hA hAn rfl hl.1 rfl (Nat.le_of_ble_eq_true rfl) dX0_clearDraft_20 ⟨Nat.zero_le _, Nat.zero_le _⟩ rfl (fun H locs hP hS _ _ => ?_)
      obtain ⟨F5, eF5⟩ : ∃ Z : Nat → Int, Z = uZ F4 (k * 72 + c1 * 9 + n + 4).toNat 0 := ⟨_, rfl⟩
      rw [← eF5] at hP
      refine zi_inc (lv' := [(2, .int (iZ (n + 1))), (0, .ref o), (1, .int (iZ c1))]) hx hb dX0_clearDraft_23 hl (k := 2) rfl (by decide) rfl (fun ls hl => ?_)
      refine lv_goto (tgt := 11) hx hb dX0_clearDraft_26 (by decide) ?_
      exact ih11 (m11 - 1) (n + 1) (by omega) (by omega) _ _ (wP_eq hP ((by rw [eF5, eF4]; exact (fi_next (m := c1 * 9 + n + 4) (by omega) (by omega) (by omega) (rfl)).trans (fi_len (by omega)))) rfl rfl) hS ls (lv_sub hl [1, 2, 0] rfl)
set_option maxHeartbeats 4000000 in
set_option maxRecDepth 100000 in
theorem k_X0_draftSum (l : Launch) (D : va_G) (o q1 q2 : Nat) (cI : ClassId) (tE tL : Nat) (F G : Nat → Int) (k : Int) (f g t : Int) (hd : dX o q1 q2) (hF : ∀ j, 0 ≤ F j ∧ F j < 32003) (hk : 0 ≤ k ∧ k < 60) (hf : 0 ≤ f ∧ f < k) (hg : 0 ≤ g ∧ g < k) (ht : 0 ≤ t ∧ t < 32003) : wr_M l yX0_draftSum cX0_draftSum 6 none ({ frames := 2, cells := 0, slots := 0, locals := 45 }) [.int (iZ f), .int (iZ g), .int (iZ t)] D o q1 q2 cI tE tL F G k none (fiZ F (k * 72).toNat 72 (fun j => ( F ((f * 72).toNat + j) + t * F ((g * 72).toNat + j)) % 32003)) G k := by
  refine wr_of (by decide) rfl (Nat.le_of_ble_eq_true rfl) ?_
  intro p e s m below meth c A hAe S hr hlk hP hK hs hA hAn hS ls hl
  obtain ⟨hx, hb, hml, hown, hT⟩ := id S
  obtain ⟨⟨hZE, hTE⟩, hZL, hTL⟩ := id hs
  have hl : lv_has ls 6 [(0, .ref o), (1, .int (iZ f)), (2, .int (iZ g)), (3, .int (iZ t))] := hl
  refine zi_const hx hb 0 dX0_draftSum_0 ?_
  refine lv_istore (lv' := [(4, .int (iZ 0)), (0, .ref o), (1, .int (iZ f)), (2, .int (iZ g)), (3, .int (iZ t))]) hx hb dX0_draftSum_1 hl (by decide) rfl (fun ls hl => ?_)
  refine lp_goX (nL := 6) (α := Int) (fun z => [(0, .ref o), (1, .int (iZ f)), (2, .int (iZ g)), (3, .int (iZ t)), (4, .int (iZ z))]) (fun z => fiZ F (k * 72).toNat (z * 9).toNat (fun j => ( F ((f * 72).toNat + j) + t * F ((g * 72).toNat + j)) % 32003)) (fun _ => G) (fun _ => k) (fun m3 z => 0 ≤ z ∧ z + (m3 : Int) = 8) ?_ 8 ((0 : Int)) (by omega) _ _ (wP_eq hP fi_0 rfl rfl) hS ls (lv_sub hl [1, 2, 3, 4, 0] rfl)
  intro m3 z1 hI3 ih3 H locs hP hS ls hl
  obtain ⟨c1, rfl⟩ : ∃ y : Int, y = z1 := ⟨_, rfl⟩
  have hl : lv_has ls 6 [(0, .ref o), (1, .int (iZ f)), (2, .int (iZ g)), (3, .int (iZ t)), (4, .int (iZ c1))] := hl
  have hI3 : 0 ≤ c1 ∧ c1 + (m3 : Int) = 8 := hI3
  have hP : va_P D vwCl (wX o q1 q2 cI (fiZ F (k * 72).toNat (c1 * 9).toNat (fun j => ( F ((f * 72).toNat + j) + t * F ((g * 72).toNat + j)) % 32003)) G k) H := hP
  obtain ⟨F2, eF2⟩ : ∃ Z : Nat → Int, Z = fiZ F (k * 72).toNat (c1 * 9).toNat (fun j => ( F ((f * 72).toNat + j) + t * F ((g * 72).toNat + j)) % 32003) := ⟨_, rfl⟩
  rw [← eF2] at hP
  refine lv_iload hx hb dX0_draftSum_3 (lv_at hl 4 rfl) ?_
  refine zi_bi hx hb 8 dX0_draftSum_5 (by decide) ?_
  refine zi_cge (tgt := 67) hx hb dX0_draftSum_7 (by decide) (by omega) (by omega) (fun hc7 => ?_) (fun hc7 => ?_)
  · exact wr_vret hx hb hr hlk (wP_eq hP ((by rw [eF2]; exact fi_len (n := 72) (by omega))) rfl rfl) hS rfl dX0_draftSum_67
  · refine zi_bi hx hb (-4) dX0_draftSum_10 (by decide) ?_
    refine lv_istore (lv' := [(5, .int (iZ (-4))), (0, .ref o), (1, .int (iZ f)), (2, .int (iZ g)), (3, .int (iZ t)), (4, .int (iZ c1))]) hx hb dX0_draftSum_12 hl (by decide) rfl (fun ls hl => ?_)
    refine lp_goX (nL := 6) (α := Int) (fun z => [(0, .ref o), (1, .int (iZ f)), (2, .int (iZ g)), (3, .int (iZ t)), (4, .int (iZ c1)), (5, .int (iZ z))]) (fun z => fiZ F (k * 72).toNat (c1 * 9 + z + 4).toNat (fun j => ( F ((f * 72).toNat + j) + t * F ((g * 72).toNat + j)) % 32003)) (fun _ => G) (fun _ => k) (fun m14 z => -4 ≤ z ∧ z + (m14 : Int) = 5) ?_ 9 (((-4) : Int)) (by omega) _ _ (wP_eq hP ((by rw [eF2]; exact fi_len (by omega))) rfl rfl) hS ls (lv_sub hl [1, 2, 3, 4, 5, 0] rfl)
    intro m14 z3 hI14 ih14 H locs hP hS ls hl
    obtain ⟨n, rfl⟩ : ∃ y : Int, y = z3 := ⟨_, rfl⟩
    have hl : lv_has ls 6 [(0, .ref o), (1, .int (iZ f)), (2, .int (iZ g)), (3, .int (iZ t)), (4, .int (iZ c1)), (5, .int (iZ n))] := hl
    have hI14 : -4 ≤ n ∧ n + (m14 : Int) = 5 := hI14
    have hP : va_P D vwCl (wX o q1 q2 cI (fiZ F (k * 72).toNat (c1 * 9 + n + 4).toNat (fun j => ( F ((f * 72).toNat + j) + t * F ((g * 72).toNat + j)) % 32003)) G k) H := hP
    obtain ⟨F4, eF4⟩ : ∃ Z : Nat → Int, Z = fiZ F (k * 72).toNat (c1 * 9 + n + 4).toNat (fun j => ( F ((f * 72).toNat + j) + t * F ((g * 72).toNat + j)) % 32003) := ⟨_, rfl⟩
    rw [← eF4] at hP
    have hFi : ∀ j, 0 ≤ F4 j ∧ F4 j < 32003 := by
      rw [eF4]
      exact fi_rng hF (fun j => (show 0 ≤ (F ((f * 72).toNat + j) + t * F ((g * 72).toNat + j)) % 32003 ∧ (F ((f * 72).toNat + j) + t * F ((g * 72).toNat + j)) % 32003 < 32003 by omega))
    have hm1 := mul_rng ht (nuZ_rng hFi g c1 n)
    refine lv_iload hx hb dX0_draftSum_14 (lv_at hl 5 rfl) ?_
    refine zi_const hx hb 4 dX0_draftSum_16 ?_
    refine zi_cgt (tgt := 61) hx hb dX0_draftSum_17 (by decide) (by omega) (by omega) (fun hc17 => ?_) (fun hc17 => ?_)
    · refine zi_inc (lv' := [(4, .int (iZ (c1 + 1))), (0, .ref o), (1, .int (iZ f)), (2, .int (iZ g)), (3, .int (iZ t)), (5, .int (iZ n))]) hx hb dX0_draftSum_61 hl (k := 4) rfl (by decide) rfl (fun ls hl => ?_)
      refine lv_goto (tgt := 3) hx hb dX0_draftSum_64 (by decide) ?_
      exact ih3 (m3 - 1) (c1 + 1) (by omega) (by omega) _ _ (wP_eq hP ((by rw [eF4]; exact fi_len (by omega))) rfl rfl) hS ls (lv_sub hl [1, 2, 3, 4, 0] rfl)
    · refine lv_aload_n hx hb dX0_draftSum_20 rfl (lv_at hl 0 rfl) ?_
      refine lv_iload hx hb dX0_draftSum_21 (lv_at hl 4 rfl) ?_
      refine lv_iload hx hb dX0_draftSum_23 (lv_at hl 5 rfl) ?_
      refine lv_aload_n hx hb dX0_draftSum_25 rfl (lv_at hl 0 rfl) ?_
      refine lv_iload_n hx hb dX0_draftSum_26 rfl (lv_at hl 1 rfl) ?_
      refine lv_iload hx hb dX0_draftSum_27 (lv_at hl 4 rfl) ?_
      refine lv_iload hx hb dX0_draftSum_29 (lv_at hl 5 rfl) ?_
      refine rd_V (As := [.int (iZ f), .int (iZ c1), .int (iZ n)]) (rest := [.int (iZ n), .int (iZ c1), .ref o]) (st1 := [.int (iZ (nuZ F4 f c1 n)), .int (iZ n), .int (iZ c1), .ref o]) S (k_X0_number l D o q1 q2 cI tE tL F4 G k f c1 n (by omega) (by omega) (by omega)) tb_194 tb_196 ts_X0_number tb_1 tb_197 hd_X0_number ⟨rfl, rfl, by decide, by decide⟩ rX_bl (rX_w hP hK rfl hs hS) (va_recv hK hP (ci := 0) (q0 := 0) rfl rfl) rfl hl.1 rfl (Nat.le_of_ble_eq_true rfl) dX0_draftSum_31 ⟨Nat.zero_le _, Nat.zero_le _⟩ rfl ?_
      have hn34 := nuZ_rng hFi f c1 n
      refine zi_i2l hx hb dX0_draftSum_34 (by omega) ?_
      refine lv_iload_n hx hb dX0_draftSum_35 rfl (lv_at hl 3 rfl) ?_
      refine zi_i2l hx hb dX0_draftSum_36 (by omega) ?_
      refine lv_aload_n hx hb dX0_draftSum_37 rfl (lv_at hl 0 rfl) ?_
      refine lv_iload_n hx hb dX0_draftSum_38 rfl (lv_at hl 2 rfl) ?_
      refine lv_iload hx hb dX0_draftSum_39 (lv_at hl 4 rfl) ?_
      refine lv_iload hx hb dX0_draftSum_41 (lv_at hl 5 rfl) ?_
      refine rd_V (As := [.int (iZ g), .int (iZ c1), .int (iZ n)]) (rest := [.long (lZ t), .long (lZ (nuZ F4 f c1 n)), .int (iZ n), .int (iZ c1), .ref o]) (st1 := [.int (iZ (nuZ F4 g c1 n)), .long (lZ t), .long (lZ (nuZ F4 f c1 n)), .int (iZ n), .int (iZ c1), .ref o]) S (k_X0_number l D o q1 q2 cI tE tL F4 G k g c1 n (by omega) (by omega) (by omega)) tb_194 tb_196 ts_X0_number tb_1 tb_197 hd_X0_number ⟨rfl, rfl, by decide, by decide⟩ rX_bl (rX_w hP hK rfl hs hS) (va_recv hK hP (ci := 0) (q0 := 0) rfl rfl) rfl hl.1 rfl (Nat.le_of_ble_eq_true rfl) dX0_draftSum_43 ⟨Nat.zero_le _, Nat.zero_le _⟩ rfl ?_
      have hn46 := nuZ_rng hFi g c1 n
      refine zi_i2l hx hb dX0_draftSum_46 (by omega) ?_
      refine zl_mul hx hb dX0_draftSum_47 ?_
      refine zl_add hx hb dX0_draftSum_48 ?_
      refine rd_S (As := [.long (lZ ((nuZ F4 f c1 n) + (t * (nuZ F4 g c1 n))))]) (rest := [.int (iZ n), .int (iZ c1), .ref o]) (st1 := [.int (iZ (((nuZ F4 f c1 n) + (t * (nuZ F4 g c1 n))) % 32003)), .int (iZ n), .int (iZ c1), .ref o]) S (k_X0_reduce l ((nuZ F4 f c1 n) + (t * (nuZ F4 g c1 n))) (by omega)) tb_154 tb_155 tb_1 tb_156 hd_X0_reduce ⟨rfl, rfl, by decide, by decide⟩ bl_T (fun _ _ _ => trivial) rfl hl.1 rfl (Nat.le_of_ble_eq_true rfl) dX0_draftSum_49 ⟨Nat.zero_le _, Nat.zero_le _⟩ rfl ?_
      refine wr_V (As := [.int (iZ c1), .int (iZ n), .int (iZ (((nuZ F4 f c1 n) + (t * (nuZ F4 g c1 n))) % 32003))]) (rest := []) (st1 := []) (F' := uZ F4 (k * 72 + c1 * 9 + n + 4).toNat (((nuZ F4 f c1 n) + (t * (nuZ F4 g c1 n))) % 32003)) (G' := G) (k' := k) S (k_X0_setDraft l D o q1 q2 cI tE tL F4 G k c1 n (((nuZ F4 f c1 n) + (t * (nuZ F4 g c1 n))) % 32003) hd (by omega) (by omega) (by omega)) tb_147 tb_149 ts_X0_setDraft tb_1 tb_150 hd_X0_setDraft ⟨rfl, rfl, by decide, by decide⟩ hP hK rfl hs hS hA hAn rfl hl.1 rfl (Nat.le_of_ble_eq_true rfl) dX0_draftSum_52 ⟨Nat.zero_le _, Nat.zero_le _⟩ rfl (fun H locs hP hS _ _ => ?_)
      obtain ⟨F5, eF5⟩ : ∃ Z : Nat → Int, Z = uZ F4 (k * 72 + c1 * 9 + n + 4).toNat (((nuZ F4 f c1 n) + (t * (nuZ F4 g c1 n))) % 32003) := ⟨_, rfl⟩
      rw [← eF5] at hP
      refine zi_inc (lv' := [(5, .int (iZ (n + 1))), (0, .ref o), (1, .int (iZ f)), (2, .int (iZ g)), (3, .int (iZ t)), (4, .int (iZ c1))]) hx hb dX0_draftSum_55 hl (k := 5) rfl (by decide) rfl (fun ls hl => ?_)
      refine lv_goto (tgt := 14) hx hb dX0_draftSum_58 (by decide) ?_
      exact ih14 (m14 - 1) (n + 1) (by omega) (by omega) _ _ (wP_eq hP ((by rw [eF5, eF4]; exact (fi_next (m := c1 * 9 + n + 4) (by omega) (by omega) (by omega) (by rw [nu_fi (by omega), nu_fi (by omega), nu_lin (by omega) (by omega) (by omega), nu_lin (by omega) (by omega) (by omega)])).trans (fi_len (by omega)))) rfl rfl) hS ls (lv_sub hl [1, 2, 3, 4, 5, 0] rfl)
theorem sl_fi {F : Nat → Int} {b m : Nat} {g : Nat → Int} {f c n : Int} (h : (f + 1) * 72 ≤ b) : slZ (fiZ F b m g) f c n = slZ F f c n := by
  unfold slZ
  rw [nu_fi h, nu_fi h, nu_fi h]
set_option maxHeartbeats 4000000 in
set_option maxRecDepth 100000 in
theorem k_X0_draftSlope (l : Launch) (D : va_G) (o q1 q2 : Nat) (cI : ClassId) (tE tL : Nat) (F G : Nat → Int) (k : Int) (f : Int) (hd : dX o q1 q2) (hF : ∀ j, 0 ≤ F j ∧ F j < 32003) (hk : 0 ≤ k ∧ k < 60) (hf : 0 ≤ f ∧ f < k) : wr_M l yX0_draftSlope cX0_draftSlope 4 none ({ frames := 3, cells := 0, slots := 0, locals := 70 }) [.int (iZ f)] D o q1 q2 cI tE tL F G k none (fiZ F (k * 72).toNat 72 (fun j => slZ F f (jC j) (jN j))) G k := by
  refine wr_of (by decide) rfl (Nat.le_of_ble_eq_true rfl) ?_
  intro p e s m below meth c A hAe S hr hlk hP hK hs hA hAn hS ls hl
  obtain ⟨hx, hb, hml, hown, hT⟩ := id S
  obtain ⟨⟨hZE, hTE⟩, hZL, hTL⟩ := id hs
  have hl : lv_has ls 4 [(0, .ref o), (1, .int (iZ f))] := hl
  refine zi_const hx hb 0 dX0_draftSlope_0 ?_
  refine lv_istore_n (lv' := [(2, .int (iZ 0)), (0, .ref o), (1, .int (iZ f))]) hx hb dX0_draftSlope_1 rfl hl (by decide) rfl (fun ls hl => ?_)
  refine lp_goX (nL := 4) (α := Int) (fun z => [(0, .ref o), (1, .int (iZ f)), (2, .int (iZ z))]) (fun z => fiZ F (k * 72).toNat (z * 9).toNat (fun j => slZ F f (jC j) (jN j))) (fun _ => G) (fun _ => k) (fun m2 z => 0 ≤ z ∧ z + (m2 : Int) = 8) ?_ 8 ((0 : Int)) (by omega) _ _ (wP_eq hP fi_0 rfl rfl) hS ls (lv_sub hl [1, 2, 0] rfl)
  intro m2 z1 hI2 ih2 H locs hP hS ls hl
  obtain ⟨c1, rfl⟩ : ∃ y : Int, y = z1 := ⟨_, rfl⟩
  have hl : lv_has ls 4 [(0, .ref o), (1, .int (iZ f)), (2, .int (iZ c1))] := hl
  have hI2 : 0 ≤ c1 ∧ c1 + (m2 : Int) = 8 := hI2
  have hP : va_P D vwCl (wX o q1 q2 cI (fiZ F (k * 72).toNat (c1 * 9).toNat (fun j => slZ F f (jC j) (jN j))) G k) H := hP
  obtain ⟨F2, eF2⟩ : ∃ Z : Nat → Int, Z = fiZ F (k * 72).toNat (c1 * 9).toNat (fun j => slZ F f (jC j) (jN j)) := ⟨_, rfl⟩
  rw [← eF2] at hP
  refine lv_iload_n hx hb dX0_draftSlope_2 rfl (lv_at hl 2 rfl) ?_
  refine zi_bi hx hb 8 dX0_draftSlope_3 (by decide) ?_
  refine zi_cge (tgt := 41) hx hb dX0_draftSlope_5 (by decide) (by omega) (by omega) (fun hc5 => ?_) (fun hc5 => ?_)
  · exact wr_vret hx hb hr hlk (wP_eq hP ((by rw [eF2]; exact fi_len (n := 72) (by omega))) rfl rfl) hS rfl dX0_draftSlope_41
  · refine zi_bi hx hb (-4) dX0_draftSlope_8 (by decide) ?_
    refine lv_istore_n (lv' := [(3, .int (iZ (-4))), (0, .ref o), (1, .int (iZ f)), (2, .int (iZ c1))]) hx hb dX0_draftSlope_10 rfl hl (by decide) rfl (fun ls hl => ?_)
    refine lp_goX (nL := 4) (α := Int) (fun z => [(0, .ref o), (1, .int (iZ f)), (2, .int (iZ c1)), (3, .int (iZ z))]) (fun z => fiZ F (k * 72).toNat (c1 * 9 + z + 4).toNat (fun j => slZ F f (jC j) (jN j))) (fun _ => G) (fun _ => k) (fun m11 z => -4 ≤ z ∧ z + (m11 : Int) = 5) ?_ 9 (((-4) : Int)) (by omega) _ _ (wP_eq hP ((by rw [eF2]; exact fi_len (by omega))) rfl rfl) hS ls (lv_sub hl [1, 2, 3, 0] rfl)
    intro m11 z3 hI11 ih11 H locs hP hS ls hl
    obtain ⟨n, rfl⟩ : ∃ y : Int, y = z3 := ⟨_, rfl⟩
    have hl : lv_has ls 4 [(0, .ref o), (1, .int (iZ f)), (2, .int (iZ c1)), (3, .int (iZ n))] := hl
    have hI11 : -4 ≤ n ∧ n + (m11 : Int) = 5 := hI11
    have hP : va_P D vwCl (wX o q1 q2 cI (fiZ F (k * 72).toNat (c1 * 9 + n + 4).toNat (fun j => slZ F f (jC j) (jN j))) G k) H := hP
    obtain ⟨F4, eF4⟩ : ∃ Z : Nat → Int, Z = fiZ F (k * 72).toNat (c1 * 9 + n + 4).toNat (fun j => slZ F f (jC j) (jN j)) := ⟨_, rfl⟩
    rw [← eF4] at hP
    have hFi : ∀ j, 0 ≤ F4 j ∧ F4 j < 32003 := by
      rw [eF4]
      exact fi_rng hF (fun j => slZ_rng _ _ _ _)
    refine lv_iload_n hx hb dX0_draftSlope_11 rfl (lv_at hl 3 rfl) ?_
    refine zi_const hx hb 4 dX0_draftSlope_12 ?_
    refine zi_cgt (tgt := 35) hx hb dX0_draftSlope_13 (by decide) (by omega) (by omega) (fun hc13 => ?_) (fun hc13 => ?_)
    · refine zi_inc (lv' := [(2, .int (iZ (c1 + 1))), (0, .ref o), (1, .int (iZ f)), (3, .int (iZ n))]) hx hb dX0_draftSlope_35 hl (k := 2) rfl (by decide) rfl (fun ls hl => ?_)
      refine lv_goto (tgt := 2) hx hb dX0_draftSlope_38 (by decide) ?_
      exact ih2 (m2 - 1) (c1 + 1) (by omega) (by omega) _ _ (wP_eq hP ((by rw [eF4]; exact fi_len (by omega))) rfl rfl) hS ls (lv_sub hl [1, 2, 0] rfl)
    · refine lv_aload_n hx hb dX0_draftSlope_16 rfl (lv_at hl 0 rfl) ?_
      refine lv_iload_n hx hb dX0_draftSlope_17 rfl (lv_at hl 2 rfl) ?_
      refine lv_iload_n hx hb dX0_draftSlope_18 rfl (lv_at hl 3 rfl) ?_
      refine lv_aload_n hx hb dX0_draftSlope_19 rfl (lv_at hl 0 rfl) ?_
      refine lv_iload_n hx hb dX0_draftSlope_20 rfl (lv_at hl 1 rfl) ?_
      refine lv_iload_n hx hb dX0_draftSlope_21 rfl (lv_at hl 2 rfl) ?_
      refine lv_iload_n hx hb dX0_draftSlope_22 rfl (lv_at hl 3 rfl) ?_
      refine rd_V (As := [.int (iZ f), .int (iZ c1), .int (iZ n)]) (rest := [.int (iZ n), .int (iZ c1), .ref o]) (st1 := [.int (iZ (slZ F4 f c1 n)), .int (iZ n), .int (iZ c1), .ref o]) S (k_X0_slopeNumber l D o q1 q2 cI tE tL F4 G k f c1 n hFi (by omega) (by omega) (by omega)) tb_277 tb_279 ts_X0_slopeNumber tb_1 tb_280 hd_X0_slopeNumber ⟨rfl, rfl, by decide, by decide⟩ rX_bl (rX_w hP hK rfl hs hS) (va_recv hK hP (ci := 0) (q0 := 0) rfl rfl) rfl hl.1 rfl (Nat.le_of_ble_eq_true rfl) dX0_draftSlope_23 ⟨Nat.zero_le _, Nat.zero_le _⟩ rfl ?_
      have hsl26 := slZ_rng F4 f c1 n
      refine wr_V (As := [.int (iZ c1), .int (iZ n), .int (iZ (slZ F4 f c1 n))]) (rest := []) (st1 := []) (F' := uZ F4 (k * 72 + c1 * 9 + n + 4).toNat (slZ F4 f c1 n)) (G' := G) (k' := k) S (k_X0_setDraft l D o q1 q2 cI tE tL F4 G k c1 n (slZ F4 f c1 n) hd (by omega) (by omega) (by omega)) tb_147 tb_149 ts_X0_setDraft tb_1 tb_150 hd_X0_setDraft ⟨rfl, rfl, by decide, by decide⟩ hP hK rfl hs hS hA hAn rfl hl.1 rfl (Nat.le_of_ble_eq_true rfl) dX0_draftSlope_26 ⟨Nat.zero_le _, Nat.zero_le _⟩ rfl (fun H locs hP hS _ _ => ?_)
      obtain ⟨F5, eF5⟩ : ∃ Z : Nat → Int, Z = uZ F4 (k * 72 + c1 * 9 + n + 4).toNat (slZ F4 f c1 n) := ⟨_, rfl⟩
      rw [← eF5] at hP
      refine zi_inc (lv' := [(3, .int (iZ (n + 1))), (0, .ref o), (1, .int (iZ f)), (2, .int (iZ c1))]) hx hb dX0_draftSlope_29 hl (k := 3) rfl (by decide) rfl (fun ls hl => ?_)
      refine lv_goto (tgt := 11) hx hb dX0_draftSlope_32 (by decide) ?_
      exact ih11 (m11 - 1) (n + 1) (by omega) (by omega) _ _ (wP_eq hP ((by rw [eF5, eF4]; exact (fi_next (m := c1 * 9 + n + 4) (by omega) (by omega) (by omega) (by rw [sl_fi (by omega), jC_at (by omega) (by omega), jN_at (by omega) (by omega)])).trans (fi_len (by omega)))) rfl rfl) hS ls (lv_sub hl [1, 2, 3, 0] rfl)
set_option maxHeartbeats 4000000 in
set_option maxRecDepth 100000 in
theorem k_X0_draftProduct (l : Launch) (D : va_G) (o q1 q2 : Nat) (cI : ClassId) (tE tL : Nat) (F G : Nat → Int) (k : Int)  (hd : dX o q1 q2) (hG : ∀ j, 0 ≤ G j ∧ G j < 32003) (hk : 0 ≤ k ∧ k < 60) : wr_M l yX0_draftProduct cX0_draftProduct 3 none ({ frames := 2, cells := 0, slots := 0, locals := 45 }) [] D o q1 q2 cI tE tL F G k none (fiZ F (k * 72).toNat 72 (fun j => wnZ G (wkZ (jC j) 0) (jN j))) G k := by
  refine wr_of (by decide) rfl (Nat.le_of_ble_eq_true rfl) ?_
  intro p e s m below meth c A hAe S hr hlk hP hK hs hA hAn hS ls hl
  obtain ⟨hx, hb, hml, hown, hT⟩ := id S
  obtain ⟨⟨hZE, hTE⟩, hZL, hTL⟩ := id hs
  have hl : lv_has ls 3 [(0, .ref o)] := hl
  refine zi_const hx hb 0 dX0_draftProduct_0 ?_
  refine lv_istore_n (lv' := [(1, .int (iZ 0)), (0, .ref o)]) hx hb dX0_draftProduct_1 rfl hl (by decide) rfl (fun ls hl => ?_)
  refine lp_goX (nL := 3) (α := Int) (fun z => [(0, .ref o), (1, .int (iZ z))]) (fun z => fiZ F (k * 72).toNat (z * 9).toNat (fun j => wnZ G (wkZ (jC j) 0) (jN j))) (fun _ => G) (fun _ => k) (fun m2 z => 0 ≤ z ∧ z + (m2 : Int) = 8) ?_ 8 ((0 : Int)) (by omega) _ _ (wP_eq hP fi_0 rfl rfl) hS ls (lv_sub hl [1, 0] rfl)
  intro m2 z1 hI2 ih2 H locs hP hS ls hl
  obtain ⟨c1, rfl⟩ : ∃ y : Int, y = z1 := ⟨_, rfl⟩
  have hl : lv_has ls 3 [(0, .ref o), (1, .int (iZ c1))] := hl
  have hI2 : 0 ≤ c1 ∧ c1 + (m2 : Int) = 8 := hI2
  have hP : va_P D vwCl (wX o q1 q2 cI (fiZ F (k * 72).toNat (c1 * 9).toNat (fun j => wnZ G (wkZ (jC j) 0) (jN j))) G k) H := hP
  obtain ⟨F2, eF2⟩ : ∃ Z : Nat → Int, Z = fiZ F (k * 72).toNat (c1 * 9).toNat (fun j => wnZ G (wkZ (jC j) 0) (jN j)) := ⟨_, rfl⟩
  rw [← eF2] at hP
  refine lv_iload_n hx hb dX0_draftProduct_2 rfl (lv_at hl 1 rfl) ?_
  refine zi_bi hx hb 8 dX0_draftProduct_3 (by decide) ?_
  refine zi_cge (tgt := 44) hx hb dX0_draftProduct_5 (by decide) (by omega) (by omega) (fun hc5 => ?_) (fun hc5 => ?_)
  · exact wr_vret hx hb hr hlk (wP_eq hP ((by rw [eF2]; exact fi_len (n := 72) (by omega))) rfl rfl) hS rfl dX0_draftProduct_44
  · refine zi_bi hx hb (-4) dX0_draftProduct_8 (by decide) ?_
    refine lv_istore_n (lv' := [(2, .int (iZ (-4))), (0, .ref o), (1, .int (iZ c1))]) hx hb dX0_draftProduct_10 rfl hl (by decide) rfl (fun ls hl => ?_)
    refine lp_goX (nL := 3) (α := Int) (fun z => [(0, .ref o), (1, .int (iZ c1)), (2, .int (iZ z))]) (fun z => fiZ F (k * 72).toNat (c1 * 9 + z + 4).toNat (fun j => wnZ G (wkZ (jC j) 0) (jN j))) (fun _ => G) (fun _ => k) (fun m11 z => -4 ≤ z ∧ z + (m11 : Int) = 5) ?_ 9 (((-4) : Int)) (by omega) _ _ (wP_eq hP ((by rw [eF2]; exact fi_len (by omega))) rfl rfl) hS ls (lv_sub hl [1, 2, 0] rfl)
    intro m11 z3 hI11 ih11 H locs hP hS ls hl
    obtain ⟨n, rfl⟩ : ∃ y : Int, y = z3 := ⟨_, rfl⟩
    have hl : lv_has ls 3 [(0, .ref o), (1, .int (iZ c1)), (2, .int (iZ n))] := hl
    have hI11 : -4 ≤ n ∧ n + (m11 : Int) = 5 := hI11
    have hP : va_P D vwCl (wX o q1 q2 cI (fiZ F (k * 72).toNat (c1 * 9 + n + 4).toNat (fun j => wnZ G (wkZ (jC j) 0) (jN j))) G k) H := hP
    obtain ⟨F4, eF4⟩ : ∃ Z : Nat → Int, Z = fiZ F (k * 72).toNat (c1 * 9 + n + 4).toNat (fun j => wnZ G (wkZ (jC j) 0) (jN j)) := ⟨_, rfl⟩
    rw [← eF4] at hP
    refine lv_iload_n hx hb dX0_draftProduct_11 rfl (lv_at hl 2 rfl) ?_
    refine zi_const hx hb 4 dX0_draftProduct_12 ?_
    refine zi_cgt (tgt := 38) hx hb dX0_draftProduct_13 (by decide) (by omega) (by omega) (fun hc13 => ?_) (fun hc13 => ?_)
    · refine zi_inc (lv' := [(1, .int (iZ (c1 + 1))), (0, .ref o), (2, .int (iZ n))]) hx hb dX0_draftProduct_38 hl (k := 1) rfl (by decide) rfl (fun ls hl => ?_)
      refine lv_goto (tgt := 2) hx hb dX0_draftProduct_41 (by decide) ?_
      exact ih2 (m2 - 1) (c1 + 1) (by omega) (by omega) _ _ (wP_eq hP ((by rw [eF4]; exact fi_len (by omega))) rfl rfl) hS ls (lv_sub hl [1, 0] rfl)
    · refine lv_aload_n hx hb dX0_draftProduct_16 rfl (lv_at hl 0 rfl) ?_
      refine lv_iload_n hx hb dX0_draftProduct_17 rfl (lv_at hl 1 rfl) ?_
      refine lv_iload_n hx hb dX0_draftProduct_18 rfl (lv_at hl 2 rfl) ?_
      refine lv_aload_n hx hb dX0_draftProduct_19 rfl (lv_at hl 0 rfl) ?_
      refine lv_iload_n hx hb dX0_draftProduct_20 rfl (lv_at hl 1 rfl) ?_
      refine zi_const hx hb 0 dX0_draftProduct_21 ?_
      refine rd_S (As := [.int (iZ c1), .int (iZ 0)]) (rest := [.ref o, .int (iZ n), .int (iZ c1), .ref o]) (st1 := [.int (iZ (wkZ c1 0)), .ref o, .int (iZ n), .int (iZ c1), .ref o]) S (k_X0_wideKind l tE tL c1 0 (by omega) (by omega)) tb_233 tb_234 tb_1 tb_235 hd_X0_wideKind ⟨rfl, rfl, by decide, by decide⟩ sB_bl (sB_w hs hS) rfl hl.1 rfl (Nat.le_of_ble_eq_true rfl) dX0_draftProduct_22 ⟨Nat.zero_le _, Nat.zero_le _⟩ rfl ?_
      have hw25 := wkZ_rng c1 0
      refine lv_iload_n hx hb dX0_draftProduct_25 rfl (lv_at hl 2 rfl) ?_
      refine rd_V (As := [.int (iZ (wkZ c1 0)), .int (iZ n)]) (rest := [.int (iZ n), .int (iZ c1), .ref o]) (st1 := [.int (iZ (wnZ G (wkZ c1 0) n)), .int (iZ n), .int (iZ c1), .ref o]) S (k_X0_wideNumber l D o q1 q2 cI tE tL F4 G k (wkZ c1 0) n (by omega) (by omega)) tb_257 tb_259 ts_X0_wideNumber tb_1 tb_260 hd_X0_wideNumber ⟨rfl, rfl, by decide, by decide⟩ rX_bl (rX_w hP hK rfl hs hS) (va_recv hK hP (ci := 0) (q0 := 0) rfl rfl) rfl hl.1 rfl (Nat.le_of_ble_eq_true rfl) dX0_draftProduct_26 ⟨Nat.zero_le _, Nat.zero_le _⟩ rfl ?_
      have hn29 := wnZ_rng hG (wkZ c1 0) n
      refine wr_V (As := [.int (iZ c1), .int (iZ n), .int (iZ (wnZ G (wkZ c1 0) n))]) (rest := []) (st1 := []) (F' := uZ F4 (k * 72 + c1 * 9 + n + 4).toNat (wnZ G (wkZ c1 0) n)) (G' := G) (k' := k) S (k_X0_setDraft l D o q1 q2 cI tE tL F4 G k c1 n (wnZ G (wkZ c1 0) n) hd (by omega) (by omega) (by omega)) tb_147 tb_149 ts_X0_setDraft tb_1 tb_150 hd_X0_setDraft ⟨rfl, rfl, by decide, by decide⟩ hP hK rfl hs hS hA hAn rfl hl.1 rfl (Nat.le_of_ble_eq_true rfl) dX0_draftProduct_29 ⟨Nat.zero_le _, Nat.zero_le _⟩ rfl (fun H locs hP hS _ _ => ?_)
      obtain ⟨F5, eF5⟩ : ∃ Z : Nat → Int, Z = uZ F4 (k * 72 + c1 * 9 + n + 4).toNat (wnZ G (wkZ c1 0) n) := ⟨_, rfl⟩
      rw [← eF5] at hP
      refine zi_inc (lv' := [(2, .int (iZ (n + 1))), (0, .ref o), (1, .int (iZ c1))]) hx hb dX0_draftProduct_32 hl (k := 2) rfl (by decide) rfl (fun ls hl => ?_)
      refine lv_goto (tgt := 11) hx hb dX0_draftProduct_35 (by decide) ?_
      exact ih11 (m11 - 1) (n + 1) (by omega) (by omega) _ _ (wP_eq hP ((by rw [eF5, eF4]; exact (fi_next (m := c1 * 9 + n + 4) (by omega) (by omega) (by omega) (by rw [jC_at (by omega) (by omega), jN_at (by omega) (by omega)])).trans (fi_len (by omega)))) rfl rfl) hS ls (lv_sub hl [1, 2, 0] rfl)
end
section
set_option maxHeartbeats 4000000 in
set_option maxRecDepth 100000 in
theorem k_X0_clearWide (l : Launch) (D : va_G) (o q1 q2 : Nat) (cI : ClassId) (tE tL : Nat) (F G : Nat → Int) (k : Int)  (hd : dX o q1 q2)  : wr_M l yX0_clearWide cX0_clearWide 2 none ({ frames := 0, cells := 0, slots := 0, locals := 0 }) [] D o q1 q2 cI tE tL F G k none F (fiZ G 0 255 (fun _ => (0 : Int))) k := by
  refine wr_of (by decide) rfl (Nat.le_of_ble_eq_true rfl) ?_
  intro p e s m below meth c A hAe S hr hlk hP hK hs hA hAn hS ls hl
  obtain ⟨hx, hb, hml, hown, hT⟩ := id S
  obtain ⟨⟨hZE, hTE⟩, hZL, hTL⟩ := id hs
  have hl : lv_has ls 2 [(0, .ref o)] := hl
  refine zi_const hx hb 0 dX0_clearWide_0 ?_
  refine lv_istore_n (lv' := [(1, .int (iZ 0)), (0, .ref o)]) hx hb dX0_clearWide_1 rfl hl (by decide) rfl (fun ls hl => ?_)
  refine lp_goX (nL := 2) (α := Int) (fun z => [(0, .ref o), (1, .int (iZ z))]) (fun _ => F) (fun z => fiZ G 0 z.toNat (fun _ => (0 : Int))) (fun _ => k) (fun m2 z => 0 ≤ z ∧ z + (m2 : Int) = 255) ?_ 255 ((0 : Int)) (by omega) _ _ (wP_eq hP rfl fi_0 rfl) hS ls (lv_sub hl [1, 0] rfl)
  intro m2 z1 hI2 ih2 H locs hP hS ls hl
  obtain ⟨i, rfl⟩ : ∃ y : Int, y = z1 := ⟨_, rfl⟩
  have hl : lv_has ls 2 [(0, .ref o), (1, .int (iZ i))] := hl
  have hI2 : 0 ≤ i ∧ i + (m2 : Int) = 255 := hI2
  have hP : va_P D vwCl (wX o q1 q2 cI F (fiZ G 0 i.toNat (fun _ => (0 : Int))) k) H := hP
  obtain ⟨G2, eG2⟩ : ∃ Z : Nat → Int, Z = fiZ G 0 i.toNat (fun _ => (0 : Int)) := ⟨_, rfl⟩
  rw [← eG2] at hP
  refine lv_iload_n hx hb dX0_clearWide_2 rfl (lv_at hl 1 rfl) ?_
  refine zi_si hx hb 255 dX0_clearWide_3 (by decide) ?_
  refine zi_cge (tgt := 22) hx hb dX0_clearWide_6 (by decide) (by omega) (by omega) (fun hc6 => ?_) (fun hc6 => ?_)
  · exact wr_vret hx hb hr hlk (wP_eq hP rfl ((by rw [eG2]; exact fi_len (n := 255) (by omega))) rfl) hS rfl dX0_clearWide_22
  · refine lv_aload_n hx hb dX0_clearWide_9 rfl (lv_at hl 0 rfl) ?_
    refine va_get (D := D) (ci := 0) (C := RX0) (T := TX0) (N := 3) hx hb hT inX0 hown hK hP 0 rfl rfl 1 (by decide) (hT _ tb_19) (fun _ h9 => h9) rfl dX0_clearWide_10 ?_
    refine lv_iload_n hx hb dX0_clearWide_13 rfl (lv_at hl 1 rfl) ?_
    refine zi_const hx hb 0 dX0_clearWide_14 ?_
    refine wx_wid hx hb hK hP hd hA hS (by omega) dX0_clearWide_15 (fun H locs hP hS => ?_)
    obtain ⟨G3, eG3⟩ : ∃ Z : Nat → Int, Z = uZ G2 (i).toNat 0 := ⟨_, rfl⟩
    rw [← eG3] at hP
    refine zi_inc (lv' := [(1, .int (iZ (i + 1))), (0, .ref o)]) hx hb dX0_clearWide_16 hl (k := 1) rfl (by decide) rfl (fun ls hl => ?_)
    refine lv_goto (tgt := 2) hx hb dX0_clearWide_19 (by decide) ?_
    exact ih2 (m2 - 1) (i + 1) (by omega) (by omega) _ _ (wP_eq hP rfl ((by rw [eG3, eG2]; exact fi_next (b := 0) (by omega) (by omega) (by omega) rfl)) rfl) hS ls (lv_sub hl [1, 0] rfl)
def awZ (G : Nat → Int) (c n v : Int) : Nat → Int := if v = 0 then G else uZ G (c * 17 + n + 8).toNat ((G (c * 17 + n + 8).toNat + v) % 32003)
theorem uZ_rng {G : Nat → Int} {i : Nat} {x : Int} (hG : ∀ j, 0 ≤ G j ∧ G j < 32003) (hx : 0 ≤ x ∧ x < 32003) : ∀ j, 0 ≤ uZ G i x j ∧ uZ G i x j < 32003 := by
  intro j
  unfold uZ
  split
  · exact hx
  · exact hG j
theorem awZ_rng {G : Nat → Int} (hG : ∀ j, 0 ≤ G j ∧ G j < 32003) (c n v : Int) : ∀ j, 0 ≤ awZ G c n v j ∧ awZ G c n v j < 32003 := by
  unfold awZ
  split
  · exact hG
  · exact uZ_rng hG (by omega)
set_option maxHeartbeats 4000000 in
set_option maxRecDepth 100000 in
theorem k_X0_addWide (l : Launch) (D : va_G) (o q1 q2 : Nat) (cI : ClassId) (tE tL : Nat) (F G : Nat → Int) (k : Int) (c1 n v : Int) (hd : dX o q1 q2) (hG : ∀ j, 0 ≤ G j ∧ G j < 32003) (hc1 : 0 ≤ c1 ∧ c1 < 15) (hn : -8 ≤ n ∧ n ≤ 8) (hv : 0 ≤ v ∧ v ≤ 1024128004) : wr_M l yX0_addWide cX0_addWide 6 none ({ frames := 1, cells := 0, slots := 0, locals := 23 }) [.int (iZ c1), .int (iZ n), .long (lZ v)] D o q1 q2 cI tE tL F G k none F (awZ G c1 n v) k := by
  refine wr_of (by decide) rfl (Nat.le_of_ble_eq_true rfl) ?_
  intro p e s m below meth c A hAe S hr hlk hP hK hs hA hAn hS ls hl
  obtain ⟨hx, hb, hml, hown, hT⟩ := id S
  obtain ⟨⟨hZE, hTE⟩, hZL, hTL⟩ := id hs
  have hl : lv_has ls 6 [(0, .ref o), (1, .int (iZ c1)), (2, .int (iZ n)), (3, .long (lZ v))] := hl
  refine lv_lload_n hx hb dX0_addWide_0 rfl (lv_at hl 3 rfl) ?_
  refine zl_const hx hb 0 dX0_addWide_1 (by decide) ?_
  refine zl_ceq (tgt := 41) hx hb dX0_addWide_2 dX0_addWide_3 (by decide) (by omega) (by omega) (fun hc2 => ?_) (fun hc2 => ?_)
  · exact wr_vret hx hb hr hlk (wP_eq hP rfl ((by unfold awZ; rw [if_pos (by omega)])) rfl) hS rfl dX0_addWide_41
  · refine lv_iload_n hx hb dX0_addWide_6 rfl (lv_at hl 1 rfl) ?_
    refine lv_iload_n hx hb dX0_addWide_7 rfl (lv_at hl 2 rfl) ?_
    refine rd_S (As := [.int (iZ c1), .int (iZ n)]) (rest := []) (st1 := [.int (iZ (wdZ c1 n))]) S (k_X0_isWidePlace l c1 n (by omega) (by omega)) tb_244 tb_245 tb_1 tb_246 hd_X0_isWidePlace ⟨rfl, rfl, by decide, by decide⟩ bl_T (fun _ _ _ => trivial) rfl hl.1 rfl (Nat.le_of_ble_eq_true rfl) dX0_addWide_8 ⟨Nat.zero_le _, Nat.zero_le _⟩ rfl ?_
    have hf11 := wdZ_or c1 n
    refine zi_feq (tgt := 41) hx hb dX0_addWide_11 (by decide) (by omega) (fun hc11 => ?_) (fun hc11 => ?_)
    · exfalso
      omega
    · refine lv_iload_n hx hb dX0_addWide_14 rfl (lv_at hl 1 rfl) ?_
      refine lv_iload_n hx hb dX0_addWide_15 rfl (lv_at hl 2 rfl) ?_
      refine rd_S (As := [.int (iZ c1), .int (iZ n)]) (rest := []) (st1 := [.int (iZ (c1 * 17 + n + 8))]) S (k_X0_widePlace l c1 n) tb_247 tb_248 tb_1 tb_249 hd_X0_widePlace ⟨rfl, rfl, by decide, by decide⟩ bl_T (fun _ _ _ => trivial) rfl hl.1 rfl (Nat.le_of_ble_eq_true rfl) dX0_addWide_16 ⟨Nat.zero_le _, Nat.zero_le _⟩ rfl ?_
      refine zi_top (fun v1 ev1 => ?_)
      refine lv_istore (lv' := [(5, .int (iZ v1)), (0, .ref o), (1, .int (iZ c1)), (2, .int (iZ n)), (3, .long (lZ v))]) hx hb dX0_addWide_19 hl (by decide) rfl (fun ls hl => ?_)
      refine lv_aload_n hx hb dX0_addWide_21 rfl (lv_at hl 1 rfl) ?_
      refine va_get (D := D) (ci := 0) (C := RX0) (T := TX0) (N := 3) hx hb hT inX0 hown hK hP 0 rfl rfl 1 (by decide) (hT _ tb_19) (fun _ h9 => h9) rfl dX0_addWide_22 ?_
      refine lv_iload hx hb dX0_addWide_25 (lv_at hl 0 rfl) ?_
      refine lv_aload_n hx hb dX0_addWide_27 rfl (lv_at hl 1 rfl) ?_
      refine va_get (D := D) (ci := 0) (C := RX0) (T := TX0) (N := 3) hx hb hT inX0 hown hK hP 0 rfl rfl 1 (by decide) (hT _ tb_19) (fun _ h9 => h9) rfl dX0_addWide_28 ?_
      refine lv_iload hx hb dX0_addWide_31 (lv_at hl 0 rfl) ?_
      refine va_iald hx hb hK hP 2 0 rfl rfl (iZ_in (by omega) (by omega) (by decide)) dX0_addWide_33 ?_
      refine zi_as (a := G ((v1).toNat)) (by rw [iZ_cl (by omega) (by omega)]) ?_
      have hgg := hG (c1 * 17 + n + 8).toNat
      have hzz : G (v1).toNat = G (c1 * 17 + n + 8).toNat := by rw [ev1]
      rw [← hzz] at hgg
      refine zi_i2l hx hb dX0_addWide_34 (by omega) ?_
      refine lv_lload_n hx hb dX0_addWide_35 rfl (lv_at hl 4 rfl) ?_
      refine zl_add hx hb dX0_addWide_36 ?_
      refine rd_S (As := [.long (lZ ((G (v1).toNat) + v))]) (rest := [.int (iZ v1), .ref q2]) (st1 := [.int (iZ (((G (v1).toNat) + v) % 32003)), .int (iZ v1), .ref q2]) S (k_X0_reduce l ((G (v1).toNat) + v) (by omega)) tb_154 tb_155 tb_1 tb_156 hd_X0_reduce ⟨rfl, rfl, by decide, by decide⟩ bl_T (fun _ _ _ => trivial) rfl hl.1 rfl (Nat.le_of_ble_eq_true rfl) dX0_addWide_37 ⟨Nat.zero_le _, Nat.zero_le _⟩ rfl ?_
      refine wx_wid hx hb hK hP hd hA hS (by omega) dX0_addWide_40 (fun H locs hP hS => ?_)
      obtain ⟨G2, eG2⟩ : ∃ Z : Nat → Int, Z = uZ G (v1).toNat (((G (v1).toNat) + v) % 32003) := ⟨_, rfl⟩
      rw [← eG2] at hP
      exact wr_vret hx hb hr hlk (wP_eq hP rfl ((by unfold awZ; rw [if_neg (by omega), eG2, ev1])) rfl) hS rfl dX0_addWide_41
def amZ (F G : Nat → Int) (g a b t : Int) : Nat → (Nat → Int)
  | 0 => G
  | m + 1 => awZ (amZ F G g a b t m) (wkZ (jC m) a) (jN m + b) (t * F ((g * 72).toNat + m))
theorem amZ_rng {F G : Nat → Int} {g a b t : Int} (hG : ∀ j, 0 ≤ G j ∧ G j < 32003) (m : Nat) : ∀ j, 0 ≤ amZ F G g a b t m j ∧ amZ F G g a b t m j < 32003 := by
  induction m with
  | zero => exact hG
  | succ m ih => exact awZ_rng ih _ _ _
theorem am_len {F G : Nat → Int} {g a b t m n : Int} (h : m = n) : amZ F G g a b t m.toNat = amZ F G g a b t n.toNat := by rw [h]
theorem am_next {F G : Nat → Int} {g a b t c n : Int} (hc : 0 ≤ c) (hn : -4 ≤ n ∧ n ≤ 4) {w v : Int} (hw : w = wkZ c a) (hv : v = t * F ((g * 72).toNat + (c * 9 + n + 4).toNat)) : awZ (amZ F G g a b t (c * 9 + n + 4).toNat) w (n + b) v = amZ F G g a b t (c * 9 + (n + 1) + 4).toNat := by
  rw [show (c * 9 + (n + 1) + 4).toNat = (c * 9 + n + 4).toNat + 1 by omega]
  show _ = awZ _ (wkZ (jC _) a) (jN _ + b) _
  rw [jC_at hc hn, jN_at hc hn, hw, hv]
set_option maxHeartbeats 4000000 in
set_option maxRecDepth 100000 in
theorem k_X0_addMultiple (l : Launch) (D : va_G) (o q1 q2 : Nat) (cI : ClassId) (tE tL : Nat) (F G : Nat → Int) (k : Int) (g a b t : Int) (hd : dX o q1 q2) (hF : ∀ j, 0 ≤ F j ∧ F j < 32003) (hG : ∀ j, 0 ≤ G j ∧ G j < 32003) (hg : 0 ≤ g ∧ g < 60) (ha : 0 ≤ a ∧ a < 8) (hb1 : -4 ≤ b ∧ b ≤ 4) (ht : 0 ≤ t ∧ t < 32003) : wr_M l yX0_addMultiple cX0_addMultiple 8 none ({ frames := 2, cells := 0, slots := 0, locals := 48 }) [.int (iZ g), .int (iZ a), .int (iZ b), .int (iZ t)] D o q1 q2 cI tE tL F G k none F (amZ F G g a b t 72) k := by
  refine wr_of (by decide) rfl (Nat.le_of_ble_eq_true rfl) ?_
  intro p e s m below meth c A hAe S hr hlk hP hK hs hA hAn hS ls hl
  obtain ⟨hx, hb, hml, hown, hT⟩ := id S
  obtain ⟨⟨hZE, hTE⟩, hZL, hTL⟩ := id hs
  have hl : lv_has ls 8 [(0, .ref o), (1, .int (iZ g)), (2, .int (iZ a)), (3, .int (iZ b)), (4, .int (iZ t))] := hl
  refine zi_const hx hb 0 dX0_addMultiple_0 ?_
  refine lv_istore (lv' := [(5, .int (iZ 0)), (0, .ref o), (1, .int (iZ g)), (2, .int (iZ a)), (3, .int (iZ b)), (4, .int (iZ t))]) hx hb dX0_addMultiple_1 hl (by decide) rfl (fun ls hl => ?_)
  refine lp_goX (nL := 8) (α := Int) (fun z => [(0, .ref o), (1, .int (iZ g)), (2, .int (iZ a)), (3, .int (iZ b)), (4, .int (iZ t)), (5, .int (iZ z))]) (fun _ => F) (fun z => amZ F G g a b t (z * 9).toNat) (fun _ => k) (fun m3 z => 0 ≤ z ∧ z + (m3 : Int) = 8) ?_ 8 ((0 : Int)) (by omega) _ _ (wP_eq hP rfl rfl rfl) hS ls (lv_sub hl [1, 2, 3, 4, 5, 0] rfl)
  intro m3 z1 hI3 ih3 H locs hP hS ls hl
  obtain ⟨c1, rfl⟩ : ∃ y : Int, y = z1 := ⟨_, rfl⟩
  have hl : lv_has ls 8 [(0, .ref o), (1, .int (iZ g)), (2, .int (iZ a)), (3, .int (iZ b)), (4, .int (iZ t)), (5, .int (iZ c1))] := hl
  have hI3 : 0 ≤ c1 ∧ c1 + (m3 : Int) = 8 := hI3
  have hP : va_P D vwCl (wX o q1 q2 cI F (amZ F G g a b t (c1 * 9).toNat) k) H := hP
  obtain ⟨G2, eG2⟩ : ∃ Z : Nat → Int, Z = amZ F G g a b t (c1 * 9).toNat := ⟨_, rfl⟩
  rw [← eG2] at hP
  refine lv_iload hx hb dX0_addMultiple_3 (lv_at hl 5 rfl) ?_
  refine zi_bi hx hb 8 dX0_addMultiple_5 (by decide) ?_
  refine zi_cge (tgt := 64) hx hb dX0_addMultiple_7 (by decide) (by omega) (by omega) (fun hc7 => ?_) (fun hc7 => ?_)
  · exact wr_vret hx hb hr hlk (wP_eq hP rfl ((by rw [eG2]; exact am_len (n := 72) (by omega))) rfl) hS rfl dX0_addMultiple_64
  · refine lv_iload hx hb dX0_addMultiple_10 (lv_at hl 5 rfl) ?_
    refine lv_iload_n hx hb dX0_addMultiple_12 rfl (lv_at hl 2 rfl) ?_
    refine rd_S (As := [.int (iZ c1), .int (iZ a)]) (rest := []) (st1 := [.int (iZ (wkZ c1 a))]) S (k_X0_wideKind l tE tL c1 a (by omega) (by omega)) tb_233 tb_234 tb_1 tb_235 hd_X0_wideKind ⟨rfl, rfl, by decide, by decide⟩ sB_bl (sB_w hs hS) rfl hl.1 rfl (Nat.le_of_ble_eq_true rfl) dX0_addMultiple_13 ⟨Nat.zero_le _, Nat.zero_le _⟩ rfl ?_
    have hw16 := wkZ_rng c1 a
    refine zi_top (fun v3 ev3 => ?_)
    refine lv_istore (lv' := [(6, .int (iZ v3)), (0, .ref o), (1, .int (iZ g)), (2, .int (iZ a)), (3, .int (iZ b)), (4, .int (iZ t)), (5, .int (iZ c1))]) hx hb dX0_addMultiple_16 hl (by decide) rfl (fun ls hl => ?_)
    refine zi_bi hx hb (-4) dX0_addMultiple_18 (by decide) ?_
    refine lv_istore (lv' := [(7, .int (iZ (-4))), (6, .int (iZ v3)), (0, .ref o), (1, .int (iZ g)), (2, .int (iZ a)), (3, .int (iZ b)), (4, .int (iZ t)), (5, .int (iZ c1))]) hx hb dX0_addMultiple_20 hl (by decide) rfl (fun ls hl => ?_)
    refine lp_goX (nL := 8) (α := Int) (fun z => [(0, .ref o), (1, .int (iZ g)), (2, .int (iZ a)), (3, .int (iZ b)), (4, .int (iZ t)), (5, .int (iZ c1)), (6, .int (iZ v3)), (7, .int (iZ z))]) (fun _ => F) (fun z => amZ F G g a b t (c1 * 9 + z + 4).toNat) (fun _ => k) (fun m22 z => -4 ≤ z ∧ z + (m22 : Int) = 5) ?_ 9 (((-4) : Int)) (by omega) _ _ (wP_eq hP rfl ((by rw [eG2]; exact am_len (by omega))) rfl) hS ls (lv_sub hl [2, 3, 4, 5, 6, 7, 1, 0] rfl)
    intro m22 z4 hI22 ih22 H locs hP hS ls hl
    obtain ⟨n, rfl⟩ : ∃ y : Int, y = z4 := ⟨_, rfl⟩
    have hl : lv_has ls 8 [(0, .ref o), (1, .int (iZ g)), (2, .int (iZ a)), (3, .int (iZ b)), (4, .int (iZ t)), (5, .int (iZ c1)), (6, .int (iZ v3)), (7, .int (iZ n))] := hl
    have hI22 : -4 ≤ n ∧ n + (m22 : Int) = 5 := hI22
    have hP : va_P D vwCl (wX o q1 q2 cI F (amZ F G g a b t (c1 * 9 + n + 4).toNat) k) H := hP
    obtain ⟨G5, eG5⟩ : ∃ Z : Nat → Int, Z = amZ F G g a b t (c1 * 9 + n + 4).toNat := ⟨_, rfl⟩
    rw [← eG5] at hP
    have hGi : ∀ j, 0 ≤ G5 j ∧ G5 j < 32003 := by
      rw [eG5]
      exact amZ_rng hG _
    have hm1 := mul_rng ht (nuZ_rng hF g c1 n)
    refine lv_iload hx hb dX0_addMultiple_22 (lv_at hl 7 rfl) ?_
    refine zi_const hx hb 4 dX0_addMultiple_24 ?_
    refine zi_cgt (tgt := 58) hx hb dX0_addMultiple_25 (by decide) (by omega) (by omega) (fun hc25 => ?_) (fun hc25 => ?_)
    · refine zi_inc (lv' := [(5, .int (iZ (c1 + 1))), (0, .ref o), (1, .int (iZ g)), (2, .int (iZ a)), (3, .int (iZ b)), (4, .int (iZ t)), (6, .int (iZ v3)), (7, .int (iZ n))]) hx hb dX0_addMultiple_58 hl (k := 5) rfl (by decide) rfl (fun ls hl => ?_)
      refine lv_goto (tgt := 3) hx hb dX0_addMultiple_61 (by decide) ?_
      exact ih3 (m3 - 1) (c1 + 1) (by omega) (by omega) _ _ (wP_eq hP rfl ((by rw [eG5]; exact am_len (by omega))) rfl) hS ls (lv_sub hl [1, 2, 3, 4, 5, 0] rfl)
    · refine lv_aload_n hx hb dX0_addMultiple_28 rfl (lv_at hl 0 rfl) ?_
      refine lv_iload hx hb dX0_addMultiple_29 (lv_at hl 6 rfl) ?_
      refine lv_iload hx hb dX0_addMultiple_31 (lv_at hl 7 rfl) ?_
      refine lv_iload_n hx hb dX0_addMultiple_33 rfl (lv_at hl 3 rfl) ?_
      refine zi_add hx hb dX0_addMultiple_34 ?_
      refine lv_iload hx hb dX0_addMultiple_35 (lv_at hl 4 rfl) ?_
      refine zi_i2l hx hb dX0_addMultiple_37 (by omega) ?_
      refine lv_aload_n hx hb dX0_addMultiple_38 rfl (lv_at hl 0 rfl) ?_
      refine lv_iload_n hx hb dX0_addMultiple_39 rfl (lv_at hl 1 rfl) ?_
      refine lv_iload hx hb dX0_addMultiple_40 (lv_at hl 5 rfl) ?_
      refine lv_iload hx hb dX0_addMultiple_42 (lv_at hl 7 rfl) ?_
      refine rd_V (As := [.int (iZ g), .int (iZ c1), .int (iZ n)]) (rest := [.long (lZ t), .int (iZ (n + b)), .int (iZ v3), .ref o]) (st1 := [.int (iZ (nuZ F g c1 n)), .long (lZ t), .int (iZ (n + b)), .int (iZ v3), .ref o]) S (k_X0_number l D o q1 q2 cI tE tL F G5 k g c1 n (by omega) (by omega) (by omega)) tb_194 tb_196 ts_X0_number tb_1 tb_197 hd_X0_number ⟨rfl, rfl, by decide, by decide⟩ rX_bl (rX_w hP hK rfl hs hS) (va_recv hK hP (ci := 0) (q0 := 0) rfl rfl) rfl hl.1 rfl (Nat.le_of_ble_eq_true rfl) dX0_addMultiple_44 ⟨Nat.zero_le _, Nat.zero_le _⟩ rfl ?_
      have hn47 := nuZ_rng hF g c1 n
      refine zi_i2l hx hb dX0_addMultiple_47 (by omega) ?_
      refine zl_mul hx hb dX0_addMultiple_48 ?_
      refine wr_V (As := [.int (iZ v3), .int (iZ (n + b)), .long (lZ (t * (nuZ F g c1 n)))]) (rest := []) (st1 := []) (F' := F) (G' := awZ G5 v3 (n + b) (t * (nuZ F g c1 n))) (k' := k) S (k_X0_addWide l D o q1 q2 cI tE tL F G5 k v3 (n + b) (t * (nuZ F g c1 n)) hd hGi (by omega) (by omega) (by omega)) tb_240 tb_242 ts_X0_addWide tb_1 tb_243 hd_X0_addWide ⟨rfl, rfl, by decide, by decide⟩ hP hK rfl hs hS hA hAn rfl hl.1 rfl (Nat.le_of_ble_eq_true rfl) dX0_addMultiple_49 ⟨Nat.zero_le _, Nat.zero_le _⟩ rfl (fun H locs hP hS _ _ => ?_)
      obtain ⟨G6, eG6⟩ : ∃ Z : Nat → Int, Z = awZ G5 v3 (n + b) (t * (nuZ F g c1 n)) := ⟨_, rfl⟩
      rw [← eG6] at hP
      refine zi_inc (lv' := [(7, .int (iZ (n + 1))), (0, .ref o), (1, .int (iZ g)), (2, .int (iZ a)), (3, .int (iZ b)), (4, .int (iZ t)), (5, .int (iZ c1)), (6, .int (iZ v3))]) hx hb dX0_addMultiple_52 hl (k := 7) rfl (by decide) rfl (fun ls hl => ?_)
      refine lv_goto (tgt := 22) hx hb dX0_addMultiple_55 (by decide) ?_
      exact ih22 (m22 - 1) (n + 1) (by omega) (by omega) _ _ (wP_eq hP rfl ((by rw [eG6, eG5]; exact am_next (by omega) (by omega) ev3 (by rw [nu_lin (by omega) (by omega) (by omega)]))) rfl) hS ls (lv_sub hl [1, 2, 3, 4, 5, 6, 7, 0] rfl)
def spZ (F G : Nat → Int) (f g : Int) : Nat → (Nat → Int)
  | 0 => fiZ G 0 255 (fun _ => (0 : Int))
  | m + 1 => if F ((f * 72).toNat + m) = 0 then spZ F G f g m else amZ F (spZ F G f g m) g (jC m) (jN m) (F ((f * 72).toNat + m)) 72
theorem spZ_rng {F G : Nat → Int} {f g : Int} (hG : ∀ j, 0 ≤ G j ∧ G j < 32003) (m : Nat) : ∀ j, 0 ≤ spZ F G f g m j ∧ spZ F G f g m j < 32003 := by
  induction m with
  | zero => exact fi_rng hG (fun _ => by omega)
  | succ m ih =>
    unfold spZ
    split
    · exact ih
    · exact amZ_rng ih 72
theorem sp_len {F G : Nat → Int} {f g m n : Int} (h : m = n) : spZ F G f g m.toNat = spZ F G f g n.toNat := by rw [h]
theorem sp_same {F G : Nat → Int} {f g c n v : Int} (hc : 0 ≤ c) (hn : -4 ≤ n ∧ n ≤ 4) (hv : v = F ((f * 72).toNat + (c * 9 + n + 4).toNat)) (h0 : v = 0) : spZ F G f g (c * 9 + n + 4).toNat = spZ F G f g (c * 9 + (n + 1) + 4).toNat := by
  rw [show (c * 9 + (n + 1) + 4).toNat = (c * 9 + n + 4).toNat + 1 by omega]
  show _ = ite _ _ _
  rw [if_pos (by rw [← hv]; exact h0)]
theorem sp_next {F G : Nat → Int} {f g c n v : Int} (hc : 0 ≤ c) (hn : -4 ≤ n ∧ n ≤ 4) (hv : v = F ((f * 72).toNat + (c * 9 + n + 4).toNat)) (h0 : v ≠ 0) : amZ F (spZ F G f g (c * 9 + n + 4).toNat) g c n v 72 = spZ F G f g (c * 9 + (n + 1) + 4).toNat := by
  rw [show (c * 9 + (n + 1) + 4).toNat = (c * 9 + n + 4).toNat + 1 by omega]
  show _ = ite _ _ _
  rw [if_neg (by rw [← hv]; exact h0), jC_at hc hn, jN_at hc hn, ← hv]
set_option maxHeartbeats 4000000 in
set_option maxRecDepth 100000 in
theorem k_X0_sumUpProduct (l : Launch) (D : va_G) (o q1 q2 : Nat) (cI : ClassId) (tE tL : Nat) (F G : Nat → Int) (k : Int) (f g : Int) (hd : dX o q1 q2) (hF : ∀ j, 0 ≤ F j ∧ F j < 32003) (hG : ∀ j, 0 ≤ G j ∧ G j < 32003) (hf : 0 ≤ f ∧ f < 60) (hg : 0 ≤ g ∧ g < 60) : wr_M l yX0_sumUpProduct cX0_sumUpProduct 6 none ({ frames := 3, cells := 0, slots := 0, locals := 75 }) [.int (iZ f), .int (iZ g)] D o q1 q2 cI tE tL F G k none F (spZ F G f g 72) k := by
  refine wr_of (by decide) rfl (Nat.le_of_ble_eq_true rfl) ?_
  intro p e s m below meth c A hAe S hr hlk hP hK hs hA hAn hS ls hl
  obtain ⟨hx, hb, hml, hown, hT⟩ := id S
  obtain ⟨⟨hZE, hTE⟩, hZL, hTL⟩ := id hs
  have hl : lv_has ls 6 [(0, .ref o), (1, .int (iZ f)), (2, .int (iZ g))] := hl
  refine lv_aload_n hx hb dX0_sumUpProduct_0 rfl (lv_at hl 0 rfl) ?_
  refine wr_V (As := []) (rest := []) (st1 := []) (F' := F) (G' := fiZ G 0 255 (fun _ => (0 : Int))) (k' := k) S (k_X0_clearWide l D o q1 q2 cI tE tL F G k  hd ) tb_225 tb_227 ts_X0_clearWide tb_1 tb_228 hd_X0_clearWide ⟨rfl, rfl, by decide, by decide⟩ hP hK rfl hs hS hA hAn rfl hl.1 rfl (Nat.le_of_ble_eq_true rfl) dX0_sumUpProduct_1 ⟨Nat.zero_le _, Nat.zero_le _⟩ rfl (fun H locs hP hS _ _ => ?_)
  obtain ⟨G1, eG1⟩ : ∃ Z : Nat → Int, Z = fiZ G 0 255 (fun _ => (0 : Int)) := ⟨_, rfl⟩
  rw [← eG1] at hP
  refine zi_const hx hb 0 dX0_sumUpProduct_4 ?_
  refine lv_istore_n (lv' := [(3, .int (iZ 0)), (0, .ref o), (1, .int (iZ f)), (2, .int (iZ g))]) hx hb dX0_sumUpProduct_5 rfl hl (by decide) rfl (fun ls hl => ?_)
  refine lp_goX (nL := 6) (α := Int) (fun z => [(0, .ref o), (1, .int (iZ f)), (2, .int (iZ g)), (3, .int (iZ z))]) (fun _ => F) (fun z => spZ F G f g (z * 9).toNat) (fun _ => k) (fun m6 z => 0 ≤ z ∧ z + (m6 : Int) = 8) ?_ 8 ((0 : Int)) (by omega) _ _ (wP_eq hP rfl ((by rw [eG1]; rfl)) rfl) hS ls (lv_sub hl [1, 2, 3, 0] rfl)
  intro m6 z2 hI6 ih6 H locs hP hS ls hl
  obtain ⟨c1, rfl⟩ : ∃ y : Int, y = z2 := ⟨_, rfl⟩
  have hl : lv_has ls 6 [(0, .ref o), (1, .int (iZ f)), (2, .int (iZ g)), (3, .int (iZ c1))] := hl
  have hI6 : 0 ≤ c1 ∧ c1 + (m6 : Int) = 8 := hI6
  have hP : va_P D vwCl (wX o q1 q2 cI F (spZ F G f g (c1 * 9).toNat) k) H := hP
  obtain ⟨G3, eG3⟩ : ∃ Z : Nat → Int, Z = spZ F G f g (c1 * 9).toNat := ⟨_, rfl⟩
  rw [← eG3] at hP
  refine lv_iload_n hx hb dX0_sumUpProduct_6 rfl (lv_at hl 3 rfl) ?_
  refine zi_bi hx hb 8 dX0_sumUpProduct_7 (by decide) ?_
  refine zi_cge (tgt := 59) hx hb dX0_sumUpProduct_9 (by decide) (by omega) (by omega) (fun hc9 => ?_) (fun hc9 => ?_)
  · exact wr_vret hx hb hr hlk (wP_eq hP rfl ((by rw [eG3]; exact sp_len (n := 72) (by omega))) rfl) hS rfl dX0_sumUpProduct_59
  · refine zi_bi hx hb (-4) dX0_sumUpProduct_12 (by decide) ?_
    refine lv_istore (lv' := [(4, .int (iZ (-4))), (0, .ref o), (1, .int (iZ f)), (2, .int (iZ g)), (3, .int (iZ c1))]) hx hb dX0_sumUpProduct_14 hl (by decide) rfl (fun ls hl => ?_)
    refine lp_goX (nL := 6) (α := Int) (fun z => [(0, .ref o), (1, .int (iZ f)), (2, .int (iZ g)), (3, .int (iZ c1)), (4, .int (iZ z))]) (fun _ => F) (fun z => spZ F G f g (c1 * 9 + z + 4).toNat) (fun _ => k) (fun m16 z => -4 ≤ z ∧ z + (m16 : Int) = 5) ?_ 9 (((-4) : Int)) (by omega) _ _ (wP_eq hP rfl ((by rw [eG3]; exact sp_len (by omega))) rfl) hS ls (lv_sub hl [1, 2, 3, 4, 0] rfl)
    intro m16 z4 hI16 ih16 H locs hP hS ls hl
    obtain ⟨n, rfl⟩ : ∃ y : Int, y = z4 := ⟨_, rfl⟩
    have hl : lv_has ls 6 [(0, .ref o), (1, .int (iZ f)), (2, .int (iZ g)), (3, .int (iZ c1)), (4, .int (iZ n))] := hl
    have hI16 : -4 ≤ n ∧ n + (m16 : Int) = 5 := hI16
    have hP : va_P D vwCl (wX o q1 q2 cI F (spZ F G f g (c1 * 9 + n + 4).toNat) k) H := hP
    obtain ⟨G5, eG5⟩ : ∃ Z : Nat → Int, Z = spZ F G f g (c1 * 9 + n + 4).toNat := ⟨_, rfl⟩
    rw [← eG5] at hP
    have hGi : ∀ j, 0 ≤ G5 j ∧ G5 j < 32003 := by
      rw [eG5]
      exact spZ_rng hG _
    refine lv_iload hx hb dX0_sumUpProduct_16 (lv_at hl 4 rfl) ?_
    refine zi_const hx hb 4 dX0_sumUpProduct_18 ?_
    refine zi_cgt (tgt := 53) hx hb dX0_sumUpProduct_19 (by decide) (by omega) (by omega) (fun hc19 => ?_) (fun hc19 => ?_)
    · refine zi_inc (lv' := [(3, .int (iZ (c1 + 1))), (0, .ref o), (1, .int (iZ f)), (2, .int (iZ g)), (4, .int (iZ n))]) hx hb dX0_sumUpProduct_53 hl (k := 3) rfl (by decide) rfl (fun ls hl => ?_)
      refine lv_goto (tgt := 6) hx hb dX0_sumUpProduct_56 (by decide) ?_
      exact ih6 (m6 - 1) (c1 + 1) (by omega) (by omega) _ _ (wP_eq hP rfl ((by rw [eG5]; exact sp_len (by omega))) rfl) hS ls (lv_sub hl [1, 2, 3, 0] rfl)
    · refine lv_aload_n hx hb dX0_sumUpProduct_22 rfl (lv_at hl 0 rfl) ?_
      refine lv_iload_n hx hb dX0_sumUpProduct_23 rfl (lv_at hl 1 rfl) ?_
      refine lv_iload_n hx hb dX0_sumUpProduct_24 rfl (lv_at hl 3 rfl) ?_
      refine lv_iload hx hb dX0_sumUpProduct_25 (lv_at hl 4 rfl) ?_
      refine rd_V (As := [.int (iZ f), .int (iZ c1), .int (iZ n)]) (rest := []) (st1 := [.int (iZ (nuZ F f c1 n))]) S (k_X0_number l D o q1 q2 cI tE tL F G5 k f c1 n (by omega) (by omega) (by omega)) tb_194 tb_196 ts_X0_number tb_1 tb_197 hd_X0_number ⟨rfl, rfl, by decide, by decide⟩ rX_bl (rX_w hP hK rfl hs hS) (va_recv hK hP (ci := 0) (q0 := 0) rfl rfl) rfl hl.1 rfl (Nat.le_of_ble_eq_true rfl) dX0_sumUpProduct_27 ⟨Nat.zero_le _, Nat.zero_le _⟩ rfl ?_
      have hn30 := nuZ_rng hF f c1 n
      refine zi_top (fun v6 ev6 => ?_)
      refine lv_istore (lv' := [(5, .int (iZ v6)), (0, .ref o), (1, .int (iZ f)), (2, .int (iZ g)), (3, .int (iZ c1)), (4, .int (iZ n))]) hx hb dX0_sumUpProduct_30 hl (by decide) rfl (fun ls hl => ?_)
      refine lv_iload hx hb dX0_sumUpProduct_32 (lv_at hl 0 rfl) ?_
      refine zi_feq (tgt := 47) hx hb dX0_sumUpProduct_34 (by decide) (by omega) (fun hc34 => ?_) (fun hc34 => ?_)
      · refine zi_inc (lv' := [(4, .int (iZ (n + 1))), (5, .int (iZ v6)), (0, .ref o), (1, .int (iZ f)), (2, .int (iZ g)), (3, .int (iZ c1))]) hx hb dX0_sumUpProduct_47 hl (k := 5) rfl (by decide) rfl (fun ls hl => ?_)
        refine lv_goto (tgt := 16) hx hb dX0_sumUpProduct_50 (by decide) ?_
        exact ih16 (m16 - 1) (n + 1) (by omega) (by omega) _ _ (wP_eq hP rfl ((by rw [eG5]; exact sp_same (v := v6) (by omega) (by omega) (by rw [ev6, nu_lin (by omega) (by omega) (by omega)]) (by omega))) rfl) hS ls (lv_sub hl [2, 3, 4, 5, 0] rfl)
      · refine lv_aload_n hx hb dX0_sumUpProduct_37 rfl (lv_at hl 1 rfl) ?_
        refine lv_iload_n hx hb dX0_sumUpProduct_38 rfl (lv_at hl 3 rfl) ?_
        refine lv_iload_n hx hb dX0_sumUpProduct_39 rfl (lv_at hl 4 rfl) ?_
        refine lv_iload hx hb dX0_sumUpProduct_40 (lv_at hl 5 rfl) ?_
        refine lv_iload hx hb dX0_sumUpProduct_42 (lv_at hl 0 rfl) ?_
        refine wr_V (As := [.int (iZ g), .int (iZ c1), .int (iZ n), .int (iZ v6)]) (rest := []) (st1 := []) (F' := F) (G' := amZ F G5 g c1 n v6 72) (k' := k) S (k_X0_addMultiple l D o q1 q2 cI tE tL F G5 k g c1 n v6 hd hF hGi (by omega) (by omega) (by omega) (by omega)) tb_229 tb_231 ts_X0_addMultiple tb_1 tb_232 hd_X0_addMultiple ⟨rfl, rfl, by decide, by decide⟩ hP hK rfl hs hS hA hAn rfl hl.1 rfl (Nat.le_of_ble_eq_true rfl) dX0_sumUpProduct_44 ⟨Nat.zero_le _, Nat.zero_le _⟩ rfl (fun H locs hP hS _ _ => ?_)
        obtain ⟨G7, eG7⟩ : ∃ Z : Nat → Int, Z = amZ F G5 g c1 n v6 72 := ⟨_, rfl⟩
        rw [← eG7] at hP
        refine zi_inc (lv' := [(4, .int (iZ (n + 1))), (5, .int (iZ v6)), (0, .ref o), (1, .int (iZ f)), (2, .int (iZ g)), (3, .int (iZ c1))]) hx hb dX0_sumUpProduct_47 hl (k := 5) rfl (by decide) rfl (fun ls hl => ?_)
        refine lv_goto (tgt := 16) hx hb dX0_sumUpProduct_50 (by decide) ?_
        exact ih16 (m16 - 1) (n + 1) (by omega) (by omega) _ _ (wP_eq hP rfl ((by rw [eG7, eG5]; exact sp_next (v := v6) (by omega) (by omega) (by rw [ev6, nu_lin (by omega) (by omega) (by omega)]) (by omega))) rfl) hS ls (lv_sub hl [2, 3, 4, 5, 0] rfl)
end
section
/-- some places of a row of 72 written anew -/
def paZ (F : Nat → Int) (b : Nat) (P : Int → Int → Bool) (v : Int → Int → Int) : Nat → Int := fun j => if (b ≤ j ∧ j < b + 72) ∧ P (jC (j - b)) (jN (j - b)) = true then v (jC (j - b)) (jN (j - b)) else F j
theorem jj_rng {j b : Nat} (h : b ≤ j ∧ j < b + 72) : 0 ≤ jC (j - b) ∧ jC (j - b) < 8 ∧ -4 ≤ jN (j - b) ∧ jN (j - b) ≤ 4 ∧ ((j : Int) = b + jC (j - b) * 9 + jN (j - b) + 4) := by
  unfold jC jN
  omega
theorem pa_0 {F : Nat → Int} {b : Nat} {P : Int → Int → Bool} {v : Int → Int → Int} (h : ∀ c n : Int, 0 ≤ c → c < 8 → -4 ≤ n → n ≤ 4 → P c n = false) : F = paZ F b P v := by
  funext j
  unfold paZ
  rw [if_neg]
  intro ⟨h1, h2⟩
  obtain ⟨a1, a2, a3, a4, -⟩ := jj_rng h1
  rw [h _ _ a1 a2 a3 a4] at h2
  cases h2
theorem pa_step {F : Nat → Int} {b z x : Int} {P P' : Int → Int → Bool} {v : Int → Int → Int} {c n : Int} (hb : 0 ≤ b) (hc : 0 ≤ c ∧ c < 8) (hn : -4 ≤ n ∧ n ≤ 4) (hz : z = b + c * 9 + n + 4) (hx : x = v c n)
    (h : ∀ a m : Int, 0 ≤ a → a < 8 → -4 ≤ m → m ≤ 4 → (P' a m = true ↔ (P a m = true ∨ (a = c ∧ m = n)))) : uZ (paZ F b.toNat P v) z.toNat x = paZ F b.toNat P' v := by
  funext j
  unfold uZ paZ
  by_cases hj : j = z.toNat
  · have hr : b.toNat ≤ j ∧ j < b.toNat + 72 := by omega
    obtain ⟨a1, a2, a3, a4, a5⟩ := jj_rng hr
    have e1 : jC (j - b.toNat) = c := by omega
    have e2 : jN (j - b.toNat) = n := by omega
    rw [if_pos hj, if_pos ⟨hr, by rw [e1, e2]; exact (h c n hc.1 hc.2 hn.1 hn.2).mpr (Or.inr ⟨rfl, rfl⟩)⟩, e1, e2, hx]
  · rw [if_neg hj]
    by_cases hr : b.toNat ≤ j ∧ j < b.toNat + 72
    · obtain ⟨a1, a2, a3, a4, a5⟩ := jj_rng hr
      have hh := h _ _ a1 a2 a3 a4
      by_cases hp : P (jC (j - b.toNat)) (jN (j - b.toNat)) = true
      · rw [if_pos ⟨hr, hp⟩, if_pos ⟨hr, hh.mpr (Or.inl hp)⟩]
      · rw [if_neg (fun q => hp q.2), if_neg]
        intro q
        rcases hh.mp q.2 with h1 | ⟨h1, h2⟩
        · exact hp h1
        · omega
    · rw [if_neg (fun q => hr q.1), if_neg (fun q => hr q.1)]
theorem pa_same {F : Nat → Int} {b : Nat} {P P' : Int → Int → Bool} {v : Int → Int → Int} (h : ∀ a m : Int, 0 ≤ a → a < 8 → -4 ≤ m → m ≤ 4 → (P a m = true ↔ P' a m = true)) : paZ F b P v = paZ F b P' v := by
  funext j
  unfold paZ
  by_cases hr : b ≤ j ∧ j < b + 72
  · obtain ⟨a1, a2, a3, a4, a5⟩ := jj_rng hr
    have hh := h _ _ a1 a2 a3 a4
    by_cases hp : P (jC (j - b)) (jN (j - b)) = true
    · rw [if_pos ⟨hr, hp⟩, if_pos ⟨hr, hh.mp hp⟩]
    · rw [if_neg (fun q => hp q.2), if_neg (fun q => hp (hh.mpr q.2))]
  · rw [if_neg (fun q => hr q.1), if_neg (fun q => hr q.1)]
theorem nu_pa {F : Nat → Int} {b : Nat} {P : Int → Int → Bool} {v : Int → Int → Int} {f c n : Int} (h : (f + 1) * 72 ≤ b) : nuZ (paZ F b P v) f c n = nuZ F f c n := by
  unfold nuZ
  by_cases h1 : 0 ≤ f ∧ f < 60 ∧ 0 ≤ c ∧ c < 8 ∧ -4 ≤ n ∧ n ≤ 4
  · rw [if_pos h1, if_pos h1]
    unfold paZ
    rw [if_neg (by omega)]
  · rw [if_neg h1, if_neg h1]
theorem pa_rng {F : Nat → Int} {b : Nat} {P : Int → Int → Bool} {v : Int → Int → Int} (hF : ∀ j, 0 ≤ F j ∧ F j < 32003) (hv : ∀ c n, 0 ≤ v c n ∧ v c n < 32003) : ∀ j, 0 ≤ paZ F b P v j ∧ paZ F b P v j < 32003 := by
  intro j
  unfold paZ
  split
  · exact hv _ _
  · exact hF _
/-! the integral's numbers -/
def lgZ (F : Nat → Int) (f n : Int) : Nat → Int
  | 0 => 0
  | m + 1 => dvZ (nuZ F f (3 - (m : Int)) (n - 1) - (4 - (m : Int)) * lgZ F f n m) n
theorem lgZ_rng (F : Nat → Int) (f n : Int) (m : Nat) : 0 ≤ lgZ F f n m ∧ lgZ F f n m < 32003 := by
  cases m with
  | zero => exact ⟨Int.le_refl _, by unfold lgZ; omega⟩
  | succ m => exact dvZ_rng _ _
theorem lg_at {F : Nat → Int} {f n c u : Int} (hc : 0 ≤ c ∧ c ≤ 3) (hu : u = lgZ F f n (3 - c).toNat) : dvZ (nuZ F f c (n - 1) - (c + 1) * u) n = lgZ F f n (4 - c).toNat := by
  rw [show (4 - c).toNat = (3 - c).toNat + 1 by omega]
  show _ = dvZ (nuZ F f (3 - (((3 - c).toNat : Nat) : Int)) (n - 1) - (4 - (((3 - c).toNat : Nat) : Int)) * lgZ F f n (3 - c).toNat) n
  rw [show 3 - (((3 - c).toNat : Nat) : Int) = c by omega, show 4 - (((3 - c).toNat : Nat) : Int) = c + 1 by omega, hu]
def exZ (F : Nat → Int) (f c : Int) : Nat → Int
  | 0 => 0
  | m + 1 => dvZ (nuZ F f c (4 - (m : Int)) - (5 - (m : Int)) * exZ F f c m) (ePz c)
theorem exZ_rng (F : Nat → Int) (f c : Int) (m : Nat) : 0 ≤ exZ F f c m ∧ exZ F f c m < 32003 := by
  cases m with
  | zero => exact ⟨Int.le_refl _, by unfold exZ; omega⟩
  | succ m => exact dvZ_rng _ _
theorem ex_at {F : Nat → Int} {f c n u : Int} (hn : n ≤ 4) (hu : u = exZ F f c (4 - n).toNat) : dvZ (nuZ F f c n - (n + 1) * u) (ePz c) = exZ F f c (5 - n).toNat := by
  rw [show (5 - n).toNat = (4 - n).toNat + 1 by omega]
  show _ = dvZ (nuZ F f c (4 - (((4 - n).toNat : Nat) : Int)) - (5 - (((4 - n).toNat : Nat) : Int)) * exZ F f c (4 - n).toNat) (ePz c)
  rw [show 4 - (((4 - n).toNat : Nat) : Int) = n by omega, show 5 - (((4 - n).toNat : Nat) : Int) = n + 1 by omega, hu]
set_option maxHeartbeats 4000000 in
set_option maxRecDepth 100000 in
theorem k_X0_draftLogIntegral (l : Launch) (D : va_G) (o q1 q2 : Nat) (cI : ClassId) (tE tL : Nat) (F G : Nat → Int) (k : Int) (f : Int) (hd : dX o q1 q2) (hF : ∀ j, 0 ≤ F j ∧ F j < 32003) (hk : 0 ≤ k ∧ k < 60) (hf : 0 ≤ f ∧ f < k) : wr_M l yX0_draftLogIntegral cX0_draftLogIntegral 5 none ({ frames := 4, cells := 0, slots := 0, locals := 88 }) [.int (iZ f)] D o q1 q2 cI tE tL F G k none (paZ F (k * 72).toNat (fun c n => decide (c < 4 ∧ -3 ≤ n ∧ n ≠ 0)) (fun c n => lgZ F f n (4 - c).toNat)) G k := by
  refine wr_of (by decide) rfl (Nat.le_of_ble_eq_true rfl) ?_
  intro p e s m below meth c A hAe S hr hlk hP hK hs hA hAn hS ls hl
  obtain ⟨hx, hb, hml, hown, hT⟩ := id S
  obtain ⟨⟨hZE, hTE⟩, hZL, hTL⟩ := id hs
  have hl : lv_has ls 5 [(0, .ref o), (1, .int (iZ f))] := hl
  refine zi_bi hx hb (-3) dX0_draftLogIntegral_0 (by decide) ?_
  refine lv_istore_n (lv' := [(2, .int (iZ (-3))), (0, .ref o), (1, .int (iZ f))]) hx hb dX0_draftLogIntegral_2 rfl hl (by decide) rfl (fun ls hl => ?_)
  refine lp_goX (nL := 5) (α := Int) (fun z => [(0, .ref o), (1, .int (iZ f)), (2, .int (iZ z))]) (fun z => paZ F (k * 72).toNat (fun a q => decide (a < 4 ∧ -3 ≤ q ∧ q ≠ 0 ∧ q < z)) (fun a q => lgZ F f q (4 - a).toNat)) (fun _ => G) (fun _ => k) (fun m3 z => -3 ≤ z ∧ z + (m3 : Int) = 5) ?_ 8 (((-3) : Int)) (by omega) _ _ (wP_eq hP (pa_0 (fun a q h1 h2 h3 h4 => by simp only [decide_eq_false_iff_not]; omega)) rfl rfl) hS ls (lv_sub hl [1, 2, 0] rfl)
  intro m3 z1 hI3 ih3 H locs hP hS ls hl
  obtain ⟨n, rfl⟩ : ∃ y : Int, y = z1 := ⟨_, rfl⟩
  have hl : lv_has ls 5 [(0, .ref o), (1, .int (iZ f)), (2, .int (iZ n))] := hl
  have hI3 : -3 ≤ n ∧ n + (m3 : Int) = 5 := hI3
  have hP : va_P D vwCl (wX o q1 q2 cI (paZ F (k * 72).toNat (fun a q => decide (a < 4 ∧ -3 ≤ q ∧ q ≠ 0 ∧ q < n)) (fun a q => lgZ F f q (4 - a).toNat)) G k) H := hP
  obtain ⟨F2, eF2⟩ : ∃ Z : Nat → Int, Z = paZ F (k * 72).toNat (fun a q => decide (a < 4 ∧ -3 ≤ q ∧ q ≠ 0 ∧ q < n)) (fun a q => lgZ F f q (4 - a).toNat) := ⟨_, rfl⟩
  rw [← eF2] at hP
  have hFi : ∀ j, 0 ≤ F2 j ∧ F2 j < 32003 := by
    rw [eF2]
    exact pa_rng hF (fun c n => lgZ_rng _ _ _ _)
  refine lv_iload_n hx hb dX0_draftLogIntegral_3 rfl (lv_at hl 2 rfl) ?_
  refine zi_const hx hb 4 dX0_draftLogIntegral_4 ?_
  refine zi_cgt (tgt := 67) hx hb dX0_draftLogIntegral_5 (by decide) (by omega) (by omega) (fun hc5 => ?_) (fun hc5 => ?_)
  · exact wr_vret hx hb hr hlk (wP_eq hP ((by rw [eF2]; exact pa_same (fun a q h1 h2 h3 h4 => by simp only [decide_eq_true_eq]; omega))) rfl rfl) hS rfl dX0_draftLogIntegral_67
  · refine lv_iload_n hx hb dX0_draftLogIntegral_8 rfl (lv_at hl 2 rfl) ?_
    refine zi_feq (tgt := 61) hx hb dX0_draftLogIntegral_9 (by decide) (by omega) (fun hc9 => ?_) (fun hc9 => ?_)
    · refine zi_inc (lv' := [(2, .int (iZ (n + 1))), (0, .ref o), (1, .int (iZ f))]) hx hb dX0_draftLogIntegral_61 hl (k := 2) rfl (by decide) rfl (fun ls hl => ?_)
      refine lv_goto (tgt := 3) hx hb dX0_draftLogIntegral_64 (by decide) ?_
      exact ih3 (m3 - 1) (n + 1) (by omega) (by omega) _ _ (wP_eq hP ((by rw [eF2]; exact pa_same (fun a q h1 h2 h3 h4 => by simp only [decide_eq_true_eq]; omega))) rfl rfl) hS ls (lv_sub hl [1, 2, 0] rfl)
    · refine zi_const hx hb 0 dX0_draftLogIntegral_12 ?_
      refine lv_istore_n (lv' := [(3, .int (iZ 0)), (0, .ref o), (1, .int (iZ f)), (2, .int (iZ n))]) hx hb dX0_draftLogIntegral_13 rfl hl (by decide) rfl (fun ls hl => ?_)
      refine zi_const hx hb 3 dX0_draftLogIntegral_14 ?_
      refine lv_istore (lv' := [(4, .int (iZ 3)), (3, .int (iZ 0)), (0, .ref o), (1, .int (iZ f)), (2, .int (iZ n))]) hx hb dX0_draftLogIntegral_15 hl (by decide) rfl (fun ls hl => ?_)
      refine lp_goX (nL := 5) (α := Int × Int) (fun z => [(0, .ref o), (1, .int (iZ f)), (2, .int (iZ n)), (3, .int (iZ z.1)), (4, .int (iZ z.2))]) (fun z => paZ F (k * 72).toNat (fun a q => decide (a < 4 ∧ -3 ≤ q ∧ q ≠ 0 ∧ (q < n ∨ (q = n ∧ z.2 < a)))) (fun a q => lgZ F f q (4 - a).toNat)) (fun _ => G) (fun _ => k) (fun m17 z => -1 ≤ z.2 ∧ z.2 ≤ 3 ∧ z.2 + 1 = (m17 : Int) ∧ z.1 = lgZ F f n (3 - z.2).toNat) ?_ 4 ((0 : Int), (3 : Int)) (by exact ⟨by omega, by omega, by omega, rfl⟩) _ _ (wP_eq hP ((by rw [eF2]; exact pa_same (fun a q h1 h2 h3 h4 => by simp only [decide_eq_true_eq]; omega))) rfl rfl) hS ls (lv_sub hl [2, 3, 4, 1, 0] rfl)
      intro m17 z3 hI17 ih17 H locs hP hS ls hl
      obtain ⟨u, c1⟩ := z3
      have hl : lv_has ls 5 [(0, .ref o), (1, .int (iZ f)), (2, .int (iZ n)), (3, .int (iZ u)), (4, .int (iZ c1))] := hl
      have hI17 : -1 ≤ c1 ∧ c1 ≤ 3 ∧ c1 + 1 = (m17 : Int) ∧ u = lgZ F f n (3 - c1).toNat := hI17
      have hP : va_P D vwCl (wX o q1 q2 cI (paZ F (k * 72).toNat (fun a q => decide (a < 4 ∧ -3 ≤ q ∧ q ≠ 0 ∧ (q < n ∨ (q = n ∧ c1 < a)))) (fun a q => lgZ F f q (4 - a).toNat)) G k) H := hP
      obtain ⟨F4, eF4⟩ : ∃ Z : Nat → Int, Z = paZ F (k * 72).toNat (fun a q => decide (a < 4 ∧ -3 ≤ q ∧ q ≠ 0 ∧ (q < n ∨ (q = n ∧ c1 < a)))) (fun a q => lgZ F f q (4 - a).toNat) := ⟨_, rfl⟩
      rw [← eF4] at hP
      have hFi : ∀ j, 0 ≤ F4 j ∧ F4 j < 32003 := by
        rw [eF4]
        exact pa_rng hF (fun c n => lgZ_rng _ _ _ _)
      have hur := lgZ_rng F f n (3 - c1).toNat
      rw [← hI17.2.2.2] at hur
      have hsm := fun h => sm_mul (a := c1 + 1) h hur
      refine lv_iload hx hb dX0_draftLogIntegral_17 (lv_at hl 4 rfl) ?_
      refine zi_flt (tgt := 61) hx hb dX0_draftLogIntegral_19 (by decide) (by omega) (fun hc19 => ?_) (fun hc19 => ?_)
      · refine zi_inc (lv' := [(2, .int (iZ (n + 1))), (0, .ref o), (1, .int (iZ f)), (3, .int (iZ u)), (4, .int (iZ c1))]) hx hb dX0_draftLogIntegral_61 hl (k := 2) rfl (by decide) rfl (fun ls hl => ?_)
        refine lv_goto (tgt := 3) hx hb dX0_draftLogIntegral_64 (by decide) ?_
        exact ih3 (m3 - 1) (n + 1) (by omega) (by omega) _ _ (wP_eq hP ((by rw [eF4]; exact pa_same (fun a q h1 h2 h3 h4 => by simp only [decide_eq_true_eq]; omega))) rfl rfl) hS ls (lv_sub hl [1, 2, 0] rfl)
      · refine lv_aload_n hx hb dX0_draftLogIntegral_22 rfl (lv_at hl 0 rfl) ?_
        refine lv_iload_n hx hb dX0_draftLogIntegral_23 rfl (lv_at hl 1 rfl) ?_
        refine lv_iload hx hb dX0_draftLogIntegral_24 (lv_at hl 4 rfl) ?_
        refine lv_iload_n hx hb dX0_draftLogIntegral_26 rfl (lv_at hl 2 rfl) ?_
        refine zi_const hx hb 1 dX0_draftLogIntegral_27 ?_
        refine zi_sub hx hb dX0_draftLogIntegral_28 ?_
        refine rd_V (As := [.int (iZ f), .int (iZ c1), .int (iZ (n - 1))]) (rest := []) (st1 := [.int (iZ (nuZ F4 f c1 (n - 1)))]) S (k_X0_number l D o q1 q2 cI tE tL F4 G k f c1 (n - 1) (by omega) (by omega) (by omega)) tb_194 tb_196 ts_X0_number tb_1 tb_197 hd_X0_number ⟨rfl, rfl, by decide, by decide⟩ rX_bl (rX_w hP hK rfl hs hS) (va_recv hK hP (ci := 0) (q0 := 0) rfl rfl) rfl hl.1 rfl (Nat.le_of_ble_eq_true rfl) dX0_draftLogIntegral_29 ⟨Nat.zero_le _, Nat.zero_le _⟩ rfl ?_
        have hn32 := nuZ_rng hFi f c1 (n - 1)
        refine zi_i2l hx hb dX0_draftLogIntegral_32 (by omega) ?_
        refine lv_iload hx hb dX0_draftLogIntegral_33 (lv_at hl 4 rfl) ?_
        refine zi_const hx hb 1 dX0_draftLogIntegral_35 ?_
        refine zi_add hx hb dX0_draftLogIntegral_36 ?_
        refine zi_i2l hx hb dX0_draftLogIntegral_37 (by omega) ?_
        refine lv_iload_n hx hb dX0_draftLogIntegral_38 rfl (lv_at hl 3 rfl) ?_
        refine zi_i2l hx hb dX0_draftLogIntegral_39 (by omega) ?_
        refine zl_mul hx hb dX0_draftLogIntegral_40 ?_
        refine zl_sub hx hb dX0_draftLogIntegral_41 ?_
        refine lv_iload_n hx hb dX0_draftLogIntegral_42 rfl (lv_at hl 2 rfl) ?_
        refine rd_S (As := [.long (lZ ((nuZ F4 f c1 (n - 1)) - ((c1 + 1) * u))), .int (iZ n)]) (rest := []) (st1 := [.int (iZ (dvZ ((nuZ F4 f c1 (n - 1)) - ((c1 + 1) * u)) n))]) S (k_X0_divide l ((nuZ F4 f c1 (n - 1)) - ((c1 + 1) * u)) n (by have := hsm (by omega); omega) (by omega)) tb_301 tb_302 tb_1 tb_303 hd_X0_divide ⟨rfl, rfl, by decide, by decide⟩ bl_T (fun _ _ _ => trivial) rfl hl.1 rfl (Nat.le_of_ble_eq_true rfl) dX0_draftLogIntegral_43 ⟨Nat.zero_le _, Nat.zero_le _⟩ rfl ?_
        refine zi_top (fun v5 ev5 => ?_)
        refine lv_istore_n (lv' := [(3, .int (iZ v5)), (0, .ref o), (1, .int (iZ f)), (2, .int (iZ n)), (4, .int (iZ c1))]) hx hb dX0_draftLogIntegral_46 rfl hl (by decide) rfl (fun ls hl => ?_)
        refine lv_aload_n hx hb dX0_draftLogIntegral_47 rfl (lv_at hl 1 rfl) ?_
        refine lv_iload hx hb dX0_draftLogIntegral_48 (lv_at hl 4 rfl) ?_
        refine lv_iload_n hx hb dX0_draftLogIntegral_50 rfl (lv_at hl 3 rfl) ?_
        refine lv_iload_n hx hb dX0_draftLogIntegral_51 rfl (lv_at hl 0 rfl) ?_
        refine wr_V (As := [.int (iZ c1), .int (iZ n), .int (iZ v5)]) (rest := []) (st1 := []) (F' := uZ F4 (k * 72 + c1 * 9 + n + 4).toNat v5) (G' := G) (k' := k) S (k_X0_setDraft l D o q1 q2 cI tE tL F4 G k c1 n v5 hd (by omega) (by omega) (by omega)) tb_147 tb_149 ts_X0_setDraft tb_1 tb_150 hd_X0_setDraft ⟨rfl, rfl, by decide, by decide⟩ hP hK rfl hs hS hA hAn rfl hl.1 rfl (Nat.le_of_ble_eq_true rfl) dX0_draftLogIntegral_52 ⟨Nat.zero_le _, Nat.zero_le _⟩ rfl (fun H locs hP hS _ _ => ?_)
        obtain ⟨F6, eF6⟩ : ∃ Z : Nat → Int, Z = uZ F4 (k * 72 + c1 * 9 + n + 4).toNat v5 := ⟨_, rfl⟩
        rw [← eF6] at hP
        refine zi_inc (lv' := [(4, .int (iZ (c1 + (-1)))), (3, .int (iZ v5)), (0, .ref o), (1, .int (iZ f)), (2, .int (iZ n))]) hx hb dX0_draftLogIntegral_55 hl (k := 4) rfl (by decide) rfl (fun ls hl => ?_)
        refine lv_goto (tgt := 17) hx hb dX0_draftLogIntegral_58 (by decide) ?_
        exact ih17 (m17 - 1) (v5, c1 + (-1)) (by omega) (by refine ⟨by omega, by omega, by omega, ?_⟩; rw [show (3 - (c1 + -1)).toNat = (4 - c1).toNat by omega, ev5, eF4, nu_pa (by omega)]; exact lg_at (by omega) hI17.2.2.2) _ _ (wP_eq hP ((by rw [eF6, eF4]; exact pa_step (c := c1) (n := n) (by omega) (by omega) (by omega) (by omega) (by rw [ev5, eF4, nu_pa (by omega)]; exact lg_at (by omega) hI17.2.2.2) (fun a q h1 h2 h3 h4 => by simp only [decide_eq_true_eq]; omega))) rfl rfl) hS ls (lv_sub hl [2, 3, 4, 1, 0] rfl)
set_option maxHeartbeats 4000000 in
set_option maxRecDepth 100000 in
theorem k_X0_draftConstantPowerIntegral (l : Launch) (D : va_G) (o q1 q2 : Nat) (cI : ClassId) (tE tL : Nat) (F G : Nat → Int) (k : Int) (f : Int) (hd : dX o q1 q2) (hF : ∀ j, 0 ≤ F j ∧ F j < 32003) (hk : 0 ≤ k ∧ k < 60) (hf : 0 ≤ f ∧ f < k) : wr_M l yX0_draftConstantPowerIntegral cX0_draftConstantPowerIntegral 3 none ({ frames := 4, cells := 0, slots := 0, locals := 88 }) [.int (iZ f)] D o q1 q2 cI tE tL F G k none (paZ F (k * 72).toNat (fun c n => decide (1 ≤ c ∧ c < 4 ∧ n = 0)) (fun c n => dvZ (nuZ F f (c - 1) (-1)) c)) G k := by
  refine wr_of (by decide) rfl (Nat.le_of_ble_eq_true rfl) ?_
  intro p e s m below meth c A hAe S hr hlk hP hK hs hA hAn hS ls hl
  obtain ⟨hx, hb, hml, hown, hT⟩ := id S
  obtain ⟨⟨hZE, hTE⟩, hZL, hTL⟩ := id hs
  have hl : lv_has ls 3 [(0, .ref o), (1, .int (iZ f))] := hl
  refine zi_const hx hb 1 dX0_draftConstantPowerIntegral_0 ?_
  refine lv_istore_n (lv' := [(2, .int (iZ 1)), (0, .ref o), (1, .int (iZ f))]) hx hb dX0_draftConstantPowerIntegral_1 rfl hl (by decide) rfl (fun ls hl => ?_)
  refine lp_goX (nL := 3) (α := Int) (fun z => [(0, .ref o), (1, .int (iZ f)), (2, .int (iZ z))]) (fun z => paZ F (k * 72).toNat (fun a q => decide (1 ≤ a ∧ a < z ∧ q = 0)) (fun a q => dvZ (nuZ F f (a - 1) (-1)) a)) (fun _ => G) (fun _ => k) (fun m2 z => 1 ≤ z ∧ z + (m2 : Int) = 4) ?_ 3 ((1 : Int)) (by omega) _ _ (wP_eq hP (pa_0 (fun a q h1 h2 h3 h4 => by simp only [decide_eq_false_iff_not]; omega)) rfl rfl) hS ls (lv_sub hl [1, 2, 0] rfl)
  intro m2 z1 hI2 ih2 H locs hP hS ls hl
  obtain ⟨c1, rfl⟩ : ∃ y : Int, y = z1 := ⟨_, rfl⟩
  have hl : lv_has ls 3 [(0, .ref o), (1, .int (iZ f)), (2, .int (iZ c1))] := hl
  have hI2 : 1 ≤ c1 ∧ c1 + (m2 : Int) = 4 := hI2
  have hP : va_P D vwCl (wX o q1 q2 cI (paZ F (k * 72).toNat (fun a q => decide (1 ≤ a ∧ a < c1 ∧ q = 0)) (fun a q => dvZ (nuZ F f (a - 1) (-1)) a)) G k) H := hP
  obtain ⟨F2, eF2⟩ : ∃ Z : Nat → Int, Z = paZ F (k * 72).toNat (fun a q => decide (1 ≤ a ∧ a < c1 ∧ q = 0)) (fun a q => dvZ (nuZ F f (a - 1) (-1)) a) := ⟨_, rfl⟩
  rw [← eF2] at hP
  have hFi : ∀ j, 0 ≤ F2 j ∧ F2 j < 32003 := by
    rw [eF2]
    exact pa_rng hF (fun c n => dvZ_rng _ _)
  refine lv_iload_n hx hb dX0_draftConstantPowerIntegral_2 rfl (lv_at hl 2 rfl) ?_
  refine zi_const hx hb 3 dX0_draftConstantPowerIntegral_3 ?_
  refine zi_cgt (tgt := 33) hx hb dX0_draftConstantPowerIntegral_4 (by decide) (by omega) (by omega) (fun hc4 => ?_) (fun hc4 => ?_)
  · exact wr_vret hx hb hr hlk (wP_eq hP ((by rw [eF2]; exact pa_same (fun a q h1 h2 h3 h4 => by simp only [decide_eq_true_eq]; omega))) rfl rfl) hS rfl dX0_draftConstantPowerIntegral_33
  · refine lv_aload_n hx hb dX0_draftConstantPowerIntegral_7 rfl (lv_at hl 0 rfl) ?_
    refine lv_iload_n hx hb dX0_draftConstantPowerIntegral_8 rfl (lv_at hl 2 rfl) ?_
    refine zi_const hx hb 0 dX0_draftConstantPowerIntegral_9 ?_
    refine lv_aload_n hx hb dX0_draftConstantPowerIntegral_10 rfl (lv_at hl 0 rfl) ?_
    refine lv_iload_n hx hb dX0_draftConstantPowerIntegral_11 rfl (lv_at hl 1 rfl) ?_
    refine lv_iload_n hx hb dX0_draftConstantPowerIntegral_12 rfl (lv_at hl 2 rfl) ?_
    refine zi_const hx hb 1 dX0_draftConstantPowerIntegral_13 ?_
    refine zi_sub hx hb dX0_draftConstantPowerIntegral_14 ?_
    refine zi_const hx hb (-1) dX0_draftConstantPowerIntegral_15 ?_
    refine rd_V (As := [.int (iZ f), .int (iZ (c1 - 1)), .int (iZ (-1))]) (rest := [.int (iZ 0), .int (iZ c1), .ref o]) (st1 := [.int (iZ (nuZ F2 f (c1 - 1) (-1))), .int (iZ 0), .int (iZ c1), .ref o]) S (k_X0_number l D o q1 q2 cI tE tL F2 G k f (c1 - 1) (-1) (by omega) (by omega) (by omega)) tb_194 tb_196 ts_X0_number tb_1 tb_197 hd_X0_number ⟨rfl, rfl, by decide, by decide⟩ rX_bl (rX_w hP hK rfl hs hS) (va_recv hK hP (ci := 0) (q0 := 0) rfl rfl) rfl hl.1 rfl (Nat.le_of_ble_eq_true rfl) dX0_draftConstantPowerIntegral_16 ⟨Nat.zero_le _, Nat.zero_le _⟩ rfl ?_
    have hn19 := nuZ_rng hFi f (c1 - 1) (-1)
    refine zi_i2l hx hb dX0_draftConstantPowerIntegral_19 (by omega) ?_
    refine lv_iload_n hx hb dX0_draftConstantPowerIntegral_20 rfl (lv_at hl 2 rfl) ?_
    refine rd_S (As := [.long (lZ (nuZ F2 f (c1 - 1) (-1))), .int (iZ c1)]) (rest := [.int (iZ 0), .int (iZ c1), .ref o]) (st1 := [.int (iZ (dvZ (nuZ F2 f (c1 - 1) (-1)) c1)), .int (iZ 0), .int (iZ c1), .ref o]) S (k_X0_divide l (nuZ F2 f (c1 - 1) (-1)) c1 (by omega) (by omega)) tb_301 tb_302 tb_1 tb_303 hd_X0_divide ⟨rfl, rfl, by decide, by decide⟩ bl_T (fun _ _ _ => trivial) rfl hl.1 rfl (Nat.le_of_ble_eq_true rfl) dX0_draftConstantPowerIntegral_21 ⟨Nat.zero_le _, Nat.zero_le _⟩ rfl ?_
    refine wr_V (As := [.int (iZ c1), .int (iZ 0), .int (iZ (dvZ (nuZ F2 f (c1 - 1) (-1)) c1))]) (rest := []) (st1 := []) (F' := uZ F2 (k * 72 + c1 * 9 + 0 + 4).toNat (dvZ (nuZ F2 f (c1 - 1) (-1)) c1)) (G' := G) (k' := k) S (k_X0_setDraft l D o q1 q2 cI tE tL F2 G k c1 0 (dvZ (nuZ F2 f (c1 - 1) (-1)) c1) hd (by omega) (by omega) (by omega)) tb_147 tb_149 ts_X0_setDraft tb_1 tb_150 hd_X0_setDraft ⟨rfl, rfl, by decide, by decide⟩ hP hK rfl hs hS hA hAn rfl hl.1 rfl (Nat.le_of_ble_eq_true rfl) dX0_draftConstantPowerIntegral_24 ⟨Nat.zero_le _, Nat.zero_le _⟩ rfl (fun H locs hP hS _ _ => ?_)
    obtain ⟨F3, eF3⟩ : ∃ Z : Nat → Int, Z = uZ F2 (k * 72 + c1 * 9 + 0 + 4).toNat (dvZ (nuZ F2 f (c1 - 1) (-1)) c1) := ⟨_, rfl⟩
    rw [← eF3] at hP
    refine zi_inc (lv' := [(2, .int (iZ (c1 + 1))), (0, .ref o), (1, .int (iZ f))]) hx hb dX0_draftConstantPowerIntegral_27 hl (k := 2) rfl (by decide) rfl (fun ls hl => ?_)
    refine lv_goto (tgt := 2) hx hb dX0_draftConstantPowerIntegral_30 (by decide) ?_
    exact ih2 (m2 - 1) (c1 + 1) (by omega) (by omega) _ _ (wP_eq hP ((by rw [eF3, eF2]; exact pa_step (c := c1) (n := 0) (by omega) (by omega) (by omega) (by omega) (by rw [nu_pa (by omega)]) (fun a q h1 h2 h3 h4 => by simp only [decide_eq_true_eq]; omega))) rfl rfl) hS ls (lv_sub hl [1, 2, 0] rfl)
set_option maxHeartbeats 4000000 in
set_option maxRecDepth 100000 in
theorem k_X0_draftExponentialIntegral (l : Launch) (D : va_G) (o q1 q2 : Nat) (cI : ClassId) (tE tL : Nat) (F G : Nat → Int) (k : Int) (f : Int) (hd : dX o q1 q2) (hF : ∀ j, 0 ≤ F j ∧ F j < 32003) (hk : 0 ≤ k ∧ k < 60) (hf : 0 ≤ f ∧ f < k) : wr_M l yX0_draftExponentialIntegral cX0_draftExponentialIntegral 5 none ({ frames := 4, cells := 0, slots := 0, locals := 88 }) [.int (iZ f)] D o q1 q2 cI tE tL F G k none (paZ F (k * 72).toNat (fun c n => decide (4 ≤ c ∧ -3 ≤ n)) (fun c n => exZ F f c (5 - n).toNat)) G k := by
  refine wr_of (by decide) rfl (Nat.le_of_ble_eq_true rfl) ?_
  intro p e s m below meth c A hAe S hr hlk hP hK hs hA hAn hS ls hl
  obtain ⟨hx, hb, hml, hown, hT⟩ := id S
  obtain ⟨⟨hZE, hTE⟩, hZL, hTL⟩ := id hs
  have hl : lv_has ls 5 [(0, .ref o), (1, .int (iZ f))] := hl
  refine zi_const hx hb 4 dX0_draftExponentialIntegral_0 ?_
  refine lv_istore_n (lv' := [(2, .int (iZ 4)), (0, .ref o), (1, .int (iZ f))]) hx hb dX0_draftExponentialIntegral_1 rfl hl (by decide) rfl (fun ls hl => ?_)
  refine lp_goX (nL := 5) (α := Int) (fun z => [(0, .ref o), (1, .int (iZ f)), (2, .int (iZ z))]) (fun z => paZ F (k * 72).toNat (fun a q => decide (4 ≤ a ∧ -3 ≤ q ∧ a < z)) (fun a q => exZ F f a (5 - q).toNat)) (fun _ => G) (fun _ => k) (fun m2 z => 4 ≤ z ∧ z + (m2 : Int) = 8) ?_ 4 ((4 : Int)) (by omega) _ _ (wP_eq hP (pa_0 (fun a q h1 h2 h3 h4 => by simp only [decide_eq_false_iff_not]; omega)) rfl rfl) hS ls (lv_sub hl [1, 2, 0] rfl)
  intro m2 z1 hI2 ih2 H locs hP hS ls hl
  obtain ⟨c1, rfl⟩ : ∃ y : Int, y = z1 := ⟨_, rfl⟩
  have hl : lv_has ls 5 [(0, .ref o), (1, .int (iZ f)), (2, .int (iZ c1))] := hl
  have hI2 : 4 ≤ c1 ∧ c1 + (m2 : Int) = 8 := hI2
  have hP : va_P D vwCl (wX o q1 q2 cI (paZ F (k * 72).toNat (fun a q => decide (4 ≤ a ∧ -3 ≤ q ∧ a < c1)) (fun a q => exZ F f a (5 - q).toNat)) G k) H := hP
  obtain ⟨F2, eF2⟩ : ∃ Z : Nat → Int, Z = paZ F (k * 72).toNat (fun a q => decide (4 ≤ a ∧ -3 ≤ q ∧ a < c1)) (fun a q => exZ F f a (5 - q).toNat) := ⟨_, rfl⟩
  rw [← eF2] at hP
  have hFi : ∀ j, 0 ≤ F2 j ∧ F2 j < 32003 := by
    rw [eF2]
    exact pa_rng hF (fun c n => exZ_rng _ _ _ _)
  refine lv_iload_n hx hb dX0_draftExponentialIntegral_2 rfl (lv_at hl 2 rfl) ?_
  refine zi_bi hx hb 8 dX0_draftExponentialIntegral_3 (by decide) ?_
  refine zi_cge (tgt := 67) hx hb dX0_draftExponentialIntegral_5 (by decide) (by omega) (by omega) (fun hc5 => ?_) (fun hc5 => ?_)
  · exact wr_vret hx hb hr hlk (wP_eq hP ((by rw [eF2]; exact pa_same (fun a q h1 h2 h3 h4 => by simp only [decide_eq_true_eq]; omega))) rfl rfl) hS rfl dX0_draftExponentialIntegral_67
  · refine zi_const hx hb 0 dX0_draftExponentialIntegral_8 ?_
    refine lv_istore_n (lv' := [(3, .int (iZ 0)), (0, .ref o), (1, .int (iZ f)), (2, .int (iZ c1))]) hx hb dX0_draftExponentialIntegral_9 rfl hl (by decide) rfl (fun ls hl => ?_)
    refine zi_const hx hb 4 dX0_draftExponentialIntegral_10 ?_
    refine lv_istore (lv' := [(4, .int (iZ 4)), (3, .int (iZ 0)), (0, .ref o), (1, .int (iZ f)), (2, .int (iZ c1))]) hx hb dX0_draftExponentialIntegral_11 hl (by decide) rfl (fun ls hl => ?_)
    refine lp_goX (nL := 5) (α := Int × Int) (fun z => [(0, .ref o), (1, .int (iZ f)), (2, .int (iZ c1)), (3, .int (iZ z.1)), (4, .int (iZ z.2))]) (fun z => paZ F (k * 72).toNat (fun a q => decide (4 ≤ a ∧ -3 ≤ q ∧ (a < c1 ∨ (a = c1 ∧ z.2 < q)))) (fun a q => exZ F f a (5 - q).toNat)) (fun _ => G) (fun _ => k) (fun m13 z => -4 ≤ z.2 ∧ z.2 ≤ 4 ∧ z.2 + 4 = (m13 : Int) ∧ z.1 = exZ F f c1 (4 - z.2).toNat) ?_ 8 ((0 : Int), (4 : Int)) (by exact ⟨by omega, by omega, by omega, rfl⟩) _ _ (wP_eq hP ((by rw [eF2]; exact pa_same (fun a q h1 h2 h3 h4 => by simp only [decide_eq_true_eq]; omega))) rfl rfl) hS ls (lv_sub hl [2, 3, 4, 1, 0] rfl)
    intro m13 z3 hI13 ih13 H locs hP hS ls hl
    obtain ⟨u, n⟩ := z3
    have hl : lv_has ls 5 [(0, .ref o), (1, .int (iZ f)), (2, .int (iZ c1)), (3, .int (iZ u)), (4, .int (iZ n))] := hl
    have hI13 : -4 ≤ n ∧ n ≤ 4 ∧ n + 4 = (m13 : Int) ∧ u = exZ F f c1 (4 - n).toNat := hI13
    have hP : va_P D vwCl (wX o q1 q2 cI (paZ F (k * 72).toNat (fun a q => decide (4 ≤ a ∧ -3 ≤ q ∧ (a < c1 ∨ (a = c1 ∧ n < q)))) (fun a q => exZ F f a (5 - q).toNat)) G k) H := hP
    obtain ⟨F4, eF4⟩ : ∃ Z : Nat → Int, Z = paZ F (k * 72).toNat (fun a q => decide (4 ≤ a ∧ -3 ≤ q ∧ (a < c1 ∨ (a = c1 ∧ n < q)))) (fun a q => exZ F f a (5 - q).toNat) := ⟨_, rfl⟩
    rw [← eF4] at hP
    have hFi : ∀ j, 0 ≤ F4 j ∧ F4 j < 32003 := by
      rw [eF4]
      exact pa_rng hF (fun c n => exZ_rng _ _ _ _)
    have hur := exZ_rng F f c1 (4 - n).toNat
    rw [← hI13.2.2.2] at hur
    have hsm := fun h => sm_mul (a := n + 1) h hur
    have hee := ePz_rng c1
    refine lv_iload hx hb dX0_draftExponentialIntegral_13 (lv_at hl 4 rfl) ?_
    refine zi_bi hx hb (-4) dX0_draftExponentialIntegral_15 (by decide) ?_
    refine zi_cle (tgt := 61) hx hb dX0_draftExponentialIntegral_17 (by decide) (by omega) (by omega) (fun hc17 => ?_) (fun hc17 => ?_)
    · refine zi_inc (lv' := [(2, .int (iZ (c1 + 1))), (0, .ref o), (1, .int (iZ f)), (3, .int (iZ u)), (4, .int (iZ n))]) hx hb dX0_draftExponentialIntegral_61 hl (k := 2) rfl (by decide) rfl (fun ls hl => ?_)
      refine lv_goto (tgt := 2) hx hb dX0_draftExponentialIntegral_64 (by decide) ?_
      exact ih2 (m2 - 1) (c1 + 1) (by omega) (by omega) _ _ (wP_eq hP ((by rw [eF4]; exact pa_same (fun a q h1 h2 h3 h4 => by simp only [decide_eq_true_eq]; omega))) rfl rfl) hS ls (lv_sub hl [1, 2, 0] rfl)
    · refine lv_aload_n hx hb dX0_draftExponentialIntegral_20 rfl (lv_at hl 0 rfl) ?_
      refine lv_iload_n hx hb dX0_draftExponentialIntegral_21 rfl (lv_at hl 1 rfl) ?_
      refine lv_iload_n hx hb dX0_draftExponentialIntegral_22 rfl (lv_at hl 2 rfl) ?_
      refine lv_iload hx hb dX0_draftExponentialIntegral_23 (lv_at hl 4 rfl) ?_
      refine rd_V (As := [.int (iZ f), .int (iZ c1), .int (iZ n)]) (rest := []) (st1 := [.int (iZ (nuZ F4 f c1 n))]) S (k_X0_number l D o q1 q2 cI tE tL F4 G k f c1 n (by omega) (by omega) (by omega)) tb_194 tb_196 ts_X0_number tb_1 tb_197 hd_X0_number ⟨rfl, rfl, by decide, by decide⟩ rX_bl (rX_w hP hK rfl hs hS) (va_recv hK hP (ci := 0) (q0 := 0) rfl rfl) rfl hl.1 rfl (Nat.le_of_ble_eq_true rfl) dX0_draftExponentialIntegral_25 ⟨Nat.zero_le _, Nat.zero_le _⟩ rfl ?_
      have hn28 := nuZ_rng hFi f c1 n
      refine zi_i2l hx hb dX0_draftExponentialIntegral_28 (by omega) ?_
      refine lv_iload hx hb dX0_draftExponentialIntegral_29 (lv_at hl 4 rfl) ?_
      refine zi_const hx hb 1 dX0_draftExponentialIntegral_31 ?_
      refine zi_add hx hb dX0_draftExponentialIntegral_32 ?_
      refine zi_i2l hx hb dX0_draftExponentialIntegral_33 (by omega) ?_
      refine lv_iload_n hx hb dX0_draftExponentialIntegral_34 rfl (lv_at hl 3 rfl) ?_
      refine zi_i2l hx hb dX0_draftExponentialIntegral_35 (by omega) ?_
      refine zl_mul hx hb dX0_draftExponentialIntegral_36 ?_
      refine zl_sub hx hb dX0_draftExponentialIntegral_37 ?_
      refine va_gets hx hb hZE hS hown (hT _ tb_236) (fun _ h9 => h9) dX0_draftExponentialIntegral_38 ?_
      refine lv_iload_n hx hb dX0_draftExponentialIntegral_41 rfl (lv_at hl 2 rfl) ?_
      refine va_ti hx hb hTE hS (iZ_in (by omega) (by omega) (by decide)) (eP_at (z := c1) (by omega)) dX0_draftExponentialIntegral_42 ?_
      refine rd_S (As := [.long (lZ ((nuZ F4 f c1 n) - ((n + 1) * u))), .int (iZ (ePz c1))]) (rest := []) (st1 := [.int (iZ (dvZ ((nuZ F4 f c1 n) - ((n + 1) * u)) (ePz c1)))]) S (k_X0_divide l ((nuZ F4 f c1 n) - ((n + 1) * u)) (ePz c1) (by have := hsm (by omega); omega) (by omega)) tb_301 tb_302 tb_1 tb_303 hd_X0_divide ⟨rfl, rfl, by decide, by decide⟩ bl_T (fun _ _ _ => trivial) rfl hl.1 rfl (Nat.le_of_ble_eq_true rfl) dX0_draftExponentialIntegral_43 ⟨Nat.zero_le _, Nat.zero_le _⟩ rfl ?_
      refine zi_top (fun v5 ev5 => ?_)
      refine lv_istore_n (lv' := [(3, .int (iZ v5)), (0, .ref o), (1, .int (iZ f)), (2, .int (iZ c1)), (4, .int (iZ n))]) hx hb dX0_draftExponentialIntegral_46 rfl hl (by decide) rfl (fun ls hl => ?_)
      refine lv_aload_n hx hb dX0_draftExponentialIntegral_47 rfl (lv_at hl 1 rfl) ?_
      refine lv_iload_n hx hb dX0_draftExponentialIntegral_48 rfl (lv_at hl 3 rfl) ?_
      refine lv_iload hx hb dX0_draftExponentialIntegral_49 (lv_at hl 4 rfl) ?_
      refine lv_iload_n hx hb dX0_draftExponentialIntegral_51 rfl (lv_at hl 0 rfl) ?_
      refine wr_V (As := [.int (iZ c1), .int (iZ n), .int (iZ v5)]) (rest := []) (st1 := []) (F' := uZ F4 (k * 72 + c1 * 9 + n + 4).toNat v5) (G' := G) (k' := k) S (k_X0_setDraft l D o q1 q2 cI tE tL F4 G k c1 n v5 hd (by omega) (by omega) (by omega)) tb_147 tb_149 ts_X0_setDraft tb_1 tb_150 hd_X0_setDraft ⟨rfl, rfl, by decide, by decide⟩ hP hK rfl hs hS hA hAn rfl hl.1 rfl (Nat.le_of_ble_eq_true rfl) dX0_draftExponentialIntegral_52 ⟨Nat.zero_le _, Nat.zero_le _⟩ rfl (fun H locs hP hS _ _ => ?_)
      obtain ⟨F6, eF6⟩ : ∃ Z : Nat → Int, Z = uZ F4 (k * 72 + c1 * 9 + n + 4).toNat v5 := ⟨_, rfl⟩
      rw [← eF6] at hP
      refine zi_inc (lv' := [(4, .int (iZ (n + (-1)))), (3, .int (iZ v5)), (0, .ref o), (1, .int (iZ f)), (2, .int (iZ c1))]) hx hb dX0_draftExponentialIntegral_55 hl (k := 4) rfl (by decide) rfl (fun ls hl => ?_)
      refine lv_goto (tgt := 13) hx hb dX0_draftExponentialIntegral_58 (by decide) ?_
      exact ih13 (m13 - 1) (v5, n + (-1)) (by omega) (by refine ⟨by omega, by omega, by omega, ?_⟩; rw [show (4 - (n + -1)).toNat = (5 - n).toNat by omega, ev5, eF4, nu_pa (by omega)]; exact ex_at (by omega) hI13.2.2.2) _ _ (wP_eq hP ((by rw [eF6, eF4]; exact pa_step (c := c1) (n := n) (by omega) (by omega) (by omega) (by omega) (by rw [ev5, eF4, nu_pa (by omega)]; exact ex_at (by omega) hI13.2.2.2) (fun a q h1 h2 h3 h4 => by simp only [decide_eq_true_eq]; omega))) rfl rfl) hS ls (lv_sub hl [2, 3, 4, 1, 0] rfl)
end
section
/-! ===== what a throw of the class stands on; methods that throw and have changed nothing ===== -/
def xcS (E : String) (U : State) : Prop := ∃ c : ClassId, U.vm.findClass E = some c ∧ U.vm.assignable c c = true
def dcS (C : String) (U : State) : Prop := va_Nw (.declares ⟨C, "<init>", "(Ljava/lang/String;)V"⟩) U
theorem xcS.moved {E : String} {u U : State} (hvm : u.vm.Alike U.vm) (h : xcS E u) : xcS E U := by
  obtain ⟨c, h1, h2⟩ := h
  exact ⟨c, by rw [hvm.findClass]; exact h1, by rw [hvm.assignable]; exact h2⟩
theorem xcS.word {E : String} {U : State} {args : Array Value} (h : xcS E U) : (Cond.castable E E).before args U = true := by
  obtain ⟨c, h1, h2⟩ := h
  simp [Cond.before, Cond.holds, Cond.value, h1, h2]
theorem xcS.of {E : String} {U : State} {args : Array Value} (h : (Cond.castable E E).before args U = true) : xcS E U := by
  obtain ⟨c, d, h1, h2, h3⟩ := Cond.castable_spec h
  cases Option.some.inj (h1.symm.trans h2)
  exact ⟨c, h1, h3⟩
def txS : List (Nat × String) := [(155, "no such kind"), (161, "no such n"), (148, "60 elements are there"), (145, "no such element"), (57, "a product of L and E"), (70, "the product is too far"), (79, "the slope is too far"), (90, "the integral is too far")]
def exIA : String := "java/lang/IllegalArgumentException"
def exIS : String := "java/lang/IllegalStateException"
def exIO : String := "java/lang/IndexOutOfBoundsException"
def exUp : List String := ["java/lang/RuntimeException", "java/lang/Exception"]
def tX (A : Nat → Prop) (U : State) (H : Heap) : Prop := (vx_Zq Bundle.tN "UNASSIGNED_STACK" Bundle.steD A U H ∧ vx_Zq Bundle.tN "SUPPRESSED_SENTINEL" Bundle.listD A U H) ∧ (xcS exIA U ∧ xcS exIS U ∧ xcS exIO U) ∧ (dcS "java/lang/RuntimeException" U ∧ dcS "java/lang/Exception" U ∧ dcS "java/lang/Throwable" U) ∧ ∀ q ∈ txS, ∃ sa : Nat, vk_R RX0 q.1 q.2 sa U
theorem tX.warm {A : Nat → Prop} {s U : State} {H : Heap} (hW : s.WarmedH U.vm) (h : tX A s H) : tX A U H := ⟨⟨h.1.1.moved hW.alike, h.1.2.moved hW.alike⟩, ⟨h.2.1.1.moved hW.alike, h.2.1.2.1.moved hW.alike, h.2.1.2.2.moved hW.alike⟩, ⟨va_Nw.warmD hW h.2.2.1.1, va_Nw.warmD hW h.2.2.1.2.1, va_Nw.warmD hW h.2.2.1.2.2⟩, fun q hq => by
  obtain ⟨sa, h9⟩ := h.2.2.2 q hq
  exact ⟨sa, vk_R.warm hW h9⟩⟩
theorem tX.call {A : Nat → Prop} {U : State} {H : Heap} (g : JFrame) (mk : MethodId) (a : Array Value) (h : tX A U H) : tX A (U.calling g mk a) H := tX.warm (s := U) (U := U.calling g mk a) (State.WarmedH.refl U) h
theorem tX.kept {A : Nat → Prop} {U : State} {H H1 : Heap} (h : tX A U H) (hq : ∀ a : Nat, a < H.size → ¬ A a → H1[a]? = H[a]?) : tX A U H1 := ⟨⟨h.1.1.kept hq, h.1.2.kept hq⟩, h.2⟩
theorem tX.narrow {A B : Nat → Prop} {U : State} {H : Heap} (h : tX A U H) (hAB : ∀ q, B q → A q) : tX B U H := ⟨⟨h.1.1.narrow hAB, h.1.2.narrow hAB⟩, h.2⟩
def x0Q (E0 : String) : String → State → State → Prop := fun E st t => E = E0 ∧ va_F nA st t
def th_M (l : Launch) (y : MethodName) (cc : ByteArray) (mL : Nat) (ret : Option FieldType) (rm : Room) (As : List Value) (B : State → Prop) (E0 : String) : Prop :=
  vx_Met l y (.code y cc mL ret :: TB) rm (va_Pc As B) (fun _ _ _ _ => False) (x0Q E0) 1 6 nA
/-- the words of a throw, out of ours -/
theorem at_of {args : Array Value} {s : State} {A : Nat → Prop} {H : Heap} {ic : Nat} {E : String} (hT : ∀ w ∈ TB, w.before args s = true) (ht : tX A s H) (hE : xcS E s) (h1 : ∀ w ∈ (vx_atS RX0 ic E exUp).filter goodWord, w ∈ lw_tbl)
    (h2 : ∀ w ∈ (vx_atS RX0 ic E exUp).filter (fun w => !goodWord w), w ∈ [Cond.castable E E, .declares ⟨"java/lang/RuntimeException", "<init>", "(Ljava/lang/String;)V"⟩, .declares ⟨"java/lang/Exception", "<init>", "(Ljava/lang/String;)V"⟩, .declares ⟨"java/lang/Throwable", "<init>", "(Ljava/lang/String;)V"⟩]) : ∀ w ∈ vx_atS RX0 ic E exUp, w.before args s = true :=
  vx_hat (fun w hw => hT w (List.mem_filter.mpr ⟨h1 w hw, (List.mem_filter.mp hw).2⟩)) h2 (vx_c hE.word (vx_c (va_Nw.use rfl ht.2.2.1.1) (vx_c (va_Nw.use rfl ht.2.2.1.2.1) (vx_c (va_Nw.use rfl ht.2.2.1.2.2) vx_n))))
theorem aI_1 : ∀ w ∈ (vx_atS RX0 157 exIA exUp).filter goodWord, w ∈ lw_tbl := by decide +kernel
theorem aI_2 : ∀ w ∈ (vx_atS RX0 157 exIA exUp).filter (fun w => !goodWord w), w ∈ [Cond.castable exIA exIA, .declares ⟨"java/lang/RuntimeException", "<init>", "(Ljava/lang/String;)V"⟩, .declares ⟨"java/lang/Exception", "<init>", "(Ljava/lang/String;)V"⟩, .declares ⟨"java/lang/Throwable", "<init>", "(Ljava/lang/String;)V"⟩] := by decide +kernel
theorem aI_3 : ∀ w ∈ Cond.classLink RX0 153 exIA :: Cond.initialized exIA :: vx_atS RX0 157 exIA exUp, vx_ot w = true := by decide +kernel
theorem aS_1 : ∀ w ∈ (vx_atS RX0 59 exIS exUp).filter goodWord, w ∈ lw_tbl := by decide +kernel
theorem aS_2 : ∀ w ∈ (vx_atS RX0 59 exIS exUp).filter (fun w => !goodWord w), w ∈ [Cond.castable exIS exIS, .declares ⟨"java/lang/RuntimeException", "<init>", "(Ljava/lang/String;)V"⟩, .declares ⟨"java/lang/Exception", "<init>", "(Ljava/lang/String;)V"⟩, .declares ⟨"java/lang/Throwable", "<init>", "(Ljava/lang/String;)V"⟩] := by decide +kernel
theorem aS_3 : ∀ w ∈ Cond.classLink RX0 55 exIS :: Cond.initialized exIS :: vx_atS RX0 59 exIS exUp, vx_ot w = true := by decide +kernel
theorem aO_1 : ∀ w ∈ (vx_atS RX0 147 exIO exUp).filter goodWord, w ∈ lw_tbl := by decide +kernel
theorem aO_2 : ∀ w ∈ (vx_atS RX0 147 exIO exUp).filter (fun w => !goodWord w), w ∈ [Cond.castable exIO exIO, .declares ⟨"java/lang/RuntimeException", "<init>", "(Ljava/lang/String;)V"⟩, .declares ⟨"java/lang/Exception", "<init>", "(Ljava/lang/String;)V"⟩, .declares ⟨"java/lang/Throwable", "<init>", "(Ljava/lang/String;)V"⟩] := by decide +kernel
theorem aO_3 : ∀ w ∈ Cond.classLink RX0 143 exIO :: Cond.initialized exIO :: vx_atS RX0 147 exIO exUp, vx_ot w = true := by decide +kernel
theorem up_fit : ∀ n ∈ exUp, Bundle.fit n = true := by decide +kernel
section TH
variable {p : Program} {l : Launch} {e : Env} {R : Room} {s : State} {m : MethodId} {args : Array Value} {below : List Frame} {meth : Method} {c : Code} {H : Heap} {locs : List Loc} {cells slots : Nat}
variable {pc : Nat} {ls : Array Slot} {rest st0 : List Value} {a : Array Value} {cc cy : ByteArray} {nL mL i n : Nat} {Qc : Array Value → State → Outcome → State → Prop} {XC : String → State → State → Prop} {free : Addr → Prop} {A : Nat → Prop}
/-- 'throw new E("text")' in a method of the class -/
theorem xt_go (hx : p.tables.exec = Jvm.exec) (hb : c.code = cc) (hl0 : l.stackTraces = false) (hown : s.vm.findClass RX0 = some m.cls) (hT : ∀ w ∈ TB, w.before args s = true) (ht : tX A s s.heap) {E : String} {ik ic is : Nat} {text : String} (hE : xcS E s) (hfit : Bundle.fit E = true) (hk : Cond.classLink RX0 ik E ∈ TB) (hi : Cond.initialized E ∈ TB) (hq : (is, text) ∈ txS)
    (h1 : ∀ w ∈ (vx_atS RX0 ic E exUp).filter goodWord, w ∈ lw_tbl) (h2 : ∀ w ∈ (vx_atS RX0 ic E exUp).filter (fun w => !goodWord w), w ∈ [Cond.castable E E, .declares ⟨"java/lang/RuntimeException", "<init>", "(Ljava/lang/String;)V"⟩, .declares ⟨"java/lang/Exception", "<init>", "(Ljava/lang/String;)V"⟩, .declares ⟨"java/lang/Throwable", "<init>", "(Ljava/lang/String;)V"⟩]) (h3 : ∀ w ∈ Cond.classLink RX0 ik E :: Cond.initialized E :: vx_atS RX0 ic E exUp, vx_ot w = true)
    (hS : va_S A s.heap H locs) (hsize : ls.size = c.maxLocals) (d0 : decode cc pc = .ok (.new ik, 3)) (d3 : decode cc (pc + 3) = .ok (.dup, 1)) (d4 : decode cc (pc + 4) = .ok (.ldc is, 2)) (d6 : decode cc (pc + 6) = .ok (.invokespecial ic, 3)) (d9 : decode cc (pc + 9) = .ok (.athrow, 1)) (hno : ∀ x ∈ c.exceptionTable.toList, False)
    (hRf : 5 < R.frames) (hRl : (rest.map fun v => v.category).sum + 82 ≤ R.locals) (hRc : 0 + 1 ≤ R.cells) (hRs : 0 + 6 ≤ R.slots) (hlk : meth.locks = false) (hX : ∀ t : State, s.vm.Alike t.vm → H.size ≤ t.heap.size → (∀ q : Nat, q < H.size → t.heap[q]? = H[q]?) → XC E s t) (hf : ∀ z ∈ locs, free z.base) :
    W p l e R s m args below meth c H locs 0 0 (vx_MQ below Qc XC args s 1 6 free) (F0 m pc ls rest) := by
  obtain ⟨sa, hsa⟩ := ht.2.2.2 _ hq
  exact vx_throwS hx hb hl0 hown hfit up_fit (hT _ hk) (hT _ hi) hsa (at_of hT ht hE h1 h2) h3 ht.1.1 ht.1.2 hS hsize d0 d3 d4 d6 d9 (fun x hx => (hno x hx).elim) hRf hRl hRc hRs hlk hX hf (Nat.le_refl _) (Nat.le_refl _)
theorem x0_end {E0 : String} {t : State} (h2 : s.heap.size ≤ t.heap.size) (h3 : ∀ q : Nat, q < s.heap.size → t.heap[q]? = s.heap[q]?) : x0Q E0 E0 s t := ⟨rfl, h2, fun q hq _ => h3 q hq⟩
variable {y : MethodName} {ret : Option FieldType} {rm : Room} {own : String} {As : List Value} {B : State → Prop} {E0 : String}
theorem th_go {Qa : State → Outcome → State → Prop} (hr : vx_Run p l e R s m args below meth c s.heap [] 0 0 1 6 (F0 m pc ls st0) rest Qa (x0Q E0) nA) (hQ : ∀ st o t, ¬ Qa st o t) (hno : ∀ x ∈ c.exceptionTable.toList, False) (hlk : meth.locks = false) :
    W p l e R s m args below meth c s.heap [] 0 0 (vx_MQ below Qc (x0Q E0) args s 1 6 nA) (F0 m pc ls st0) := by
  intro T hT X
  rcases hr T hT X with ⟨v, st₀, t, T', L, h0, X', hL, e1, e2, hq, st⟩ | ⟨q, st₀, t, T', L, E, ce, h0, X', hL, e1, e2, hX, hce, hcv, hcl, st⟩
  · exact (hQ _ _ _ hq).elim
  · have hL0 : L = [] := by
      cases L with
      | nil => rfl
      | cons z _ => exact (hL z List.mem_cons_self).elim
    subst hL0
    obtain ⟨hE, hz, hk⟩ := hX
    rw [h0] at hz hk
    obtain ⟨t2, a1, b1⟩ := vx_out (p := p) (l := l) (e := e) (R := R) (s := s) (m := m) (args := args) (below := below) (meth := meth) (c := c) (H := T'.heap) (locs := []) (cells := 1) (slots := 6) (free := nA) (ls := ls) (rest := rest) (Qc := Qc) (XC := x0Q E0) (pc := pc) (mc := 1) (ms := 6) (fun x hx => (hno x hx).elim) hlk (by rw [e1]; exact hce) hcv hcl
      (fun t9 h9 _ => ⟨hE, by rw [h9, e1]; exact hz, fun q9 h1 _ => by rw [h9, e1]; exact hk q9 h1 (fun z => z)⟩) (fun _ h => nomatch h) (Nat.le_refl _) (Nat.le_refl _) T' rfl X'
    exact ⟨t2, st.trans a1, b1⟩
theorem th_V {C : String} {b : Addr} (S : CallFix p m c cc nL s args TB own) (hM : th_M l y cy mL ret rm (.ref b :: As) B E0) (h1 : Cond.methodLink own i y ∈ TB) (h2 : Cond.instanceMethod y ∈ TB) (h3 : Cond.selects C y y ∈ TB) (h4 : Cond.initialized C ∈ TB) (hc : Cond.code y cy mL ret ∈ TB)
    (hd : y.cls = C ∧ y.cls ≠ "java/lang/invoke/MethodHandle" ∧ y.cls ≠ "java/lang/invoke/VarHandle" ∧ (parseMethodDescriptor y.desc).map (fun d => d.parameters.length) = some n) (hrm : rm.cells = 1 ∧ rm.slots = 6 ∧ rm.frames + 1 ≤ R.frames ∧ 8 + (mL + 11) + rm.locals ≤ R.locals)
    (hbl : bl_B B) (hB : ∀ U : State, U.heap = s.heap → s.WarmedH U.vm → B U) (hre : ∃ cell : Cell, s.heap[b]? = some cell ∧ cell.vm.isStatics = false ∧ s.vm.findClass C = some cell.cls) (hn : As.length = n) (hnL : ls.size = nL) (hst : st0 = As.reverse ++ .ref b :: rest) (hw : (rest.map fun v => v.category).sum ≤ 8) (hdg : decode cc pc = .ok (.invokevirtual i, 3)) (hcs : 0 + 1 ≤ R.cells ∧ 0 + 6 ≤ R.slots) (hno : ∀ x ∈ c.exceptionTable.toList, False) (hlk : meth.locks = false) :
    W p l e R s m args below meth c s.heap [] 0 0 (vx_MQ below Qc (x0Q E0) args s 1 6 nA) (F0 m pc ls st0) :=
  th_go (vx_runV S hM (cwV n S.2.2.2.2 (gd_V h1 h2 h3 h4 hc) rfl hrm.1 hrm.2.1 hd hrm.2.2) ⟨fun a U g mk q => ⟨q.1, hbl U g mk a q.2⟩, hre, fun U hU hW => ⟨rfl, hB U hU hW⟩⟩ rfl hn hnL hst (lv_room (m := m) (pc := pc) (ls := ls) (rest := st0) hw) hdg hcs) (fun _ _ _ h => h) hno hlk
theorem th_S (S : CallFix p m c cc nL s args TB own) (hM : th_M l y cy mL ret rm As B E0) (h1 : Cond.methodLink own i y ∈ TB) (h2 : Cond.static y ∈ TB) (h4 : Cond.initialized own ∈ TB) (hc : Cond.code y cy mL ret ∈ TB)
    (hd : y.cls = own ∧ y.cls ≠ "java/lang/invoke/MethodHandle" ∧ y.cls ≠ "java/lang/invoke/VarHandle" ∧ (parseMethodDescriptor y.desc).map (fun d => d.parameters.length) = some n) (hrm : rm.cells = 1 ∧ rm.slots = 6 ∧ rm.frames + 1 ≤ R.frames ∧ 8 + (mL + 11) + rm.locals ≤ R.locals)
    (hbl : bl_B B) (hB : ∀ U : State, U.heap = s.heap → s.WarmedH U.vm → B U) (hn : As.length = n) (hnL : ls.size = nL) (hst : st0 = As.reverse ++ rest) (hw : (rest.map fun v => v.category).sum ≤ 8) (hdg : decode cc pc = .ok (.invokestatic i, 3)) (hcs : 0 + 1 ≤ R.cells ∧ 0 + 6 ≤ R.slots) (hno : ∀ x ∈ c.exceptionTable.toList, False) (hlk : meth.locks = false) :
    W p l e R s m args below meth c s.heap [] 0 0 (vx_MQ below Qc (x0Q E0) args s 1 6 nA) (F0 m pc ls st0) :=
  th_go (vx_runS S hM (cwS n S.2.2.2.2 (gd_S h1 h2 h4 hc) rfl hrm.1 hrm.2.1 hd hrm.2.2) ⟨fun a U g mk q => ⟨q.1, hbl U g mk a q.2⟩, fun U hU hW => ⟨rfl, hB U hU hW⟩⟩ rfl hn hnL hst (lv_room (m := m) (pc := pc) (ls := ls) (rest := st0) hw) hdg hcs) (fun _ _ _ h => h) hno hlk
end TH
theorem th_of {l : Launch} {y : MethodName} {cc : ByteArray} {mL : Nat} {ret : Option FieldType} {rm : Room} {As : List Value} {B : State → Prop} {E0 : String} (hy : plainName y.cls = true) (ho : y.cls = RX0) (hL : (lg_sl As).length ≤ mL)
    (body : ∀ (p : Program) (e : Env) (s : State) (m : MethodId) (below : List Frame) (meth : Method) (c : Code), CallFix p m c cc mL s As.toArray TB RX0 → meth.sig.returnType = ret → meth.locks = false → (∀ x ∈ c.exceptionTable.toList, False) → B s → ∀ ls : Array Slot, lv_has ls mL (lv_args 0 As) →
      W p l e rm s m As.toArray below meth c s.heap [] 0 0 (vx_MQ below (fun _ _ _ _ => False) (x0Q E0) As.toArray s 1 6 nA) (F0 m 0 ls [])) : th_M l y cc mL ret rm As B E0 := by
  refine vx_ofW (cc := cc) (maxL := mL) (ret := ret) hy rfl ?_
  intro p e s m args below meth c s₁ D hml hno hv
  obtain ⟨rfl, hB⟩ := hv
  have hts := atoms_spec (ws := .code y cc mL ret :: TB) D.pre
  have hl := lv_entry As (n := mL) hL
  rw [lg_entry_eq]
  exact body p e s m below meth c ⟨D.exec, D.bytes, hml, ho ▸ findClass_of_methodNamed D.named, fun w hw => hts w (List.mem_cons_of_mem _ hw)⟩ D.returns D.notSynchronized hno hB _ hl
/-- what a throwing method of the class asks -/
def tXB (D : va_G) (o q1 q2 : Nat) (cI : ClassId) (tE tL : Nat) (F G : Nat → Int) (k : Int) (U : State) : Prop := rX D o q1 q2 cI tE tL F G k U ∧ tX nA U U.heap
theorem tXB_bl {D : va_G} {o q1 q2 : Nat} {cI : ClassId} {tE tL : Nat} {F G : Nat → Int} {k : Int} : bl_B (tXB D o q1 q2 cI tE tL F G k) := fun U g mk a h => ⟨rX_bl U g mk a h.1, tX.call g mk a h.2⟩
theorem tXB_mv {D : va_G} {o q1 q2 : Nat} {cI : ClassId} {tE tL : Nat} {F G : Nat → Int} {k : Int} {s : State} (h : tXB D o q1 q2 cI tE tL F G k s) : ∀ U : State, U.heap = s.heap → s.WarmedH U.vm → tXB D o q1 q2 cI tE tL F G k U := fun U hU hW => ⟨rX_mv h.1 U hU hW, by rw [hU]; exact tX.warm hW h.2⟩
def tSB (U : State) : Prop := tX nA U U.heap
theorem tSB_bl : bl_B tSB := fun _ g mk a h => tX.call g mk a h
theorem tSB_mv {s : State} (h : tSB s) : ∀ U : State, U.heap = s.heap → s.WarmedH U.vm → tSB U := fun U hU hW => by
  unfold tSB
  rw [hU]
  exact tX.warm hW h
end
section
def tgZ (c n v : Int) : Nat → Int := fun j => if j = (c * 9 + n + 4).toNat then v % 32003 else 0
theorem fi_one {F : Nat → Int} {k c n v : Int} (hk : 0 ≤ k) (hc : 0 ≤ c ∧ c < 8) (hn : -4 ≤ n ∧ n ≤ 4) : uZ (fiZ F (k * 72).toNat 72 (fun _ => (0 : Int))) (k * 72 + c * 9 + n + 4).toNat (v % 32003) = fiZ F (k * 72).toNat 72 (tgZ c n v) := by
  funext j
  unfold uZ fiZ tgZ
  by_cases h : j = (k * 72 + c * 9 + n + 4).toNat
  · rw [if_pos h, if_pos (by omega), if_pos (by omega)]
  · rw [if_neg h]
    by_cases h2 : (k * 72).toNat ≤ j ∧ j < (k * 72).toNat + 72
    · rw [if_pos h2, if_pos h2, if_neg (by omega)]
    · rw [if_neg h2, if_neg h2]
def igZ (F : Nat → Int) (f c n : Int) : Int := if n = -4 then 0 else if 4 ≤ c then exZ F f c (5 - n).toNat else if n = 0 then (if c = 0 then 0 else dvZ (nuZ F f (c - 1) (-1)) c) else lgZ F f n (4 - c).toNat
theorem lg_cg {F F' : Nat → Int} {f n : Int} (h : ∀ c n, nuZ F' f c n = nuZ F f c n) (m : Nat) : lgZ F' f n m = lgZ F f n m := by
  induction m with
  | zero => rfl
  | succ m ih => unfold lgZ; rw [ih, h]
theorem ex_cg {F F' : Nat → Int} {f c : Int} (h : ∀ c n, nuZ F' f c n = nuZ F f c n) (m : Nat) : exZ F' f c m = exZ F f c m := by
  induction m with
  | zero => rfl
  | succ m ih => unfold exZ; rw [ih, h]
theorem ig_all {F F1 F2 F3 F4 : Nat → Int} {f : Int} {b : Nat} (hf : (f + 1) * 72 ≤ b) (e1 : F1 = fiZ F b 72 (fun _ => (0 : Int))) (e2 : F2 = paZ F1 b (fun c n => decide (c < 4 ∧ -3 ≤ n ∧ n ≠ 0)) (fun c n => lgZ F1 f n (4 - c).toNat)) (e3 : F3 = paZ F2 b (fun c n => decide (1 ≤ c ∧ c < 4 ∧ n = 0)) (fun c n => dvZ (nuZ F2 f (c - 1) (-1)) c)) (e4 : F4 = paZ F3 b (fun c n => decide (4 ≤ c ∧ -3 ≤ n)) (fun c n => exZ F3 f c (5 - n).toNat)) : F4 = fiZ F b 72 (fun j => igZ F f (jC j) (jN j)) := by
  have n1 : ∀ c n, nuZ F1 f c n = nuZ F f c n := fun c n => by rw [e1]; exact nu_fi hf
  have n2 : ∀ c n, nuZ F2 f c n = nuZ F f c n := fun c n => by rw [e2, nu_pa hf]; exact n1 c n
  have n3 : ∀ c n, nuZ F3 f c n = nuZ F f c n := fun c n => by rw [e3, nu_pa hf]; exact n2 c n
  funext j
  by_cases hr : b ≤ j ∧ j < b + 72
  · obtain ⟨a1, a2, a3, a4, -⟩ := jj_rng hr
    have er : fiZ F b 72 (fun j => igZ F f (jC j) (jN j)) j = igZ F f (jC (j - b)) (jN (j - b)) := by
      unfold fiZ
      rw [if_pos hr]
    rw [er, e4]
    unfold paZ igZ
    by_cases h4 : jN (j - b) = -4
    · rw [if_pos h4, if_neg (by simp only [decide_eq_true_eq]; omega), e3]
      unfold paZ
      rw [if_neg (by simp only [decide_eq_true_eq]; omega), e2]
      unfold paZ
      rw [if_neg (by simp only [decide_eq_true_eq]; omega), e1]
      unfold fiZ
      rw [if_pos hr]
    · rw [if_neg h4]
      by_cases hc : 4 ≤ jC (j - b)
      · rw [if_pos hc, if_pos (by simp only [decide_eq_true_eq]; omega)]
        exact ex_cg n3 _
      · rw [if_neg hc, if_neg (by simp only [decide_eq_true_eq]; omega), e3]
        unfold paZ
        by_cases h0 : jN (j - b) = 0
        · rw [if_pos h0]
          by_cases hc0 : jC (j - b) = 0
          · rw [if_pos hc0, if_neg (by simp only [decide_eq_true_eq]; omega), e2]
            unfold paZ
            rw [if_neg (by simp only [decide_eq_true_eq]; omega), e1]
            unfold fiZ
            rw [if_pos hr]
          · rw [if_neg hc0, if_pos (by simp only [decide_eq_true_eq]; omega)]
            exact congrArg (fun z => dvZ z _) (n2 _ _)
        · rw [if_neg h0, if_neg (by simp only [decide_eq_true_eq]; omega), e2]
          unfold paZ
          rw [if_pos (by simp only [decide_eq_true_eq]; omega)]
          exact lg_cg n1 _
  · rw [e4, e3, e2, e1]
    unfold paZ fiZ
    rw [if_neg (fun q => hr q.1), if_neg (fun q => hr q.1), if_neg (fun q => hr q.1), if_neg hr, if_neg hr]
set_option maxHeartbeats 4000000 in
set_option maxRecDepth 100000 in
theorem k_X0_term (l : Launch) (D : va_G) (o q1 q2 : Nat) (cI : ClassId) (tE tL : Nat) (F G : Nat → Int) (k : Int) (c1 n v : Int) (hd : dX o q1 q2) (hk : 0 ≤ k ∧ k < 60) (hc1 : 0 ≤ c1 ∧ c1 < 8) (hn : -4 ≤ n ∧ n ≤ 4) (hv : -9223372036854775808 ≤ v ∧ v ≤ 9223372036854775807) : wr_M l yX0_term cX0_term 5 (some .int) ({ frames := 3, cells := 0, slots := 0, locals := 67 }) [.int (iZ c1), .int (iZ n), .long (lZ v)] D o q1 q2 cI tE tL F G k (some (.int (iZ k))) (fiZ F (k * 72).toNat 72 (tgZ c1 n v)) G (k + 1) := by
  refine wr_of (by decide) rfl (Nat.le_of_ble_eq_true rfl) ?_
  intro p e s m below meth c A hAe S hr hlk hP hK hs hA hAn hS ls hl
  obtain ⟨hx, hb, hml, hown, hT⟩ := id S
  obtain ⟨⟨hZE, hTE⟩, hZL, hTL⟩ := id hs
  have hl : lv_has ls 5 [(0, .ref o), (1, .int (iZ c1)), (2, .int (iZ n)), (3, .long (lZ v))] := hl
  refine lv_iload_n hx hb dX0_term_0 rfl (lv_at hl 1 rfl) ?_
  refine rd_S (As := [.int (iZ c1)]) (rest := []) (st1 := []) S (k_X0_needKind l c1 (by omega)) tb_42 tb_43 tb_1 tb_44 hd_X0_needKind ⟨rfl, rfl, by decide, by decide⟩ bl_T (fun _ _ _ => trivial) rfl hl.1 rfl (Nat.le_of_ble_eq_true rfl) dX0_term_1 ⟨Nat.zero_le _, Nat.zero_le _⟩ rfl ?_
  refine lv_iload_n hx hb dX0_term_4 rfl (lv_at hl 2 rfl) ?_
  refine rd_S (As := [.int (iZ n)]) (rest := []) (st1 := []) S (k_X0_needPower l n (by omega)) tb_116 tb_117 tb_1 tb_118 hd_X0_needPower ⟨rfl, rfl, by decide, by decide⟩ bl_T (fun _ _ _ => trivial) rfl hl.1 rfl (Nat.le_of_ble_eq_true rfl) dX0_term_5 ⟨Nat.zero_le _, Nat.zero_le _⟩ rfl ?_
  refine lv_aload_n hx hb dX0_term_8 rfl (lv_at hl 0 rfl) ?_
  refine rd_V (As := []) (rest := []) (st1 := []) S (k_X0_needRoom l D o q1 q2 cI tE tL F G k (by omega)) tb_123 tb_125 ts_X0_needRoom tb_1 tb_126 hd_X0_needRoom ⟨rfl, rfl, by decide, by decide⟩ rX_bl (rX_w hP hK rfl hs hS) (va_recv hK hP (ci := 0) (q0 := 0) rfl rfl) rfl hl.1 rfl (Nat.le_of_ble_eq_true rfl) dX0_term_9 ⟨Nat.zero_le _, Nat.zero_le _⟩ rfl ?_
  refine lv_aload_n hx hb dX0_term_12 rfl (lv_at hl 0 rfl) ?_
  refine wr_V (As := []) (rest := []) (st1 := []) (F' := fiZ F (k * 72).toNat 72 (fun j => (0 : Int))) (G' := G) (k' := k) S (k_X0_clearDraft l D o q1 q2 cI tE tL F G k  hd (by omega)) tb_143 tb_145 ts_X0_clearDraft tb_1 tb_146 hd_X0_clearDraft ⟨rfl, rfl, by decide, by decide⟩ hP hK rfl hs hS hA hAn rfl hl.1 rfl (Nat.le_of_ble_eq_true rfl) dX0_term_13 ⟨Nat.zero_le _, Nat.zero_le _⟩ rfl (fun H locs hP hS _ _ => ?_)
  obtain ⟨F1, eF1⟩ : ∃ Z : Nat → Int, Z = fiZ F (k * 72).toNat 72 (fun j => (0 : Int)) := ⟨_, rfl⟩
  rw [← eF1] at hP
  refine lv_aload_n hx hb dX0_term_16 rfl (lv_at hl 0 rfl) ?_
  refine lv_iload_n hx hb dX0_term_17 rfl (lv_at hl 1 rfl) ?_
  refine lv_iload_n hx hb dX0_term_18 rfl (lv_at hl 2 rfl) ?_
  refine lv_lload_n hx hb dX0_term_19 rfl (lv_at hl 3 rfl) ?_
  refine rd_S (As := [.long (lZ v)]) (rest := [.int (iZ n), .int (iZ c1), .ref o]) (st1 := [.int (iZ (v % 32003)), .int (iZ n), .int (iZ c1), .ref o]) S (k_X0_reduce l v (by omega)) tb_154 tb_155 tb_1 tb_156 hd_X0_reduce ⟨rfl, rfl, by decide, by decide⟩ bl_T (fun _ _ _ => trivial) rfl hl.1 rfl (Nat.le_of_ble_eq_true rfl) dX0_term_20 ⟨Nat.zero_le _, Nat.zero_le _⟩ rfl ?_
  refine wr_V (As := [.int (iZ c1), .int (iZ n), .int (iZ (v % 32003))]) (rest := []) (st1 := []) (F' := uZ F1 (k * 72 + c1 * 9 + n + 4).toNat (v % 32003)) (G' := G) (k' := k) S (k_X0_setDraft l D o q1 q2 cI tE tL F1 G k c1 n (v % 32003) hd (by omega) (by omega) (by omega)) tb_147 tb_149 ts_X0_setDraft tb_1 tb_150 hd_X0_setDraft ⟨rfl, rfl, by decide, by decide⟩ hP hK rfl hs hS hA hAn rfl hl.1 rfl (Nat.le_of_ble_eq_true rfl) dX0_term_23 ⟨Nat.zero_le _, Nat.zero_le _⟩ rfl (fun H locs hP hS _ _ => ?_)
  obtain ⟨F2, eF2⟩ : ∃ Z : Nat → Int, Z = uZ F1 (k * 72 + c1 * 9 + n + 4).toNat (v % 32003) := ⟨_, rfl⟩
  rw [← eF2] at hP
  refine lv_aload_n hx hb dX0_term_26 rfl (lv_at hl 0 rfl) ?_
  refine wr_V (As := []) (rest := []) (st1 := [.int (iZ k)]) (F' := F2) (G' := G) (k' := k + 1) S (k_X0_keepDraft l D o q1 q2 cI tE tL F2 G k  hd ) tb_158 tb_160 ts_X0_keepDraft tb_1 tb_161 hd_X0_keepDraft ⟨rfl, rfl, by decide, by decide⟩ hP hK rfl hs hS hA hAn rfl hl.1 rfl (Nat.le_of_ble_eq_true rfl) dX0_term_27 ⟨Nat.zero_le _, Nat.zero_le _⟩ rfl (fun H locs hP hS _ _ => ?_)
  exact wr_iret hx hb hr hlk (wP_eq hP ((by rw [eF2, eF1]; exact fi_one (by omega) (by omega) (by omega))) rfl rfl) hS (congrArg (fun z => some (Value.int (iZ z))) (show (k : Int) = k from rfl)) dX0_term_30
set_option maxHeartbeats 4000000 in
set_option maxRecDepth 100000 in
theorem k_X0_add (l : Launch) (D : va_G) (o q1 q2 : Nat) (cI : ClassId) (tE tL : Nat) (F G : Nat → Int) (k : Int) (f g : Int) (hd : dX o q1 q2) (hF : ∀ j, 0 ≤ F j ∧ F j < 32003) (hk : 0 ≤ k ∧ k < 60) (hf : 0 ≤ f ∧ f < k) (hg : 0 ≤ g ∧ g < k) : wr_M l yX0_add cX0_add 3 (some .int) ({ frames := 3, cells := 0, slots := 0, locals := 70 }) [.int (iZ f), .int (iZ g)] D o q1 q2 cI tE tL F G k (some (.int (iZ k))) (fiZ F (k * 72).toNat 72 (fun j => (F ((f * 72).toNat + j) + 1 * F ((g * 72).toNat + j)) % 32003)) G (k + 1) := by
  refine wr_of (by decide) rfl (Nat.le_of_ble_eq_true rfl) ?_
  intro p e s m below meth c A hAe S hr hlk hP hK hs hA hAn hS ls hl
  obtain ⟨hx, hb, hml, hown, hT⟩ := id S
  obtain ⟨⟨hZE, hTE⟩, hZL, hTL⟩ := id hs
  have hl : lv_has ls 3 [(0, .ref o), (1, .int (iZ f)), (2, .int (iZ g))] := hl
  refine lv_aload_n hx hb dX0_add_0 rfl (lv_at hl 0 rfl) ?_
  refine lv_iload_n hx hb dX0_add_1 rfl (lv_at hl 1 rfl) ?_
  refine rd_V (As := [.int (iZ f)]) (rest := []) (st1 := []) S (k_X0_needElement l D o q1 q2 cI tE tL F G k f (by omega)) tb_170 tb_172 ts_X0_needElement tb_1 tb_173 hd_X0_needElement ⟨rfl, rfl, by decide, by decide⟩ rX_bl (rX_w hP hK rfl hs hS) (va_recv hK hP (ci := 0) (q0 := 0) rfl rfl) rfl hl.1 rfl (Nat.le_of_ble_eq_true rfl) dX0_add_2 ⟨Nat.zero_le _, Nat.zero_le _⟩ rfl ?_
  refine lv_aload_n hx hb dX0_add_5 rfl (lv_at hl 0 rfl) ?_
  refine lv_iload_n hx hb dX0_add_6 rfl (lv_at hl 2 rfl) ?_
  refine rd_V (As := [.int (iZ g)]) (rest := []) (st1 := []) S (k_X0_needElement l D o q1 q2 cI tE tL F G k g (by omega)) tb_170 tb_172 ts_X0_needElement tb_1 tb_173 hd_X0_needElement ⟨rfl, rfl, by decide, by decide⟩ rX_bl (rX_w hP hK rfl hs hS) (va_recv hK hP (ci := 0) (q0 := 0) rfl rfl) rfl hl.1 rfl (Nat.le_of_ble_eq_true rfl) dX0_add_7 ⟨Nat.zero_le _, Nat.zero_le _⟩ rfl ?_
  refine lv_aload_n hx hb dX0_add_10 rfl (lv_at hl 0 rfl) ?_
  refine rd_V (As := []) (rest := []) (st1 := []) S (k_X0_needRoom l D o q1 q2 cI tE tL F G k (by omega)) tb_123 tb_125 ts_X0_needRoom tb_1 tb_126 hd_X0_needRoom ⟨rfl, rfl, by decide, by decide⟩ rX_bl (rX_w hP hK rfl hs hS) (va_recv hK hP (ci := 0) (q0 := 0) rfl rfl) rfl hl.1 rfl (Nat.le_of_ble_eq_true rfl) dX0_add_11 ⟨Nat.zero_le _, Nat.zero_le _⟩ rfl ?_
  refine lv_aload_n hx hb dX0_add_14 rfl (lv_at hl 0 rfl) ?_
  refine lv_iload_n hx hb dX0_add_15 rfl (lv_at hl 1 rfl) ?_
  refine lv_iload_n hx hb dX0_add_16 rfl (lv_at hl 2 rfl) ?_
  refine zi_const hx hb 1 dX0_add_17 ?_
  refine wr_V (As := [.int (iZ f), .int (iZ g), .int (iZ 1)]) (rest := []) (st1 := []) (F' := fiZ F (k * 72).toNat 72 (fun j => ( F ((f * 72).toNat + j) + 1 * F ((g * 72).toNat + j)) % 32003)) (G' := G) (k' := k) S (k_X0_draftSum l D o q1 q2 cI tE tL F G k f g 1 hd hF (by omega) (by omega) (by omega) (by omega)) tb_190 tb_192 ts_X0_draftSum tb_1 tb_193 hd_X0_draftSum ⟨rfl, rfl, by decide, by decide⟩ hP hK rfl hs hS hA hAn rfl hl.1 rfl (Nat.le_of_ble_eq_true rfl) dX0_add_18 ⟨Nat.zero_le _, Nat.zero_le _⟩ rfl (fun H locs hP hS _ _ => ?_)
  obtain ⟨F1, eF1⟩ : ∃ Z : Nat → Int, Z = fiZ F (k * 72).toNat 72 (fun j => ( F ((f * 72).toNat + j) + 1 * F ((g * 72).toNat + j)) % 32003) := ⟨_, rfl⟩
  rw [← eF1] at hP
  refine lv_aload_n hx hb dX0_add_21 rfl (lv_at hl 0 rfl) ?_
  refine wr_V (As := []) (rest := []) (st1 := [.int (iZ k)]) (F' := F1) (G' := G) (k' := k + 1) S (k_X0_keepDraft l D o q1 q2 cI tE tL F1 G k  hd ) tb_158 tb_160 ts_X0_keepDraft tb_1 tb_161 hd_X0_keepDraft ⟨rfl, rfl, by decide, by decide⟩ hP hK rfl hs hS hA hAn rfl hl.1 rfl (Nat.le_of_ble_eq_true rfl) dX0_add_22 ⟨Nat.zero_le _, Nat.zero_le _⟩ rfl (fun H locs hP hS _ _ => ?_)
  exact wr_iret hx hb hr hlk (wP_eq hP ((by rw [eF1])) rfl rfl) hS (congrArg (fun z => some (Value.int (iZ z))) (show (k : Int) = k from rfl)) dX0_add_25
set_option maxHeartbeats 4000000 in
set_option maxRecDepth 100000 in
theorem k_X0_less (l : Launch) (D : va_G) (o q1 q2 : Nat) (cI : ClassId) (tE tL : Nat) (F G : Nat → Int) (k : Int) (f g v : Int) (hd : dX o q1 q2) (hF : ∀ j, 0 ≤ F j ∧ F j < 32003) (hk : 0 ≤ k ∧ k < 60) (hf : 0 ≤ f ∧ f < k) (hg : 0 ≤ g ∧ g < k) (hv : -9223372036854775808 ≤ v ∧ v ≤ 9223372036854775807) : wr_M l yX0_less cX0_less 5 (some .int) ({ frames := 3, cells := 0, slots := 0, locals := 70 }) [.int (iZ f), .int (iZ g), .long (lZ v)] D o q1 q2 cI tE tL F G k (some (.int (iZ k))) (fiZ F (k * 72).toNat 72 (fun j => (F ((f * 72).toNat + j) + (-(v % 32003) % 32003) * F ((g * 72).toNat + j)) % 32003)) G (k + 1) := by
  refine wr_of (by decide) rfl (Nat.le_of_ble_eq_true rfl) ?_
  intro p e s m below meth c A hAe S hr hlk hP hK hs hA hAn hS ls hl
  obtain ⟨hx, hb, hml, hown, hT⟩ := id S
  obtain ⟨⟨hZE, hTE⟩, hZL, hTL⟩ := id hs
  have hl : lv_has ls 5 [(0, .ref o), (1, .int (iZ f)), (2, .int (iZ g)), (3, .long (lZ v))] := hl
  refine lv_aload_n hx hb dX0_less_0 rfl (lv_at hl 0 rfl) ?_
  refine lv_iload_n hx hb dX0_less_1 rfl (lv_at hl 1 rfl) ?_
  refine rd_V (As := [.int (iZ f)]) (rest := []) (st1 := []) S (k_X0_needElement l D o q1 q2 cI tE tL F G k f (by omega)) tb_170 tb_172 ts_X0_needElement tb_1 tb_173 hd_X0_needElement ⟨rfl, rfl, by decide, by decide⟩ rX_bl (rX_w hP hK rfl hs hS) (va_recv hK hP (ci := 0) (q0 := 0) rfl rfl) rfl hl.1 rfl (Nat.le_of_ble_eq_true rfl) dX0_less_2 ⟨Nat.zero_le _, Nat.zero_le _⟩ rfl ?_
  refine lv_aload_n hx hb dX0_less_5 rfl (lv_at hl 0 rfl) ?_
  refine lv_iload_n hx hb dX0_less_6 rfl (lv_at hl 2 rfl) ?_
  refine rd_V (As := [.int (iZ g)]) (rest := []) (st1 := []) S (k_X0_needElement l D o q1 q2 cI tE tL F G k g (by omega)) tb_170 tb_172 ts_X0_needElement tb_1 tb_173 hd_X0_needElement ⟨rfl, rfl, by decide, by decide⟩ rX_bl (rX_w hP hK rfl hs hS) (va_recv hK hP (ci := 0) (q0 := 0) rfl rfl) rfl hl.1 rfl (Nat.le_of_ble_eq_true rfl) dX0_less_7 ⟨Nat.zero_le _, Nat.zero_le _⟩ rfl ?_
  refine lv_aload_n hx hb dX0_less_10 rfl (lv_at hl 0 rfl) ?_
  refine rd_V (As := []) (rest := []) (st1 := []) S (k_X0_needRoom l D o q1 q2 cI tE tL F G k (by omega)) tb_123 tb_125 ts_X0_needRoom tb_1 tb_126 hd_X0_needRoom ⟨rfl, rfl, by decide, by decide⟩ rX_bl (rX_w hP hK rfl hs hS) (va_recv hK hP (ci := 0) (q0 := 0) rfl rfl) rfl hl.1 rfl (Nat.le_of_ble_eq_true rfl) dX0_less_11 ⟨Nat.zero_le _, Nat.zero_le _⟩ rfl ?_
  refine lv_aload_n hx hb dX0_less_14 rfl (lv_at hl 0 rfl) ?_
  refine lv_iload_n hx hb dX0_less_15 rfl (lv_at hl 1 rfl) ?_
  refine lv_iload_n hx hb dX0_less_16 rfl (lv_at hl 2 rfl) ?_
  refine lv_lload_n hx hb dX0_less_17 rfl (lv_at hl 3 rfl) ?_
  refine rd_S (As := [.long (lZ v)]) (rest := [.int (iZ g), .int (iZ f), .ref o]) (st1 := [.int (iZ (v % 32003)), .int (iZ g), .int (iZ f), .ref o]) S (k_X0_reduce l v (by omega)) tb_154 tb_155 tb_1 tb_156 hd_X0_reduce ⟨rfl, rfl, by decide, by decide⟩ bl_T (fun _ _ _ => trivial) rfl hl.1 rfl (Nat.le_of_ble_eq_true rfl) dX0_less_18 ⟨Nat.zero_le _, Nat.zero_le _⟩ rfl ?_
  refine zi_i2l hx hb dX0_less_21 (by omega) ?_
  refine zl_neg hx hb dX0_less_22 ?_
  refine rd_S (As := [.long (lZ (-(v % 32003)))]) (rest := [.int (iZ g), .int (iZ f), .ref o]) (st1 := [.int (iZ ((-(v % 32003)) % 32003)), .int (iZ g), .int (iZ f), .ref o]) S (k_X0_reduce l (-(v % 32003)) (by omega)) tb_154 tb_155 tb_1 tb_156 hd_X0_reduce ⟨rfl, rfl, by decide, by decide⟩ bl_T (fun _ _ _ => trivial) rfl hl.1 rfl (Nat.le_of_ble_eq_true rfl) dX0_less_23 ⟨Nat.zero_le _, Nat.zero_le _⟩ rfl ?_
  refine wr_V (As := [.int (iZ f), .int (iZ g), .int (iZ ((-(v % 32003)) % 32003))]) (rest := []) (st1 := []) (F' := fiZ F (k * 72).toNat 72 (fun j => ( F ((f * 72).toNat + j) + ((-(v % 32003)) % 32003) * F ((g * 72).toNat + j)) % 32003)) (G' := G) (k' := k) S (k_X0_draftSum l D o q1 q2 cI tE tL F G k f g ((-(v % 32003)) % 32003) hd hF (by omega) (by omega) (by omega) (by omega)) tb_190 tb_192 ts_X0_draftSum tb_1 tb_193 hd_X0_draftSum ⟨rfl, rfl, by decide, by decide⟩ hP hK rfl hs hS hA hAn rfl hl.1 rfl (Nat.le_of_ble_eq_true rfl) dX0_less_26 ⟨Nat.zero_le _, Nat.zero_le _⟩ rfl (fun H locs hP hS _ _ => ?_)
  obtain ⟨F1, eF1⟩ : ∃ Z : Nat → Int, Z = fiZ F (k * 72).toNat 72 (fun j => ( F ((f * 72).toNat + j) + ((-(v % 32003)) % 32003) * F ((g * 72).toNat + j)) % 32003) := ⟨_, rfl⟩
  rw [← eF1] at hP
  refine lv_aload_n hx hb dX0_less_29 rfl (lv_at hl 0 rfl) ?_
  refine wr_V (As := []) (rest := []) (st1 := [.int (iZ k)]) (F' := F1) (G' := G) (k' := k + 1) S (k_X0_keepDraft l D o q1 q2 cI tE tL F1 G k  hd ) tb_158 tb_160 ts_X0_keepDraft tb_1 tb_161 hd_X0_keepDraft ⟨rfl, rfl, by decide, by decide⟩ hP hK rfl hs hS hA hAn rfl hl.1 rfl (Nat.le_of_ble_eq_true rfl) dX0_less_30 ⟨Nat.zero_le _, Nat.zero_le _⟩ rfl (fun H locs hP hS _ _ => ?_)
  exact wr_iret hx hb hr hlk (wP_eq hP ((by rw [eF1])) rfl rfl) hS (congrArg (fun z => some (Value.int (iZ z))) (show (k : Int) = k from rfl)) dX0_less_33
set_option maxHeartbeats 4000000 in
set_option maxRecDepth 100000 in
theorem k_X0_derive (l : Launch) (D : va_G) (o q1 q2 : Nat) (cI : ClassId) (tE tL : Nat) (F G : Nat → Int) (k : Int) (f : Int) (hd : dX o q1 q2) (hF : ∀ j, 0 ≤ F j ∧ F j < 32003) (hk : 0 ≤ k ∧ k < 60) (hf : 0 ≤ f ∧ f < k) (h0 : stZ F f = 0) : wr_M l yX0_derive cX0_derive 2 (some .int) ({ frames := 4, cells := 0, slots := 0, locals := 93 }) [.int (iZ f)] D o q1 q2 cI tE tL F G k (some (.int (iZ k))) (fiZ F (k * 72).toNat 72 (fun j => slZ F f (jC j) (jN j))) G (k + 1) := by
  refine wr_of (by decide) rfl (Nat.le_of_ble_eq_true rfl) ?_
  intro p e s m below meth c A hAe S hr hlk hP hK hs hA hAn hS ls hl
  obtain ⟨hx, hb, hml, hown, hT⟩ := id S
  obtain ⟨⟨hZE, hTE⟩, hZL, hTL⟩ := id hs
  have hl : lv_has ls 2 [(0, .ref o), (1, .int (iZ f))] := hl
  refine lv_aload_n hx hb dX0_derive_0 rfl (lv_at hl 0 rfl) ?_
  refine lv_iload_n hx hb dX0_derive_1 rfl (lv_at hl 1 rfl) ?_
  refine rd_V (As := [.int (iZ f)]) (rest := []) (st1 := []) S (k_X0_needElement l D o q1 q2 cI tE tL F G k f (by omega)) tb_170 tb_172 ts_X0_needElement tb_1 tb_173 hd_X0_needElement ⟨rfl, rfl, by decide, by decide⟩ rX_bl (rX_w hP hK rfl hs hS) (va_recv hK hP (ci := 0) (q0 := 0) rfl rfl) rfl hl.1 rfl (Nat.le_of_ble_eq_true rfl) dX0_derive_2 ⟨Nat.zero_le _, Nat.zero_le _⟩ rfl ?_
  refine lv_aload_n hx hb dX0_derive_5 rfl (lv_at hl 0 rfl) ?_
  refine rd_V (As := []) (rest := []) (st1 := []) S (k_X0_needRoom l D o q1 q2 cI tE tL F G k (by omega)) tb_123 tb_125 ts_X0_needRoom tb_1 tb_126 hd_X0_needRoom ⟨rfl, rfl, by decide, by decide⟩ rX_bl (rX_w hP hK rfl hs hS) (va_recv hK hP (ci := 0) (q0 := 0) rfl rfl) rfl hl.1 rfl (Nat.le_of_ble_eq_true rfl) dX0_derive_6 ⟨Nat.zero_le _, Nat.zero_le _⟩ rfl ?_
  refine lv_aload_n hx hb dX0_derive_9 rfl (lv_at hl 0 rfl) ?_
  refine lv_iload_n hx hb dX0_derive_10 rfl (lv_at hl 1 rfl) ?_
  refine rd_V (As := [.int (iZ f)]) (rest := []) (st1 := [.int (iZ (stZ F f))]) S (k_X0_slopeIsTooFar l D o q1 q2 cI tE tL F G k f hF (by omega)) tb_273 tb_275 ts_X0_slopeIsTooFar tb_1 tb_276 hd_X0_slopeIsTooFar ⟨rfl, rfl, by decide, by decide⟩ rX_bl (rX_w hP hK rfl hs hS) (va_recv hK hP (ci := 0) (q0 := 0) rfl rfl) rfl hl.1 rfl (Nat.le_of_ble_eq_true rfl) dX0_derive_11 ⟨Nat.zero_le _, Nat.zero_le _⟩ rfl ?_
  have hst14 := stZ_or F f
  refine zi_feq (tgt := 27) hx hb dX0_derive_14 (by decide) (by omega) (fun hc14 => ?_) (fun hc14 => ?_)
  · refine lv_aload_n hx hb dX0_derive_27 rfl (lv_at hl 0 rfl) ?_
    refine lv_iload_n hx hb dX0_derive_28 rfl (lv_at hl 1 rfl) ?_
    refine wr_V (As := [.int (iZ f)]) (rest := []) (st1 := []) (F' := fiZ F (k * 72).toNat 72 (fun j => slZ F f (jC j) (jN j))) (G' := G) (k' := k) S (k_X0_draftSlope l D o q1 q2 cI tE tL F G k f hd hF (by omega) (by omega)) tb_282 tb_284 ts_X0_draftSlope tb_1 tb_285 hd_X0_draftSlope ⟨rfl, rfl, by decide, by decide⟩ hP hK rfl hs hS hA hAn rfl hl.1 rfl (Nat.le_of_ble_eq_true rfl) dX0_derive_29 ⟨Nat.zero_le _, Nat.zero_le _⟩ rfl (fun H locs hP hS _ _ => ?_)
    obtain ⟨F1, eF1⟩ : ∃ Z : Nat → Int, Z = fiZ F (k * 72).toNat 72 (fun j => slZ F f (jC j) (jN j)) := ⟨_, rfl⟩
    rw [← eF1] at hP
    refine lv_aload_n hx hb dX0_derive_32 rfl (lv_at hl 0 rfl) ?_
    refine wr_V (As := []) (rest := []) (st1 := [.int (iZ k)]) (F' := F1) (G' := G) (k' := k + 1) S (k_X0_keepDraft l D o q1 q2 cI tE tL F1 G k  hd ) tb_158 tb_160 ts_X0_keepDraft tb_1 tb_161 hd_X0_keepDraft ⟨rfl, rfl, by decide, by decide⟩ hP hK rfl hs hS hA hAn rfl hl.1 rfl (Nat.le_of_ble_eq_true rfl) dX0_derive_33 ⟨Nat.zero_le _, Nat.zero_le _⟩ rfl (fun H locs hP hS _ _ => ?_)
    exact wr_iret hx hb hr hlk (wP_eq hP ((by rw [eF1])) rfl rfl) hS (congrArg (fun z => some (Value.int (iZ z))) (show (k : Int) = k from rfl)) dX0_derive_36
  · exfalso
    omega
set_option maxHeartbeats 4000000 in
set_option maxRecDepth 100000 in
theorem k_X0_integrate (l : Launch) (D : va_G) (o q1 q2 : Nat) (cI : ClassId) (tE tL : Nat) (F G : Nat → Int) (k : Int) (f : Int) (hd : dX o q1 q2) (hF : ∀ j, 0 ≤ F j ∧ F j < 32003) (hk : 0 ≤ k ∧ k < 60) (hf : 0 ≤ f ∧ f < k) (h0 : hrZ F f = 0) (h1 : itZ F f = 0) : wr_M l yX0_integrate cX0_integrate 2 (some .int) ({ frames := 6, cells := 0, slots := 0, locals := 135 }) [.int (iZ f)] D o q1 q2 cI tE tL F G k (some (.int (iZ k))) (fiZ F (k * 72).toNat 72 (fun j => igZ F f (jC j) (jN j))) G (k + 1) := by
  refine wr_of (by decide) rfl (Nat.le_of_ble_eq_true rfl) ?_
  intro p e s m below meth c A hAe S hr hlk hP hK hs hA hAn hS ls hl
  obtain ⟨hx, hb, hml, hown, hT⟩ := id S
  obtain ⟨⟨hZE, hTE⟩, hZL, hTL⟩ := id hs
  have hl : lv_has ls 2 [(0, .ref o), (1, .int (iZ f))] := hl
  refine lv_aload_n hx hb dX0_integrate_0 rfl (lv_at hl 0 rfl) ?_
  refine lv_iload_n hx hb dX0_integrate_1 rfl (lv_at hl 1 rfl) ?_
  refine rd_V (As := [.int (iZ f)]) (rest := []) (st1 := []) S (k_X0_needElement l D o q1 q2 cI tE tL F G k f (by omega)) tb_170 tb_172 ts_X0_needElement tb_1 tb_173 hd_X0_needElement ⟨rfl, rfl, by decide, by decide⟩ rX_bl (rX_w hP hK rfl hs hS) (va_recv hK hP (ci := 0) (q0 := 0) rfl rfl) rfl hl.1 rfl (Nat.le_of_ble_eq_true rfl) dX0_integrate_2 ⟨Nat.zero_le _, Nat.zero_le _⟩ rfl ?_
  refine lv_aload_n hx hb dX0_integrate_5 rfl (lv_at hl 0 rfl) ?_
  refine rd_V (As := []) (rest := []) (st1 := []) S (k_X0_needRoom l D o q1 q2 cI tE tL F G k (by omega)) tb_123 tb_125 ts_X0_needRoom tb_1 tb_126 hd_X0_needRoom ⟨rfl, rfl, by decide, by decide⟩ rX_bl (rX_w hP hK rfl hs hS) (va_recv hK hP (ci := 0) (q0 := 0) rfl rfl) rfl hl.1 rfl (Nat.le_of_ble_eq_true rfl) dX0_integrate_6 ⟨Nat.zero_le _, Nat.zero_le _⟩ rfl ?_
  refine lv_aload_n hx hb dX0_integrate_9 rfl (lv_at hl 0 rfl) ?_
  refine lv_iload_n hx hb dX0_integrate_10 rfl (lv_at hl 1 rfl) ?_
  refine rd_V (As := [.int (iZ f)]) (rest := []) (st1 := [.int (iZ (hrZ F f))]) S (k_X0_hasRest l D o q1 q2 cI tE tL F G k f hF (by omega)) tb_293 tb_295 ts_X0_hasRest tb_1 tb_296 hd_X0_hasRest ⟨rfl, rfl, by decide, by decide⟩ rX_bl (rX_w hP hK rfl hs hS) (va_recv hK hP (ci := 0) (q0 := 0) rfl rfl) rfl hl.1 rfl (Nat.le_of_ble_eq_true rfl) dX0_integrate_11 ⟨Nat.zero_le _, Nat.zero_le _⟩ rfl ?_
  have hhr14 := hrZ_or F f
  refine zi_feq (tgt := 19) hx hb dX0_integrate_14 (by decide) (by omega) (fun hc14 => ?_) (fun hc14 => ?_)
  · refine lv_aload_n hx hb dX0_integrate_19 rfl (lv_at hl 0 rfl) ?_
    refine lv_iload_n hx hb dX0_integrate_20 rfl (lv_at hl 1 rfl) ?_
    refine rd_V (As := [.int (iZ f)]) (rest := []) (st1 := [.int (iZ (itZ F f))]) S (k_X0_integralIsTooFar l D o q1 q2 cI tE tL F G k f hF (by omega)) tb_313 tb_315 ts_X0_integralIsTooFar tb_1 tb_316 hd_X0_integralIsTooFar ⟨rfl, rfl, by decide, by decide⟩ rX_bl (rX_w hP hK rfl hs hS) (va_recv hK hP (ci := 0) (q0 := 0) rfl rfl) rfl hl.1 rfl (Nat.le_of_ble_eq_true rfl) dX0_integrate_21 ⟨Nat.zero_le _, Nat.zero_le _⟩ rfl ?_
    have hit24 := itZ_or F f
    refine zi_feq (tgt := 37) hx hb dX0_integrate_24 (by decide) (by omega) (fun hc24 => ?_) (fun hc24 => ?_)
    · refine lv_aload_n hx hb dX0_integrate_37 rfl (lv_at hl 0 rfl) ?_
      refine wr_V (As := []) (rest := []) (st1 := []) (F' := fiZ F (k * 72).toNat 72 (fun j => (0 : Int))) (G' := G) (k' := k) S (k_X0_clearDraft l D o q1 q2 cI tE tL F G k  hd (by omega)) tb_143 tb_145 ts_X0_clearDraft tb_1 tb_146 hd_X0_clearDraft ⟨rfl, rfl, by decide, by decide⟩ hP hK rfl hs hS hA hAn rfl hl.1 rfl (Nat.le_of_ble_eq_true rfl) dX0_integrate_38 ⟨Nat.zero_le _, Nat.zero_le _⟩ rfl (fun H locs hP hS _ _ => ?_)
      obtain ⟨F1, eF1⟩ : ∃ Z : Nat → Int, Z = fiZ F (k * 72).toNat 72 (fun j => (0 : Int)) := ⟨_, rfl⟩
      rw [← eF1] at hP
      have hFF1 : ∀ j, 0 ≤ F1 j ∧ F1 j < 32003 := by
        rw [eF1]
        exact fi_rng hF (fun _ => by omega)
      refine lv_aload_n hx hb dX0_integrate_41 rfl (lv_at hl 0 rfl) ?_
      refine lv_iload_n hx hb dX0_integrate_42 rfl (lv_at hl 1 rfl) ?_
      refine wr_V (As := [.int (iZ f)]) (rest := []) (st1 := []) (F' := paZ F1 (k * 72).toNat (fun c n => decide (c < 4 ∧ -3 ≤ n ∧ n ≠ 0)) (fun c n => lgZ F1 f n (4 - c).toNat)) (G' := G) (k' := k) S (k_X0_draftLogIntegral l D o q1 q2 cI tE tL F1 G k f hd hFF1 (by omega) (by omega)) tb_318 tb_320 ts_X0_draftLogIntegral tb_1 tb_321 hd_X0_draftLogIntegral ⟨rfl, rfl, by decide, by decide⟩ hP hK rfl hs hS hA hAn rfl hl.1 rfl (Nat.le_of_ble_eq_true rfl) dX0_integrate_43 ⟨Nat.zero_le _, Nat.zero_le _⟩ rfl (fun H locs hP hS _ _ => ?_)
      obtain ⟨F2, eF2⟩ : ∃ Z : Nat → Int, Z = paZ F1 (k * 72).toNat (fun c n => decide (c < 4 ∧ -3 ≤ n ∧ n ≠ 0)) (fun c n => lgZ F1 f n (4 - c).toNat) := ⟨_, rfl⟩
      rw [← eF2] at hP
      have hFF2 : ∀ j, 0 ≤ F2 j ∧ F2 j < 32003 := by
        rw [eF2]
        exact pa_rng hFF1 (fun c n => lgZ_rng _ _ _ _)
      refine lv_aload_n hx hb dX0_integrate_46 rfl (lv_at hl 0 rfl) ?_
      refine lv_iload_n hx hb dX0_integrate_47 rfl (lv_at hl 1 rfl) ?_
      refine wr_V (As := [.int (iZ f)]) (rest := []) (st1 := []) (F' := paZ F2 (k * 72).toNat (fun c n => decide (1 ≤ c ∧ c < 4 ∧ n = 0)) (fun c n => dvZ (nuZ F2 f (c - 1) (-1)) c)) (G' := G) (k' := k) S (k_X0_draftConstantPowerIntegral l D o q1 q2 cI tE tL F2 G k f hd hFF2 (by omega) (by omega)) tb_322 tb_324 ts_X0_draftConstantPowerIntegral tb_1 tb_325 hd_X0_draftConstantPowerIntegral ⟨rfl, rfl, by decide, by decide⟩ hP hK rfl hs hS hA hAn rfl hl.1 rfl (Nat.le_of_ble_eq_true rfl) dX0_integrate_48 ⟨Nat.zero_le _, Nat.zero_le _⟩ rfl (fun H locs hP hS _ _ => ?_)
      obtain ⟨F3, eF3⟩ : ∃ Z : Nat → Int, Z = paZ F2 (k * 72).toNat (fun c n => decide (1 ≤ c ∧ c < 4 ∧ n = 0)) (fun c n => dvZ (nuZ F2 f (c - 1) (-1)) c) := ⟨_, rfl⟩
      rw [← eF3] at hP
      have hFF3 : ∀ j, 0 ≤ F3 j ∧ F3 j < 32003 := by
        rw [eF3]
        exact pa_rng hFF2 (fun c n => dvZ_rng _ _)
      refine lv_aload_n hx hb dX0_integrate_51 rfl (lv_at hl 0 rfl) ?_
      refine lv_iload_n hx hb dX0_integrate_52 rfl (lv_at hl 1 rfl) ?_
      refine wr_V (As := [.int (iZ f)]) (rest := []) (st1 := []) (F' := paZ F3 (k * 72).toNat (fun c n => decide (4 ≤ c ∧ -3 ≤ n)) (fun c n => exZ F3 f c (5 - n).toNat)) (G' := G) (k' := k) S (k_X0_draftExponentialIntegral l D o q1 q2 cI tE tL F3 G k f hd hFF3 (by omega) (by omega)) tb_326 tb_328 ts_X0_draftExponentialIntegral tb_1 tb_329 hd_X0_draftExponentialIntegral ⟨rfl, rfl, by decide, by decide⟩ hP hK rfl hs hS hA hAn rfl hl.1 rfl (Nat.le_of_ble_eq_true rfl) dX0_integrate_53 ⟨Nat.zero_le _, Nat.zero_le _⟩ rfl (fun H locs hP hS _ _ => ?_)
      obtain ⟨F4, eF4⟩ : ∃ Z : Nat → Int, Z = paZ F3 (k * 72).toNat (fun c n => decide (4 ≤ c ∧ -3 ≤ n)) (fun c n => exZ F3 f c (5 - n).toNat) := ⟨_, rfl⟩
      rw [← eF4] at hP
      refine lv_aload_n hx hb dX0_integrate_56 rfl (lv_at hl 0 rfl) ?_
      refine wr_V (As := []) (rest := []) (st1 := [.int (iZ k)]) (F' := F4) (G' := G) (k' := k + 1) S (k_X0_keepDraft l D o q1 q2 cI tE tL F4 G k  hd ) tb_158 tb_160 ts_X0_keepDraft tb_1 tb_161 hd_X0_keepDraft ⟨rfl, rfl, by decide, by decide⟩ hP hK rfl hs hS hA hAn rfl hl.1 rfl (Nat.le_of_ble_eq_true rfl) dX0_integrate_57 ⟨Nat.zero_le _, Nat.zero_le _⟩ rfl (fun H locs hP hS _ _ => ?_)
      exact wr_iret hx hb hr hlk (wP_eq hP ((ig_all (b := (k * 72).toNat) (by omega) eF1 eF2 eF3 eF4)) rfl rfl) hS (congrArg (fun z => some (Value.int (iZ z))) (show (k : Int) = k from rfl)) dX0_integrate_60
    · exfalso
      omega
  · exfalso
    omega
set_option maxHeartbeats 4000000 in
set_option maxRecDepth 100000 in
theorem k0_X0_integrate (l : Launch) (D : va_G) (o q1 q2 : Nat) (cI : ClassId) (tE tL : Nat) (F G : Nat → Int) (k : Int) (f : Int) (hd : dX o q1 q2) (hF : ∀ j, 0 ≤ F j ∧ F j < 32003) (hk : 0 ≤ k ∧ k < 60) (hf : 0 ≤ f ∧ f < k) (h0 : hrZ F f = 1) : wr_M l yX0_integrate cX0_integrate 2 (some .int) ({ frames := 6, cells := 0, slots := 0, locals := 135 }) [.int (iZ f)] D o q1 q2 cI tE tL F G k (some (.int (iZ (-1)))) F G k := by
  refine wr_of (by decide) rfl (Nat.le_of_ble_eq_true rfl) ?_
  intro p e s m below meth c A hAe S hr hlk hP hK hs hA hAn hS ls hl
  obtain ⟨hx, hb, hml, hown, hT⟩ := id S
  obtain ⟨⟨hZE, hTE⟩, hZL, hTL⟩ := id hs
  have hl : lv_has ls 2 [(0, .ref o), (1, .int (iZ f))] := hl
  refine lv_aload_n hx hb dX0_integrate_0 rfl (lv_at hl 0 rfl) ?_
  refine lv_iload_n hx hb dX0_integrate_1 rfl (lv_at hl 1 rfl) ?_
  refine rd_V (As := [.int (iZ f)]) (rest := []) (st1 := []) S (k_X0_needElement l D o q1 q2 cI tE tL F G k f (by omega)) tb_170 tb_172 ts_X0_needElement tb_1 tb_173 hd_X0_needElement ⟨rfl, rfl, by decide, by decide⟩ rX_bl (rX_w hP hK rfl hs hS) (va_recv hK hP (ci := 0) (q0 := 0) rfl rfl) rfl hl.1 rfl (Nat.le_of_ble_eq_true rfl) dX0_integrate_2 ⟨Nat.zero_le _, Nat.zero_le _⟩ rfl ?_
  refine lv_aload_n hx hb dX0_integrate_5 rfl (lv_at hl 0 rfl) ?_
  refine rd_V (As := []) (rest := []) (st1 := []) S (k_X0_needRoom l D o q1 q2 cI tE tL F G k (by omega)) tb_123 tb_125 ts_X0_needRoom tb_1 tb_126 hd_X0_needRoom ⟨rfl, rfl, by decide, by decide⟩ rX_bl (rX_w hP hK rfl hs hS) (va_recv hK hP (ci := 0) (q0 := 0) rfl rfl) rfl hl.1 rfl (Nat.le_of_ble_eq_true rfl) dX0_integrate_6 ⟨Nat.zero_le _, Nat.zero_le _⟩ rfl ?_
  refine lv_aload_n hx hb dX0_integrate_9 rfl (lv_at hl 0 rfl) ?_
  refine lv_iload_n hx hb dX0_integrate_10 rfl (lv_at hl 1 rfl) ?_
  refine rd_V (As := [.int (iZ f)]) (rest := []) (st1 := [.int (iZ (hrZ F f))]) S (k_X0_hasRest l D o q1 q2 cI tE tL F G k f hF (by omega)) tb_293 tb_295 ts_X0_hasRest tb_1 tb_296 hd_X0_hasRest ⟨rfl, rfl, by decide, by decide⟩ rX_bl (rX_w hP hK rfl hs hS) (va_recv hK hP (ci := 0) (q0 := 0) rfl rfl) rfl hl.1 rfl (Nat.le_of_ble_eq_true rfl) dX0_integrate_11 ⟨Nat.zero_le _, Nat.zero_le _⟩ rfl ?_
  have hhr14 := hrZ_or F f
  refine zi_feq (tgt := 19) hx hb dX0_integrate_14 (by decide) (by omega) (fun hc14 => ?_) (fun hc14 => ?_)
  · exfalso
    omega
  · refine zi_const hx hb (-1) dX0_integrate_17 ?_
    exact wr_iret hx hb hr hlk (wP_eq hP rfl rfl rfl) hS (congrArg (fun z => some (Value.int (iZ z))) (show ((-1) : Int) = (-1) from rfl)) dX0_integrate_18
set_option maxHeartbeats 4000000 in
set_option maxRecDepth 100000 in
theorem k_X0_times (l : Launch) (D : va_G) (o q1 q2 : Nat) (cI : ClassId) (tE tL : Nat) (F G : Nat → Int) (k : Int) (f g : Int) (hd : dX o q1 q2) (hF : ∀ j, 0 ≤ F j ∧ F j < 32003) (hG : ∀ j, 0 ≤ G j ∧ G j < 32003) (hk : 0 ≤ k ∧ k < 60) (hf : 0 ≤ f ∧ f < k) (hg : 0 ≤ g ∧ g < k) (h0 : lmZ F f g = 0 ∧ lmZ F g f = 0) (h1 : ptZ (spZ F G f g 72) = 0) : wr_M l yX0_times cX0_times 3 (some .int) ({ frames := 4, cells := 0, slots := 0, locals := 100 }) [.int (iZ f), .int (iZ g)] D o q1 q2 cI tE tL F G k (some (.int (iZ k))) (fiZ F (k * 72).toNat 72 (fun j => wnZ (spZ F G f g 72) (wkZ (jC j) 0) (jN j))) (spZ F G f g 72) (k + 1) := by
  refine wr_of (by decide) rfl (Nat.le_of_ble_eq_true rfl) ?_
  intro p e s m below meth c A hAe S hr hlk hP hK hs hA hAn hS ls hl
  obtain ⟨hx, hb, hml, hown, hT⟩ := id S
  obtain ⟨⟨hZE, hTE⟩, hZL, hTL⟩ := id hs
  have hl : lv_has ls 3 [(0, .ref o), (1, .int (iZ f)), (2, .int (iZ g))] := hl
  refine lv_aload_n hx hb dX0_times_0 rfl (lv_at hl 0 rfl) ?_
  refine lv_iload_n hx hb dX0_times_1 rfl (lv_at hl 1 rfl) ?_
  refine rd_V (As := [.int (iZ f)]) (rest := []) (st1 := []) S (k_X0_needElement l D o q1 q2 cI tE tL F G k f (by omega)) tb_170 tb_172 ts_X0_needElement tb_1 tb_173 hd_X0_needElement ⟨rfl, rfl, by decide, by decide⟩ rX_bl (rX_w hP hK rfl hs hS) (va_recv hK hP (ci := 0) (q0 := 0) rfl rfl) rfl hl.1 rfl (Nat.le_of_ble_eq_true rfl) dX0_times_2 ⟨Nat.zero_le _, Nat.zero_le _⟩ rfl ?_
  refine lv_aload_n hx hb dX0_times_5 rfl (lv_at hl 0 rfl) ?_
  refine lv_iload_n hx hb dX0_times_6 rfl (lv_at hl 2 rfl) ?_
  refine rd_V (As := [.int (iZ g)]) (rest := []) (st1 := []) S (k_X0_needElement l D o q1 q2 cI tE tL F G k g (by omega)) tb_170 tb_172 ts_X0_needElement tb_1 tb_173 hd_X0_needElement ⟨rfl, rfl, by decide, by decide⟩ rX_bl (rX_w hP hK rfl hs hS) (va_recv hK hP (ci := 0) (q0 := 0) rfl rfl) rfl hl.1 rfl (Nat.le_of_ble_eq_true rfl) dX0_times_7 ⟨Nat.zero_le _, Nat.zero_le _⟩ rfl ?_
  refine lv_aload_n hx hb dX0_times_10 rfl (lv_at hl 0 rfl) ?_
  refine rd_V (As := []) (rest := []) (st1 := []) S (k_X0_needRoom l D o q1 q2 cI tE tL F G k (by omega)) tb_123 tb_125 ts_X0_needRoom tb_1 tb_126 hd_X0_needRoom ⟨rfl, rfl, by decide, by decide⟩ rX_bl (rX_w hP hK rfl hs hS) (va_recv hK hP (ci := 0) (q0 := 0) rfl rfl) rfl hl.1 rfl (Nat.le_of_ble_eq_true rfl) dX0_times_11 ⟨Nat.zero_le _, Nat.zero_le _⟩ rfl ?_
  refine lv_aload_n hx hb dX0_times_14 rfl (lv_at hl 0 rfl) ?_
  refine lv_iload_n hx hb dX0_times_15 rfl (lv_at hl 1 rfl) ?_
  refine lv_iload_n hx hb dX0_times_16 rfl (lv_at hl 2 rfl) ?_
  refine rd_V (As := [.int (iZ f), .int (iZ g)]) (rest := []) (st1 := [.int (iZ (lmZ F f g))]) S (k_X0_logMeetsExponential l D o q1 q2 cI tE tL F G k f g hF (by omega) (by omega)) tb_212 tb_214 ts_X0_logMeetsExponential tb_1 tb_215 hd_X0_logMeetsExponential ⟨rfl, rfl, by decide, by decide⟩ rX_bl (rX_w hP hK rfl hs hS) (va_recv hK hP (ci := 0) (q0 := 0) rfl rfl) rfl hl.1 rfl (Nat.le_of_ble_eq_true rfl) dX0_times_17 ⟨Nat.zero_le _, Nat.zero_le _⟩ rfl ?_
  have hlm20 := lmZ_or F f g
  refine zi_fne (tgt := 32) hx hb dX0_times_20 (by decide) (by omega) (fun hc20 => ?_) (fun hc20 => ?_)
  · exfalso
    omega
  · refine lv_aload_n hx hb dX0_times_23 rfl (lv_at hl 0 rfl) ?_
    refine lv_iload_n hx hb dX0_times_24 rfl (lv_at hl 2 rfl) ?_
    refine lv_iload_n hx hb dX0_times_25 rfl (lv_at hl 1 rfl) ?_
    refine rd_V (As := [.int (iZ g), .int (iZ f)]) (rest := []) (st1 := [.int (iZ (lmZ F g f))]) S (k_X0_logMeetsExponential l D o q1 q2 cI tE tL F G k g f hF (by omega) (by omega)) tb_212 tb_214 ts_X0_logMeetsExponential tb_1 tb_215 hd_X0_logMeetsExponential ⟨rfl, rfl, by decide, by decide⟩ rX_bl (rX_w hP hK rfl hs hS) (va_recv hK hP (ci := 0) (q0 := 0) rfl rfl) rfl hl.1 rfl (Nat.le_of_ble_eq_true rfl) dX0_times_26 ⟨Nat.zero_le _, Nat.zero_le _⟩ rfl ?_
    have hlm29 := lmZ_or F g f
    refine zi_feq (tgt := 42) hx hb dX0_times_29 (by decide) (by omega) (fun hc29 => ?_) (fun hc29 => ?_)
    · refine lv_aload_n hx hb dX0_times_42 rfl (lv_at hl 0 rfl) ?_
      refine lv_iload_n hx hb dX0_times_43 rfl (lv_at hl 1 rfl) ?_
      refine lv_iload_n hx hb dX0_times_44 rfl (lv_at hl 2 rfl) ?_
      refine wr_V (As := [.int (iZ f), .int (iZ g)]) (rest := []) (st1 := []) (F' := F) (G' := spZ F G f g 72) (k' := k) S (k_X0_sumUpProduct l D o q1 q2 cI tE tL F G k f g hd hF hG (by omega) (by omega)) tb_221 tb_223 ts_X0_sumUpProduct tb_1 tb_224 hd_X0_sumUpProduct ⟨rfl, rfl, by decide, by decide⟩ hP hK rfl hs hS hA hAn rfl hl.1 rfl (Nat.le_of_ble_eq_true rfl) dX0_times_45 ⟨Nat.zero_le _, Nat.zero_le _⟩ rfl (fun H locs hP hS _ _ => ?_)
      obtain ⟨G1, eG1⟩ : ∃ Z : Nat → Int, Z = spZ F G f g 72 := ⟨_, rfl⟩
      rw [← eG1] at hP
      have hGG1 : ∀ j, 0 ≤ G1 j ∧ G1 j < 32003 := by
        rw [eG1]
        exact spZ_rng hG 72
      rw [← eG1] at h1
      refine lv_aload_n hx hb dX0_times_48 rfl (lv_at hl 0 rfl) ?_
      refine rd_V (As := []) (rest := []) (st1 := [.int (iZ (ptZ G1))]) S (k_X0_productIsTooFar l D o q1 q2 cI tE tL F G1 k hGG1) tb_250 tb_252 ts_X0_productIsTooFar tb_1 tb_253 hd_X0_productIsTooFar ⟨rfl, rfl, by decide, by decide⟩ rX_bl (rX_w hP hK rfl hs hS) (va_recv hK hP (ci := 0) (q0 := 0) rfl rfl) rfl hl.1 rfl (Nat.le_of_ble_eq_true rfl) dX0_times_49 ⟨Nat.zero_le _, Nat.zero_le _⟩ rfl ?_
      have hpt52 := ptZ_or G1
      refine zi_feq (tgt := 65) hx hb dX0_times_52 (by decide) (by omega) (fun hc52 => ?_) (fun hc52 => ?_)
      · refine lv_aload_n hx hb dX0_times_65 rfl (lv_at hl 0 rfl) ?_
        refine wr_V (As := []) (rest := []) (st1 := []) (F' := fiZ F (k * 72).toNat 72 (fun j => wnZ G1 (wkZ (jC j) 0) (jN j))) (G' := G1) (k' := k) S (k_X0_draftProduct l D o q1 q2 cI tE tL F G1 k  hd hGG1 (by omega)) tb_262 tb_264 ts_X0_draftProduct tb_1 tb_265 hd_X0_draftProduct ⟨rfl, rfl, by decide, by decide⟩ hP hK rfl hs hS hA hAn rfl hl.1 rfl (Nat.le_of_ble_eq_true rfl) dX0_times_66 ⟨Nat.zero_le _, Nat.zero_le _⟩ rfl (fun H locs hP hS _ _ => ?_)
        obtain ⟨F2, eF2⟩ : ∃ Z : Nat → Int, Z = fiZ F (k * 72).toNat 72 (fun j => wnZ G1 (wkZ (jC j) 0) (jN j)) := ⟨_, rfl⟩
        rw [← eF2] at hP
        refine lv_aload_n hx hb dX0_times_69 rfl (lv_at hl 0 rfl) ?_
        refine wr_V (As := []) (rest := []) (st1 := [.int (iZ k)]) (F' := F2) (G' := G1) (k' := k + 1) S (k_X0_keepDraft l D o q1 q2 cI tE tL F2 G1 k  hd ) tb_158 tb_160 ts_X0_keepDraft tb_1 tb_161 hd_X0_keepDraft ⟨rfl, rfl, by decide, by decide⟩ hP hK rfl hs hS hA hAn rfl hl.1 rfl (Nat.le_of_ble_eq_true rfl) dX0_times_70 ⟨Nat.zero_le _, Nat.zero_le _⟩ rfl (fun H locs hP hS _ _ => ?_)
        exact wr_iret hx hb hr hlk (wP_eq hP ((by rw [eF2, eG1])) eG1 rfl) hS (congrArg (fun z => some (Value.int (iZ z))) (show (k : Int) = k from rfl)) dX0_times_73
      · exfalso
        omega
    · exfalso
      omega
end
