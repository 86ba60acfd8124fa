def RX0 : String := "TowerIntegrals"
def RX1 : String := "TowerIntegralsModel"
def RL : String := "TowerIntegralsLaw"
def TX0 : u_T := fun k => match k with
  | 0 => ("TowerIntegrals", "numbers", "[I", true)
  | 1 => ("TowerIntegrals", "wide", "[I", true)
  | _ => ("TowerIntegrals", "made", "I", false)
def tyX0 : Nat → FieldType := fun k => match k with
  | 0 => .array .int
  | 1 => .array .int
  | _ => .int
theorem nmX0 : ∀ a, a < 3 → ∀ b, b < 3 → a ≠ b → (TX0 a).2.1 ≠ (TX0 b).2.1 := by decide +kernel
theorem tyX0_ok : ∀ k, k < 3 → parseFieldDescriptor (TX0 k).2.2.1 = some (tyX0 k) := by decide +kernel
def TX1 : u_T := fun k => match k with
  | 0 => ("TowerIntegralsModel", "code", "I", false)
  | 1 => ("TowerIntegralsModel", "many", "I", false)
  | 2 => ("TowerIntegralsModel", "numbers", "[I", true)
  | 3 => ("TowerIntegralsModel", "made", "[J", true)
  | 4 => ("TowerIntegralsModel", "p", "[J", true)
  | 5 => ("TowerIntegralsModel", "q", "[J", true)
  | 6 => ("TowerIntegralsModel", "wide", "[J", true)
  | _ => ("TowerIntegralsModel", "sums", "[J", true)
def tyX1 : Nat → FieldType := fun k => match k with
  | 0 => .int
  | 1 => .int
  | 2 => .array .int
  | 3 => .array .long
  | 4 => .array .long
  | 5 => .array .long
  | 6 => .array .long
  | _ => .array .long
theorem nmX1 : ∀ a, a < 8 → ∀ b, b < 8 → a ≠ b → (TX1 a).2.1 ≠ (TX1 b).2.1 := by decide +kernel
theorem tyX1_ok : ∀ k, k < 8 → parseFieldDescriptor (TX1 k).2.2.1 = some (tyX1 k) := by decide +kernel
abbrev cX0_init : ByteArray := prog_1_method_1_code
def yX0_init : MethodName := ⟨RX0, "<init>", "()V"⟩
abbrev cX0_term : ByteArray := prog_1_method_2_code
def yX0_term : MethodName := ⟨RX0, "term", "(IIJ)I"⟩
abbrev cX0_add : ByteArray := prog_1_method_3_code
def yX0_add : MethodName := ⟨RX0, "add", "(II)I"⟩
abbrev cX0_less : ByteArray := prog_1_method_4_code
def yX0_less : MethodName := ⟨RX0, "less", "(IIJ)I"⟩
abbrev cX0_times : ByteArray := prog_1_method_5_code
def yX0_times : MethodName := ⟨RX0, "times", "(II)I"⟩
abbrev cX0_derive : ByteArray := prog_1_method_6_code
def yX0_derive : MethodName := ⟨RX0, "derive", "(I)I"⟩
abbrev cX0_integrate : ByteArray := prog_1_method_7_code
def yX0_integrate : MethodName := ⟨RX0, "integrate", "(I)I"⟩
abbrev cX0_rest : ByteArray := prog_1_method_8_code
def yX0_rest : MethodName := ⟨RX0, "rest", "(II)I"⟩
abbrev cX0_at : ByteArray := prog_1_method_9_code
def yX0_at : MethodName := ⟨RX0, "at", "(III)I"⟩
abbrev cX0_terms : ByteArray := prog_1_method_10_code
def yX0_terms : MethodName := ⟨RX0, "terms", "(II)I"⟩
abbrev cX0_degree : ByteArray := prog_1_method_11_code
def yX0_degree : MethodName := ⟨RX0, "degree", "(II)I"⟩
abbrev cX0_value : ByteArray := prog_1_method_12_code
def yX0_value : MethodName := ⟨RX0, "value", "(IJJJ)I"⟩
abbrev cX0_same : ByteArray := prog_1_method_13_code
def yX0_same : MethodName := ⟨RX0, "same", "(II)Z"⟩
abbrev cX0_count : ByteArray := prog_1_method_14_code
def yX0_count : MethodName := ⟨RX0, "count", "()I"⟩
abbrev cX0_needElement : ByteArray := prog_1_method_15_code
def yX0_needElement : MethodName := ⟨RX0, "needElement", "(I)V"⟩
abbrev cX0_needRoom : ByteArray := prog_1_method_16_code
def yX0_needRoom : MethodName := ⟨RX0, "needRoom", "()V"⟩
abbrev cX0_needKind : ByteArray := prog_1_method_17_code
def yX0_needKind : MethodName := ⟨RX0, "needKind", "(I)V"⟩
abbrev cX0_needPower : ByteArray := prog_1_method_18_code
def yX0_needPower : MethodName := ⟨RX0, "needPower", "(I)V"⟩
abbrev cX0_isKind : ByteArray := prog_1_method_19_code
def yX0_isKind : MethodName := ⟨RX0, "isKind", "(I)Z"⟩
abbrev cX0_isPower : ByteArray := prog_1_method_20_code
def yX0_isPower : MethodName := ⟨RX0, "isPower", "(I)Z"⟩
abbrev cX0_logPower : ByteArray := prog_1_method_21_code
def yX0_logPower : MethodName := ⟨RX0, "logPower", "(I)I"⟩
abbrev cX0_exponentialPower : ByteArray := prog_1_method_22_code
def yX0_exponentialPower : MethodName := ⟨RX0, "exponentialPower", "(I)I"⟩
abbrev cX0_reduce : ByteArray := prog_1_method_23_code
def yX0_reduce : MethodName := ⟨RX0, "reduce", "(J)I"⟩
abbrev cX0_multiply : ByteArray := prog_1_method_24_code
def yX0_multiply : MethodName := ⟨RX0, "multiply", "(II)I"⟩
abbrev cX0_power : ByteArray := prog_1_method_25_code
def yX0_power : MethodName := ⟨RX0, "power", "(II)I"⟩
abbrev cX0_inverse : ByteArray := prog_1_method_26_code
def yX0_inverse : MethodName := ⟨RX0, "inverse", "(I)I"⟩
abbrev cX0_divide : ByteArray := prog_1_method_27_code
def yX0_divide : MethodName := ⟨RX0, "divide", "(JI)I"⟩
abbrev cX0_place : ByteArray := prog_1_method_28_code
def yX0_place : MethodName := ⟨RX0, "place", "(III)I"⟩
abbrev cX0_isPlace : ByteArray := prog_1_method_29_code
def yX0_isPlace : MethodName := ⟨RX0, "isPlace", "(III)Z"⟩
abbrev cX0_number : ByteArray := prog_1_method_30_code
def yX0_number : MethodName := ⟨RX0, "number", "(III)I"⟩
abbrev cX0_setDraft : ByteArray := prog_1_method_31_code
def yX0_setDraft : MethodName := ⟨RX0, "setDraft", "(III)V"⟩
abbrev cX0_clearDraft : ByteArray := prog_1_method_32_code
def yX0_clearDraft : MethodName := ⟨RX0, "clearDraft", "()V"⟩
abbrev cX0_keepDraft : ByteArray := prog_1_method_33_code
def yX0_keepDraft : MethodName := ⟨RX0, "keepDraft", "()I"⟩
abbrev cX0_countTerms : ByteArray := prog_1_method_34_code
def yX0_countTerms : MethodName := ⟨RX0, "countTerms", "(III)I"⟩
abbrev cX0_draftSum : ByteArray := prog_1_method_35_code
def yX0_draftSum : MethodName := ⟨RX0, "draftSum", "(III)V"⟩
abbrev cX0_logMeetsExponential : ByteArray := prog_1_method_36_code
def yX0_logMeetsExponential : MethodName := ⟨RX0, "logMeetsExponential", "(II)Z"⟩
abbrev cX0_sumUpProduct : ByteArray := prog_1_method_37_code
def yX0_sumUpProduct : MethodName := ⟨RX0, "sumUpProduct", "(II)V"⟩
abbrev cX0_addMultiple : ByteArray := prog_1_method_38_code
def yX0_addMultiple : MethodName := ⟨RX0, "addMultiple", "(IIII)V"⟩
abbrev cX0_wideKind : ByteArray := prog_1_method_39_code
def yX0_wideKind : MethodName := ⟨RX0, "wideKind", "(II)I"⟩
abbrev cX0_widePlace : ByteArray := prog_1_method_40_code
def yX0_widePlace : MethodName := ⟨RX0, "widePlace", "(II)I"⟩
abbrev cX0_isWidePlace : ByteArray := prog_1_method_41_code
def yX0_isWidePlace : MethodName := ⟨RX0, "isWidePlace", "(II)Z"⟩
abbrev cX0_clearWide : ByteArray := prog_1_method_42_code
def yX0_clearWide : MethodName := ⟨RX0, "clearWide", "()V"⟩
abbrev cX0_addWide : ByteArray := prog_1_method_43_code
def yX0_addWide : MethodName := ⟨RX0, "addWide", "(IIJ)V"⟩
abbrev cX0_wideNumber : ByteArray := prog_1_method_44_code
def yX0_wideNumber : MethodName := ⟨RX0, "wideNumber", "(II)I"⟩
abbrev cX0_productIsTooFar : ByteArray := prog_1_method_45_code
def yX0_productIsTooFar : MethodName := ⟨RX0, "productIsTooFar", "()Z"⟩
abbrev cX0_isKnownWideKind : ByteArray := prog_1_method_46_code
def yX0_isKnownWideKind : MethodName := ⟨RX0, "isKnownWideKind", "(I)Z"⟩
abbrev cX0_draftProduct : ByteArray := prog_1_method_47_code
def yX0_draftProduct : MethodName := ⟨RX0, "draftProduct", "()V"⟩
abbrev cX0_slopeNumber : ByteArray := prog_1_method_48_code
def yX0_slopeNumber : MethodName := ⟨RX0, "slopeNumber", "(III)I"⟩
abbrev cX0_slopeIsTooFar : ByteArray := prog_1_method_49_code
def yX0_slopeIsTooFar : MethodName := ⟨RX0, "slopeIsTooFar", "(I)Z"⟩
abbrev cX0_draftSlope : ByteArray := prog_1_method_50_code
def yX0_draftSlope : MethodName := ⟨RX0, "draftSlope", "(I)V"⟩
abbrev cX0_restOf : ByteArray := prog_1_method_51_code
def yX0_restOf : MethodName := ⟨RX0, "restOf", "(II)I"⟩
abbrev cX0_hasRest : ByteArray := prog_1_method_52_code
def yX0_hasRest : MethodName := ⟨RX0, "hasRest", "(I)Z"⟩
abbrev cX0_integralIsTooFar : ByteArray := prog_1_method_53_code
def yX0_integralIsTooFar : MethodName := ⟨RX0, "integralIsTooFar", "(I)Z"⟩
abbrev cX0_draftLogIntegral : ByteArray := prog_1_method_54_code
def yX0_draftLogIntegral : MethodName := ⟨RX0, "draftLogIntegral", "(I)V"⟩
abbrev cX0_draftConstantPowerIntegral : ByteArray := prog_1_method_55_code
def yX0_draftConstantPowerIntegral : MethodName := ⟨RX0, "draftConstantPowerIntegral", "(I)V"⟩
abbrev cX0_draftExponentialIntegral : ByteArray := prog_1_method_56_code
def yX0_draftExponentialIntegral : MethodName := ⟨RX0, "draftExponentialIntegral", "(I)V"⟩
abbrev cX0_dividesByX : ByteArray := prog_1_method_57_code
def yX0_dividesByX : MethodName := ⟨RX0, "dividesByX", "(I)Z"⟩
abbrev cX0_dividesByE : ByteArray := prog_1_method_58_code
def yX0_dividesByE : MethodName := ⟨RX0, "dividesByE", "(I)Z"⟩
abbrev cX0_valueInX : ByteArray := prog_1_method_59_code
def yX0_valueInX : MethodName := ⟨RX0, "valueInX", "(IIII)I"⟩
abbrev cX1_init : ByteArray := prog_3_method_1_code
def yX1_init : MethodName := ⟨RX1, "<init>", "()V"⟩
abbrev cX1_thrown : ByteArray := prog_3_method_2_code
def yX1_thrown : MethodName := ⟨RX1, "thrown", "()I"⟩
abbrev cX1_raise : ByteArray := prog_3_method_3_code
def yX1_raise : MethodName := ⟨RX1, "raise", "(I)I"⟩
abbrev cX1_in : ByteArray := prog_3_method_4_code
def yX1_in : MethodName := ⟨RX1, "in", "(JJJ)Z"⟩
abbrev cX1_modulo : ByteArray := prog_3_method_5_code
def yX1_modulo : MethodName := ⟨RX1, "modulo", "(J)J"⟩
abbrev cX1_inverse : ByteArray := prog_3_method_6_code
def yX1_inverse : MethodName := ⟨RX1, "inverse", "(J)J"⟩
abbrev cX1_place : ByteArray := prog_3_method_7_code
def yX1_place : MethodName := ⟨RX1, "place", "(II)I"⟩
abbrev cX1_exponent : ByteArray := prog_3_method_8_code
def yX1_exponent : MethodName := ⟨RX1, "exponent", "(I)I"⟩
abbrev cX1_isThere : ByteArray := prog_3_method_9_code
def yX1_isThere : MethodName := ⟨RX1, "isThere", "(I)Z"⟩
abbrev cX1_may : ByteArray := prog_3_method_10_code
def yX1_may : MethodName := ⟨RX1, "may", "(II)Z"⟩
abbrev cX1_load : ByteArray := prog_3_method_11_code
def yX1_load : MethodName := ⟨RX1, "load", "([JI)V"⟩
abbrev cX1_keep : ByteArray := prog_3_method_12_code
def yX1_keep : MethodName := ⟨RX1, "keep", "()I"⟩
abbrev cX1_term : ByteArray := prog_3_method_13_code
def yX1_term : MethodName := ⟨RX1, "term", "(IIJ)I"⟩
abbrev cX1_add : ByteArray := prog_3_method_14_code
def yX1_add : MethodName := ⟨RX1, "add", "(II)I"⟩
abbrev cX1_less : ByteArray := prog_3_method_15_code
def yX1_less : MethodName := ⟨RX1, "less", "(IIJ)I"⟩
abbrev cX1_rowOf : ByteArray := prog_3_method_16_code
def yX1_rowOf : MethodName := ⟨RX1, "rowOf", "(I)I"⟩
abbrev cX1_start : ByteArray := prog_3_method_17_code
def yX1_start : MethodName := ⟨RX1, "start", "()V"⟩
abbrev cX1_narrow : ByteArray := prog_3_method_18_code
def yX1_narrow : MethodName := ⟨RX1, "narrow", "()I"⟩
abbrev cX1_has : ByteArray := prog_3_method_19_code
def yX1_has : MethodName := ⟨RX1, "has", "([JII)Z"⟩
abbrev cX1_times : ByteArray := prog_3_method_20_code
def yX1_times : MethodName := ⟨RX1, "times", "(II)I"⟩
abbrev cX1_derive : ByteArray := prog_3_method_21_code
def yX1_derive : MethodName := ⟨RX1, "derive", "(I)I"⟩
abbrev cX1_restOf : ByteArray := prog_3_method_22_code
def yX1_restOf : MethodName := ⟨RX1, "restOf", "(I)J"⟩
abbrev cX1_rest : ByteArray := prog_3_method_23_code
def yX1_rest : MethodName := ⟨RX1, "rest", "(II)I"⟩
abbrev cX1_integrate : ByteArray := prog_3_method_24_code
def yX1_integrate : MethodName := ⟨RX1, "integrate", "(I)I"⟩
abbrev cX1_at : ByteArray := prog_3_method_25_code
def yX1_at : MethodName := ⟨RX1, "at", "(III)I"⟩
abbrev cX1_terms : ByteArray := prog_3_method_26_code
def yX1_terms : MethodName := ⟨RX1, "terms", "(II)I"⟩
abbrev cX1_degree : ByteArray := prog_3_method_27_code
def yX1_degree : MethodName := ⟨RX1, "degree", "(II)I"⟩
abbrev cX1_power : ByteArray := prog_3_method_28_code
def yX1_power : MethodName := ⟨RX1, "power", "(JI)J"⟩
abbrev cX1_value : ByteArray := prog_3_method_29_code
def yX1_value : MethodName := ⟨RX1, "value", "(IJJJ)I"⟩
abbrev cX1_same : ByteArray := prog_3_method_30_code
def yX1_same : MethodName := ⟨RX1, "same", "(II)Z"⟩
abbrev cX1_count : ByteArray := prog_3_method_31_code
def yX1_count : MethodName := ⟨RX1, "count", "()I"⟩
abbrev cL_term : ByteArray := method_3_code
def yL_term : MethodName := ⟨RL, "term", "(LTowerIntegrals;IIJ[J)I"⟩
abbrev cL_add : ByteArray := method_4_code
def yL_add : MethodName := ⟨RL, "add", "(LTowerIntegrals;II[J)I"⟩
abbrev cL_less : ByteArray := method_5_code
def yL_less : MethodName := ⟨RL, "less", "(LTowerIntegrals;IIJ[J)I"⟩
abbrev cL_times : ByteArray := method_6_code
def yL_times : MethodName := ⟨RL, "times", "(LTowerIntegrals;II[J)I"⟩
abbrev cL_derive : ByteArray := method_7_code
def yL_derive : MethodName := ⟨RL, "derive", "(LTowerIntegrals;I[J)I"⟩
abbrev cL_integrate : ByteArray := method_8_code
def yL_integrate : MethodName := ⟨RL, "integrate", "(LTowerIntegrals;I[J)I"⟩
abbrev cL_rest : ByteArray := method_9_code
def yL_rest : MethodName := ⟨RL, "rest", "(LTowerIntegrals;II[J)I"⟩
abbrev cL_at : ByteArray := method_10_code
def yL_at : MethodName := ⟨RL, "at", "(LTowerIntegrals;III[J)I"⟩
abbrev cL_terms : ByteArray := method_11_code
def yL_terms : MethodName := ⟨RL, "terms", "(LTowerIntegrals;II[J)I"⟩
abbrev cL_degree : ByteArray := method_12_code
def yL_degree : MethodName := ⟨RL, "degree", "(LTowerIntegrals;II[J)I"⟩
abbrev cL_value : ByteArray := method_13_code
def yL_value : MethodName := ⟨RL, "value", "(LTowerIntegrals;IJJJ[J)I"⟩
abbrev cL_same : ByteArray := method_14_code
def yL_same : MethodName := ⟨RL, "same", "(LTowerIntegrals;II[J)I"⟩
abbrev cL_law : ByteArray := code
def yL_law : MethodName := ⟨RL, "law", "([I)Z"⟩
/-- the words that every contract of ours stands on: the good ones of the tables -/
def TB : List Cond := lw_tbl.filter goodWord
theorem tb_in {w : Cond} (h : w ∈ tables_1) (g : goodWord w = true) : w ∈ TB := List.mem_filter.mpr ⟨List.mem_append_right _ h, g⟩
theorem tb_in0 {w : Cond} (h : w ∈ k2_sels lw_privs) (g : goodWord w = true) : w ∈ TB := List.mem_filter.mpr ⟨List.mem_append_left _ h, g⟩
theorem tb_0 : (Cond.initialized RL) ∈ TB := tb_in (List.mem_append_left _ (List.mem_of_getElem? (i := 0) rfl)) rfl
theorem tb_1 : (Cond.initialized RX0) ∈ TB := tb_in (List.mem_append_left _ (List.mem_of_getElem? (i := 1) rfl)) rfl
theorem tb_2 : (Cond.initialized RX1) ∈ TB := tb_in (List.mem_append_left _ (List.mem_of_getElem? (i := 2) rfl)) rfl
theorem tb_3 : (Cond.initialized "java/lang/Throwable") ∈ TB := tb_in (List.mem_append_left _ (List.mem_of_getElem? (i := 3) rfl)) rfl
theorem tb_4 : (Cond.initialized "java/lang/Exception") ∈ TB := tb_in (List.mem_append_left _ (List.mem_of_getElem? (i := 4) rfl)) rfl
theorem tb_5 : (Cond.initialized "java/lang/RuntimeException") ∈ TB := tb_in (List.mem_append_left _ (List.mem_of_getElem? (i := 5) rfl)) rfl
theorem tb_6 : (Cond.initialized "java/lang/IllegalArgumentException") ∈ TB := tb_in (List.mem_append_left _ (List.mem_of_getElem? (i := 6) rfl)) rfl
theorem tb_7 : (Cond.initialized "java/lang/IllegalStateException") ∈ TB := tb_in (List.mem_append_left _ (List.mem_of_getElem? (i := 7) rfl)) rfl
theorem tb_8 : (Cond.initialized "java/lang/IndexOutOfBoundsException") ∈ TB := tb_in (List.mem_append_left _ (List.mem_of_getElem? (i := 8) rfl)) rfl
theorem tb_9 : (Cond.initialized "java/lang/Math") ∈ TB := tb_in (List.mem_append_left _ (List.mem_of_getElem? (i := 9) rfl)) rfl
theorem tb_10 : (Cond.classLink RL 8 RX0) ∈ TB := tb_in (List.mem_append_left _ (List.mem_of_getElem? (i := 10) rfl)) rfl
theorem tb_11 : (Cond.instantiable RX0 3) ∈ TB := tb_in (List.mem_append_left _ (List.mem_of_getElem? (i := 11) rfl)) rfl
theorem tb_12 : (Cond.methodLink RL 57 yX0_init) ∈ TB := tb_in (List.mem_append_left _ (List.mem_of_getElem? (i := 12) rfl)) rfl
theorem tb_13 : (Cond.instanceMethod yX0_init) ∈ TB := tb_in (List.mem_append_left _ (List.mem_of_getElem? (i := 13) rfl)) rfl
theorem tb_14 : (Cond.code yX0_init cX0_init 1 none) ∈ TB := tb_in (List.mem_append_left _ (List.mem_of_getElem? (i := 14) rfl)) rfl
theorem tb_15 : (Cond.methodLink RX0 3 (⟨"java/lang/Object", "<init>", "()V"⟩ : MethodName)) ∈ TB := tb_in (List.mem_append_left _ (List.mem_of_getElem? (i := 15) rfl)) rfl
theorem tb_16 : (Cond.instanceMethod (⟨"java/lang/Object", "<init>", "()V"⟩ : MethodName)) ∈ TB := tb_in (List.mem_append_left _ (List.mem_of_getElem? (i := 16) rfl)) rfl
theorem tb_17 : (Cond.code (⟨"java/lang/Object", "<init>", "()V"⟩ : MethodName) object_method_1_code 1 none) ∈ TB := tb_in (List.mem_append_left _ (List.mem_of_getElem? (i := 17) rfl)) rfl
theorem tb_18 : (Cond.fieldLink RX0 9 RX0 "numbers" "[I") ∈ TB := tb_in (List.mem_append_left _ (List.mem_of_getElem? (i := 18) rfl)) rfl
theorem tb_19 : (Cond.fieldLink RX0 13 RX0 "wide" "[I") ∈ TB := tb_in (List.mem_append_left _ (List.mem_of_getElem? (i := 19) rfl)) rfl
theorem tb_20 : (Cond.fieldLink RX0 16 RX0 "made" "I") ∈ TB := tb_in (List.mem_append_left _ (List.mem_of_getElem? (i := 20) rfl)) rfl
theorem tb_21 : (Cond.laysFinal RX0 RX0 "numbers" "[I") ∈ TB := tb_in (List.mem_append_left _ (List.mem_of_getElem? (i := 21) rfl)) rfl
theorem tb_22 : (Cond.soleField RX0 "numbers") ∈ TB := tb_in (List.mem_append_left _ (List.mem_of_getElem? (i := 22) rfl)) rfl
theorem tb_23 : (Cond.laysFinal RX0 RX0 "wide" "[I") ∈ TB := tb_in (List.mem_append_left _ (List.mem_of_getElem? (i := 23) rfl)) rfl
theorem tb_24 : (Cond.soleField RX0 "wide") ∈ TB := tb_in (List.mem_append_left _ (List.mem_of_getElem? (i := 24) rfl)) rfl
theorem tb_25 : (Cond.lays RX0 RX0 "made" "I") ∈ TB := tb_in (List.mem_append_left _ (List.mem_of_getElem? (i := 25) rfl)) rfl
theorem tb_26 : (Cond.soleField RX0 "made") ∈ TB := tb_in (List.mem_append_left _ (List.mem_of_getElem? (i := 26) rfl)) rfl
theorem tb_27 : (Cond.superclass RX0 "java/lang/Object") ∈ TB := tb_in (List.mem_append_left _ (List.mem_of_getElem? (i := 27) rfl)) rfl
theorem tb_28 : (Cond.arrayClass FieldType.int) ∈ TB := tb_in (List.mem_append_left _ (List.mem_of_getElem? (i := 28) rfl)) rfl
theorem tb_29 : (Cond.methodLink RL 110 yX0_count) ∈ TB := tb_in (List.mem_append_left _ (List.mem_of_getElem? (i := 29) rfl)) rfl
theorem tb_30 : (Cond.instanceMethod yX0_count) ∈ TB := tb_in (List.mem_append_left _ (List.mem_of_getElem? (i := 30) rfl)) rfl
theorem tb_31 : (Cond.selects RX0 yX0_count yX0_count) ∈ TB := tb_in (List.mem_append_left _ (List.mem_of_getElem? (i := 31) rfl)) rfl
theorem tb_32 : (Cond.code yX0_count cX0_count 1 (some FieldType.int)) ∈ TB := tb_in (List.mem_append_left _ (List.mem_of_getElem? (i := 32) rfl)) rfl
theorem tb_33 : (Cond.methodLink RL 63 yL_term) ∈ TB := tb_in (List.mem_append_left _ (List.mem_of_getElem? (i := 33) rfl)) rfl
theorem tb_34 : (Cond.static yL_term) ∈ TB := tb_in (List.mem_append_left _ (List.mem_of_getElem? (i := 34) rfl)) rfl
theorem tb_35 : (Cond.codeWith yL_term cL_term 7 (some FieldType.int) [(0, 12, 15, 13), (0, 12, 19, 15)]) ∈ TB := tb_in (List.mem_append_left _ (List.mem_of_getElem? (i := 35) rfl)) rfl
theorem tb_36 : (Cond.classLink RL 13 "java/lang/IllegalArgumentException") ∈ TB := tb_in (List.mem_append_left _ (List.mem_of_getElem? (i := 36) rfl)) rfl
theorem tb_37 : (Cond.classLink RL 15 "java/lang/IllegalStateException") ∈ TB := tb_in (List.mem_append_left _ (List.mem_of_getElem? (i := 37) rfl)) rfl
theorem tb_38 : (Cond.methodLink RL 7 yX0_term) ∈ TB := tb_in (List.mem_append_left _ (List.mem_of_getElem? (i := 38) rfl)) rfl
theorem tb_39 : (Cond.instanceMethod yX0_term) ∈ TB := tb_in (List.mem_append_left _ (List.mem_of_getElem? (i := 39) rfl)) rfl
theorem tb_40 : (Cond.selects RX0 yX0_term yX0_term) ∈ TB := tb_in (List.mem_append_left _ (List.mem_of_getElem? (i := 40) rfl)) rfl
theorem tb_41 : (Cond.code yX0_term cX0_term 5 (some FieldType.int)) ∈ TB := tb_in (List.mem_append_left _ (List.mem_of_getElem? (i := 41) rfl)) rfl
theorem tb_42 : (Cond.methodLink RX0 20 yX0_needKind) ∈ TB := tb_in (List.mem_append_left _ (List.mem_of_getElem? (i := 42) rfl)) rfl
theorem tb_43 : (Cond.static yX0_needKind) ∈ TB := tb_in (List.mem_append_left _ (List.mem_of_getElem? (i := 43) rfl)) rfl
theorem tb_44 : (Cond.code yX0_needKind cX0_needKind 1 none) ∈ TB := tb_in (List.mem_append_left _ (List.mem_of_getElem? (i := 44) rfl)) rfl
theorem tb_45 : (Cond.methodLink RX0 150 yX0_isKind) ∈ TB := tb_in (List.mem_append_left _ (List.mem_of_getElem? (i := 45) rfl)) rfl
theorem tb_46 : (Cond.static yX0_isKind) ∈ TB := tb_in (List.mem_append_left _ (List.mem_of_getElem? (i := 46) rfl)) rfl
theorem tb_47 : (Cond.code yX0_isKind cX0_isKind 1 (some FieldType.boolean)) ∈ TB := tb_in (List.mem_append_left _ (List.mem_of_getElem? (i := 47) rfl)) rfl
theorem tb_48 : (Cond.classLink RX0 153 "java/lang/IllegalArgumentException") ∈ TB := tb_in (List.mem_append_left _ (List.mem_of_getElem? (i := 48) rfl)) rfl
theorem tb_49 : (Cond.instantiable "java/lang/IllegalArgumentException" 6) ∈ TB := tb_in (List.mem_append_left _ (List.mem_of_getElem? (i := 49) rfl)) rfl
theorem tq_50 : (Cond.castable "java/lang/IllegalArgumentException" "java/lang/IllegalArgumentException") ∈ tables_1 := List.mem_append_left _ (List.mem_of_getElem? (i := 50) rfl)
theorem tq_51 : (Cond.declares (⟨"java/lang/RuntimeException", "<init>", "()V"⟩ : MethodName)) ∈ tables_1 := List.mem_append_left _ (List.mem_of_getElem? (i := 51) rfl)
theorem tq_52 : (Cond.declares (⟨"java/lang/RuntimeException", "<init>", "(Ljava/lang/String;)V"⟩ : MethodName)) ∈ tables_1 := List.mem_append_left _ (List.mem_of_getElem? (i := 52) rfl)
theorem tq_53 : (Cond.declares (⟨"java/lang/Exception", "<init>", "()V"⟩ : MethodName)) ∈ tables_1 := List.mem_append_left _ (List.mem_of_getElem? (i := 53) rfl)
theorem tq_54 : (Cond.declares (⟨"java/lang/Exception", "<init>", "(Ljava/lang/String;)V"⟩ : MethodName)) ∈ tables_1 := List.mem_append_left _ (List.mem_of_getElem? (i := 54) rfl)
theorem tq_55 : (Cond.declares (⟨"java/lang/Throwable", "<init>", "()V"⟩ : MethodName)) ∈ tables_1 := List.mem_append_left _ (List.mem_of_getElem? (i := 55) rfl)
theorem tq_56 : (Cond.declares (⟨"java/lang/Throwable", "<init>", "(Ljava/lang/String;)V"⟩ : MethodName)) ∈ tables_1 := List.mem_append_left _ (List.mem_of_getElem? (i := 56) rfl)
theorem tb_57 : (Cond.selects "java/lang/IllegalArgumentException" (⟨"java/lang/Throwable", "fillInStackTrace", "(I)Ljava/lang/Throwable;"⟩ : MethodName) (⟨"java/lang/Throwable", "fillInStackTrace", "(I)Ljava/lang/Throwable;"⟩ : MethodName)) ∈ TB := tb_in (List.mem_append_left _ (List.mem_of_getElem? (i := 57) rfl)) rfl
theorem tb_58 : (Cond.selects "java/lang/IllegalArgumentException" (⟨"java/lang/Throwable", "fillInStackTrace", "()Ljava/lang/Throwable;"⟩ : MethodName) (⟨"java/lang/Throwable", "fillInStackTrace", "()Ljava/lang/Throwable;"⟩ : MethodName)) ∈ TB := tb_in (List.mem_append_left _ (List.mem_of_getElem? (i := 58) rfl)) rfl
theorem tb_59 : (Cond.lays "java/lang/IllegalArgumentException" "java/lang/Throwable" "cause" "Ljava/lang/Throwable;") ∈ TB := tb_in (List.mem_append_left _ (List.mem_of_getElem? (i := 59) rfl)) rfl
theorem tb_60 : (Cond.lays "java/lang/Throwable" "java/lang/Throwable" "cause" "Ljava/lang/Throwable;") ∈ TB := tb_in (List.mem_append_left _ (List.mem_of_getElem? (i := 60) rfl)) rfl
theorem tb_61 : (Cond.lays "java/lang/IllegalArgumentException" "java/lang/Throwable" "stackTrace" "[Ljava/lang/StackTraceElement;") ∈ TB := tb_in (List.mem_append_left _ (List.mem_of_getElem? (i := 61) rfl)) rfl
theorem tb_62 : (Cond.lays "java/lang/Throwable" "java/lang/Throwable" "stackTrace" "[Ljava/lang/StackTraceElement;") ∈ TB := tb_in (List.mem_append_left _ (List.mem_of_getElem? (i := 62) rfl)) rfl
theorem tb_63 : (Cond.lays "java/lang/IllegalArgumentException" "java/lang/Throwable" "suppressedExceptions" "Ljava/util/List;") ∈ TB := tb_in (List.mem_append_left _ (List.mem_of_getElem? (i := 63) rfl)) rfl
theorem tb_64 : (Cond.lays "java/lang/Throwable" "java/lang/Throwable" "suppressedExceptions" "Ljava/util/List;") ∈ TB := tb_in (List.mem_append_left _ (List.mem_of_getElem? (i := 64) rfl)) rfl
theorem tb_65 : (Cond.lays "java/lang/IllegalArgumentException" "java/lang/Throwable" "detailMessage" "Ljava/lang/String;") ∈ TB := tb_in (List.mem_append_left _ (List.mem_of_getElem? (i := 65) rfl)) rfl
theorem tb_66 : (Cond.lays "java/lang/Throwable" "java/lang/Throwable" "detailMessage" "Ljava/lang/String;") ∈ TB := tb_in (List.mem_append_left _ (List.mem_of_getElem? (i := 66) rfl)) rfl
theorem tb_67 : (Cond.lays "java/lang/IllegalArgumentException" "java/lang/Throwable" "backtrace" "Ljava/lang/Object;") ∈ TB := tb_in (List.mem_append_left _ (List.mem_of_getElem? (i := 67) rfl)) rfl
theorem tb_68 : (Cond.lays "java/lang/Throwable" "java/lang/Throwable" "backtrace" "Ljava/lang/Object;") ∈ TB := tb_in (List.mem_append_left _ (List.mem_of_getElem? (i := 68) rfl)) rfl
theorem tb_69 : (Cond.fieldLink "java/lang/Throwable" 198 "java/lang/Throwable" "backtrace" "Ljava/lang/Object;") ∈ TB := tb_in (List.mem_append_left _ (List.mem_of_getElem? (i := 69) rfl)) rfl
theorem tb_70 : (Cond.superclass "java/lang/Throwable" "java/lang/Object") ∈ TB := tb_in (List.mem_append_left _ (List.mem_of_getElem? (i := 70) rfl)) rfl
theorem tb_71 : (Cond.instanceMethod (⟨"java/lang/Throwable", "<init>", "()V"⟩ : MethodName)) ∈ TB := tb_in (List.mem_append_left _ (List.mem_of_getElem? (i := 71) rfl)) rfl
theorem tb_72 : (Cond.code (⟨"java/lang/Throwable", "<init>", "()V"⟩ : MethodName) prog_11_method_1_code 1 none) ∈ TB := tb_in (List.mem_append_left _ (List.mem_of_getElem? (i := 72) rfl)) rfl
theorem tb_73 : (Cond.methodLink "java/lang/Throwable" 1 (⟨"java/lang/Object", "<init>", "()V"⟩ : MethodName)) ∈ TB := tb_in (List.mem_append_left _ (List.mem_of_getElem? (i := 73) rfl)) rfl
theorem tb_74 : (Cond.fieldLink "java/lang/Throwable" 13 "java/lang/Throwable" "UNASSIGNED_STACK" "[Ljava/lang/StackTraceElement;") ∈ TB := tb_in (List.mem_append_left _ (List.mem_of_getElem? (i := 74) rfl)) rfl
theorem tq_75 : (Cond.laysStatic "java/lang/Throwable" "UNASSIGNED_STACK" "[Ljava/lang/StackTraceElement;") ∈ tables_1 := List.mem_append_left _ (List.mem_of_getElem? (i := 75) rfl)
theorem tb_76 : (Cond.fieldLink "java/lang/Throwable" 20 "java/lang/Throwable" "SUPPRESSED_SENTINEL" "Ljava/util/List;") ∈ TB := tb_in (List.mem_append_left _ (List.mem_of_getElem? (i := 76) rfl)) rfl
theorem tq_77 : (Cond.laysStatic "java/lang/Throwable" "SUPPRESSED_SENTINEL" "Ljava/util/List;") ∈ tables_1 := List.mem_append_left _ (List.mem_of_getElem? (i := 77) rfl)
theorem tb_78 : (Cond.methodLink "java/lang/Throwable" 27 (⟨"java/lang/Throwable", "fillInStackTrace", "()Ljava/lang/Throwable;"⟩ : MethodName)) ∈ TB := tb_in (List.mem_append_left _ (List.mem_of_getElem? (i := 78) rfl)) rfl
theorem tb_79 : (Cond.instanceMethod (⟨"java/lang/Throwable", "fillInStackTrace", "()Ljava/lang/Throwable;"⟩ : MethodName)) ∈ TB := tb_in (List.mem_append_left _ (List.mem_of_getElem? (i := 79) rfl)) rfl
theorem tq_80 : (Cond.sameMethod "java/lang/Throwable" "java/lang/Throwable" "fillInStackTrace" "()Ljava/lang/Throwable;") ∈ tables_1 := List.mem_append_left _ (List.mem_of_getElem? (i := 80) rfl)
theorem tb_81 : (Cond.selects "java/lang/IllegalStateException" (⟨"java/lang/Throwable", "fillInStackTrace", "()Ljava/lang/Throwable;"⟩ : MethodName) (⟨"java/lang/Throwable", "fillInStackTrace", "()Ljava/lang/Throwable;"⟩ : MethodName)) ∈ TB := tb_in (List.mem_append_left _ (List.mem_of_getElem? (i := 81) rfl)) rfl
theorem tb_82 : (Cond.selects "java/lang/IndexOutOfBoundsException" (⟨"java/lang/Throwable", "fillInStackTrace", "()Ljava/lang/Throwable;"⟩ : MethodName) (⟨"java/lang/Throwable", "fillInStackTrace", "()Ljava/lang/Throwable;"⟩ : MethodName)) ∈ TB := tb_in (List.mem_append_left _ (List.mem_of_getElem? (i := 82) rfl)) rfl
theorem tq_83 : (Cond.codeSync (⟨"java/lang/Throwable", "fillInStackTrace", "()Ljava/lang/Throwable;"⟩ : MethodName) prog_11_method_18_code 1 (some (FieldType.object "java/lang/Throwable"))) ∈ tables_1 := List.mem_append_left _ (List.mem_of_getElem? (i := 83) rfl)
theorem tb_84 : (Cond.methodLink "java/lang/Throwable" 202 (⟨"java/lang/Throwable", "fillInStackTrace", "(I)Ljava/lang/Throwable;"⟩ : MethodName)) ∈ TB := tb_in (List.mem_append_left _ (List.mem_of_getElem? (i := 84) rfl)) rfl
theorem tq_85 : (Cond.privateMethod (⟨"java/lang/Throwable", "fillInStackTrace", "(I)Ljava/lang/Throwable;"⟩ : MethodName)) ∈ tables_1 := List.mem_append_left _ (List.mem_of_getElem? (i := 85) rfl)
theorem tb_86 : (Cond.instanceMethod (⟨"java/lang/Throwable", "fillInStackTrace", "(I)Ljava/lang/Throwable;"⟩ : MethodName)) ∈ TB := tb_in (List.mem_append_left _ (List.mem_of_getElem? (i := 86) rfl)) rfl
theorem tb_87 : (Cond.instantiable "java/lang/Throwable" 6) ∈ TB := tb_in (List.mem_append_left _ (List.mem_of_getElem? (i := 87) rfl)) rfl
theorem tq_88 : (Cond.native (⟨"java/lang/Throwable", "fillInStackTrace", "(I)Ljava/lang/Throwable;"⟩ : MethodName)) ∈ tables_1 := List.mem_append_left _ (List.mem_of_getElem? (i := 88) rfl)
theorem tq_89 : (Cond.stringRef RX0 155 "no such kind") ∈ tables_1 := List.mem_append_left _ (List.mem_of_getElem? (i := 89) rfl)
theorem tb_90 : (Cond.methodLink RX0 157 (⟨"java/lang/IllegalArgumentException", "<init>", "(Ljava/lang/String;)V"⟩ : MethodName)) ∈ TB := tb_in (List.mem_append_left _ (List.mem_of_getElem? (i := 90) rfl)) rfl
theorem tb_91 : (Cond.instanceMethod (⟨"java/lang/IllegalArgumentException", "<init>", "(Ljava/lang/String;)V"⟩ : MethodName)) ∈ TB := tb_in (List.mem_append_left _ (List.mem_of_getElem? (i := 91) rfl)) rfl
theorem tb_92 : (Cond.code (⟨"java/lang/IllegalArgumentException", "<init>", "(Ljava/lang/String;)V"⟩ : MethodName) prog_5_method_2_code 2 none) ∈ TB := tb_in (List.mem_append_left _ (List.mem_of_getElem? (i := 92) rfl)) rfl
theorem tb_93 : (Cond.methodLink "java/lang/IllegalArgumentException" 7 (⟨"java/lang/RuntimeException", "<init>", "(Ljava/lang/String;)V"⟩ : MethodName)) ∈ TB := tb_in (List.mem_append_left _ (List.mem_of_getElem? (i := 93) rfl)) rfl
theorem tb_94 : (Cond.instanceMethod (⟨"java/lang/RuntimeException", "<init>", "(Ljava/lang/String;)V"⟩ : MethodName)) ∈ TB := tb_in (List.mem_append_left _ (List.mem_of_getElem? (i := 94) rfl)) rfl
theorem tb_95 : (Cond.code (⟨"java/lang/RuntimeException", "<init>", "(Ljava/lang/String;)V"⟩ : MethodName) prog_9_method_2_code 2 none) ∈ TB := tb_in (List.mem_append_left _ (List.mem_of_getElem? (i := 95) rfl)) rfl
theorem tb_96 : (Cond.methodLink "java/lang/RuntimeException" 7 (⟨"java/lang/Exception", "<init>", "(Ljava/lang/String;)V"⟩ : MethodName)) ∈ TB := tb_in (List.mem_append_left _ (List.mem_of_getElem? (i := 96) rfl)) rfl
theorem tb_97 : (Cond.instanceMethod (⟨"java/lang/Exception", "<init>", "(Ljava/lang/String;)V"⟩ : MethodName)) ∈ TB := tb_in (List.mem_append_left _ (List.mem_of_getElem? (i := 97) rfl)) rfl
theorem tb_98 : (Cond.code (⟨"java/lang/Exception", "<init>", "(Ljava/lang/String;)V"⟩ : MethodName) prog_4_method_2_code 2 none) ∈ TB := tb_in (List.mem_append_left _ (List.mem_of_getElem? (i := 98) rfl)) rfl
theorem tb_99 : (Cond.methodLink "java/lang/Exception" 7 (⟨"java/lang/Throwable", "<init>", "(Ljava/lang/String;)V"⟩ : MethodName)) ∈ TB := tb_in (List.mem_append_left _ (List.mem_of_getElem? (i := 99) rfl)) rfl
theorem tb_100 : (Cond.instanceMethod (⟨"java/lang/Throwable", "<init>", "(Ljava/lang/String;)V"⟩ : MethodName)) ∈ TB := tb_in (List.mem_append_left _ (List.mem_of_getElem? (i := 100) rfl)) rfl
theorem tb_101 : (Cond.code (⟨"java/lang/Throwable", "<init>", "(Ljava/lang/String;)V"⟩ : MethodName) prog_11_method_2_code 2 none) ∈ TB := tb_in (List.mem_append_left _ (List.mem_of_getElem? (i := 101) rfl)) rfl
theorem tb_103 : (Cond.fieldLink "java/lang/Throwable" 31 "java/lang/Throwable" "detailMessage" "Ljava/lang/String;") ∈ TB := tb_in (List.mem_append_left _ (List.mem_of_getElem? (i := 103) rfl)) rfl
theorem tb_104 : (Cond.fieldLink "java/lang/Throwable" 7 "java/lang/Throwable" "cause" "Ljava/lang/Throwable;") ∈ TB := tb_in (List.mem_append_left _ (List.mem_of_getElem? (i := 104) rfl)) rfl
theorem tb_105 : (Cond.fieldLink "java/lang/Throwable" 17 "java/lang/Throwable" "stackTrace" "[Ljava/lang/StackTraceElement;") ∈ TB := tb_in (List.mem_append_left _ (List.mem_of_getElem? (i := 105) rfl)) rfl
theorem tb_106 : (Cond.fieldLink "java/lang/Throwable" 24 "java/lang/Throwable" "suppressedExceptions" "Ljava/util/List;") ∈ TB := tb_in (List.mem_append_left _ (List.mem_of_getElem? (i := 106) rfl)) rfl
theorem tb_107 : (Cond.soleField "java/lang/Throwable" "backtrace") ∈ TB := tb_in (List.mem_append_left _ (List.mem_of_getElem? (i := 107) rfl)) rfl
theorem tb_108 : (Cond.soleField "java/lang/Throwable" "detailMessage") ∈ TB := tb_in (List.mem_append_left _ (List.mem_of_getElem? (i := 108) rfl)) rfl
theorem tb_109 : (Cond.soleField "java/lang/Throwable" "cause") ∈ TB := tb_in (List.mem_append_left _ (List.mem_of_getElem? (i := 109) rfl)) rfl
theorem tb_110 : (Cond.soleField "java/lang/Throwable" "stackTrace") ∈ TB := tb_in (List.mem_append_left _ (List.mem_of_getElem? (i := 110) rfl)) rfl
theorem tb_111 : (Cond.lays "java/lang/IllegalArgumentException" "java/lang/Throwable" "depth" "I") ∈ TB := tb_in (List.mem_append_left _ (List.mem_of_getElem? (i := 111) rfl)) rfl
theorem tb_112 : (Cond.soleField "java/lang/Throwable" "depth") ∈ TB := tb_in (List.mem_append_left _ (List.mem_of_getElem? (i := 112) rfl)) rfl
theorem tb_113 : (Cond.soleField "java/lang/Throwable" "suppressedExceptions") ∈ TB := tb_in (List.mem_append_left _ (List.mem_of_getElem? (i := 113) rfl)) rfl
theorem tb_114 : (Cond.superclass "java/lang/IllegalArgumentException" "java/lang/RuntimeException") ∈ TB := tb_in (List.mem_append_left _ (List.mem_of_getElem? (i := 114) rfl)) rfl
theorem tb_115 : (Cond.arrayClass FieldType.byte) ∈ TB := tb_in (List.mem_append_left _ (List.mem_of_getElem? (i := 115) rfl)) rfl
theorem tb_116 : (Cond.methodLink RX0 24 yX0_needPower) ∈ TB := tb_in (List.mem_append_left _ (List.mem_of_getElem? (i := 116) rfl)) rfl
theorem tb_117 : (Cond.static yX0_needPower) ∈ TB := tb_in (List.mem_append_left _ (List.mem_of_getElem? (i := 117) rfl)) rfl
theorem tb_118 : (Cond.code yX0_needPower cX0_needPower 1 none) ∈ TB := tb_in (List.mem_append_left _ (List.mem_of_getElem? (i := 118) rfl)) rfl
theorem tb_119 : (Cond.methodLink RX0 158 yX0_isPower) ∈ TB := tb_in (List.mem_append_left _ (List.mem_of_getElem? (i := 119) rfl)) rfl
theorem tb_120 : (Cond.static yX0_isPower) ∈ TB := tb_in (List.mem_append_left _ (List.mem_of_getElem? (i := 120) rfl)) rfl
theorem tb_121 : (Cond.code yX0_isPower cX0_isPower 1 (some FieldType.boolean)) ∈ TB := tb_in (List.mem_append_left _ (List.mem_of_getElem? (i := 121) rfl)) rfl
theorem tq_122 : (Cond.stringRef RX0 161 "no such n") ∈ tables_1 := List.mem_append_left _ (List.mem_of_getElem? (i := 122) rfl)
theorem tb_123 : (Cond.methodLink RX0 27 yX0_needRoom) ∈ TB := tb_in (List.mem_append_left _ (List.mem_of_getElem? (i := 123) rfl)) rfl
theorem tq_124 : (Cond.privateMethod yX0_needRoom) ∈ tables_1 := List.mem_append_left _ (List.mem_of_getElem? (i := 124) rfl)
theorem tb_125 : (Cond.instanceMethod yX0_needRoom) ∈ TB := tb_in (List.mem_append_left _ (List.mem_of_getElem? (i := 125) rfl)) rfl
theorem tb_126 : (Cond.code yX0_needRoom cX0_needRoom 1 none) ∈ TB := tb_in (List.mem_append_left _ (List.mem_of_getElem? (i := 126) rfl)) rfl
theorem tb_127 : (Cond.classLink RX0 55 "java/lang/IllegalStateException") ∈ TB := tb_in (List.mem_append_left _ (List.mem_of_getElem? (i := 127) rfl)) rfl
theorem tb_128 : (Cond.instantiable "java/lang/IllegalStateException" 6) ∈ TB := tb_in (List.mem_append_left _ (List.mem_of_getElem? (i := 128) rfl)) rfl
theorem tq_129 : (Cond.castable "java/lang/IllegalStateException" "java/lang/IllegalStateException") ∈ tables_1 := List.mem_append_left _ (List.mem_of_getElem? (i := 129) rfl)
theorem tb_130 : (Cond.selects "java/lang/IllegalStateException" (⟨"java/lang/Throwable", "fillInStackTrace", "(I)Ljava/lang/Throwable;"⟩ : MethodName) (⟨"java/lang/Throwable", "fillInStackTrace", "(I)Ljava/lang/Throwable;"⟩ : MethodName)) ∈ TB := tb_in (List.mem_append_left _ (List.mem_of_getElem? (i := 130) rfl)) rfl
theorem tb_131 : (Cond.lays "java/lang/IllegalStateException" "java/lang/Throwable" "cause" "Ljava/lang/Throwable;") ∈ TB := tb_in (List.mem_append_left _ (List.mem_of_getElem? (i := 131) rfl)) rfl
theorem tb_132 : (Cond.lays "java/lang/IllegalStateException" "java/lang/Throwable" "stackTrace" "[Ljava/lang/StackTraceElement;") ∈ TB := tb_in (List.mem_append_left _ (List.mem_of_getElem? (i := 132) rfl)) rfl
theorem tb_133 : (Cond.lays "java/lang/IllegalStateException" "java/lang/Throwable" "suppressedExceptions" "Ljava/util/List;") ∈ TB := tb_in (List.mem_append_left _ (List.mem_of_getElem? (i := 133) rfl)) rfl
theorem tb_134 : (Cond.lays "java/lang/IllegalStateException" "java/lang/Throwable" "detailMessage" "Ljava/lang/String;") ∈ TB := tb_in (List.mem_append_left _ (List.mem_of_getElem? (i := 134) rfl)) rfl
theorem tb_135 : (Cond.lays "java/lang/IllegalStateException" "java/lang/Throwable" "backtrace" "Ljava/lang/Object;") ∈ TB := tb_in (List.mem_append_left _ (List.mem_of_getElem? (i := 135) rfl)) rfl
theorem tq_136 : (Cond.stringRef RX0 148 "60 elements are there") ∈ tables_1 := List.mem_append_left _ (List.mem_of_getElem? (i := 136) rfl)
theorem tb_137 : (Cond.methodLink RX0 59 (⟨"java/lang/IllegalStateException", "<init>", "(Ljava/lang/String;)V"⟩ : MethodName)) ∈ TB := tb_in (List.mem_append_left _ (List.mem_of_getElem? (i := 137) rfl)) rfl
theorem tb_138 : (Cond.instanceMethod (⟨"java/lang/IllegalStateException", "<init>", "(Ljava/lang/String;)V"⟩ : MethodName)) ∈ TB := tb_in (List.mem_append_left _ (List.mem_of_getElem? (i := 138) rfl)) rfl
theorem tb_139 : (Cond.code (⟨"java/lang/IllegalStateException", "<init>", "(Ljava/lang/String;)V"⟩ : MethodName) prog_6_method_2_code 2 none) ∈ TB := tb_in (List.mem_append_left _ (List.mem_of_getElem? (i := 139) rfl)) rfl
theorem tb_140 : (Cond.methodLink "java/lang/IllegalStateException" 7 (⟨"java/lang/RuntimeException", "<init>", "(Ljava/lang/String;)V"⟩ : MethodName)) ∈ TB := tb_in (List.mem_append_left _ (List.mem_of_getElem? (i := 140) rfl)) rfl
theorem tb_141 : (Cond.lays "java/lang/IllegalStateException" "java/lang/Throwable" "depth" "I") ∈ TB := tb_in (List.mem_append_left _ (List.mem_of_getElem? (i := 141) rfl)) rfl
theorem tb_142 : (Cond.superclass "java/lang/IllegalStateException" "java/lang/RuntimeException") ∈ TB := tb_in (List.mem_append_left _ (List.mem_of_getElem? (i := 142) rfl)) rfl
theorem tb_143 : (Cond.methodLink RX0 30 yX0_clearDraft) ∈ TB := tb_in (List.mem_append_left _ (List.mem_of_getElem? (i := 143) rfl)) rfl
theorem tq_144 : (Cond.privateMethod yX0_clearDraft) ∈ tables_1 := List.mem_append_left _ (List.mem_of_getElem? (i := 144) rfl)
theorem tb_145 : (Cond.instanceMethod yX0_clearDraft) ∈ TB := tb_in (List.mem_append_left _ (List.mem_of_getElem? (i := 145) rfl)) rfl
theorem tb_146 : (Cond.code yX0_clearDraft cX0_clearDraft 3 none) ∈ TB := tb_in (List.mem_append_left _ (List.mem_of_getElem? (i := 146) rfl)) rfl
theorem tb_147 : (Cond.methodLink RX0 37 yX0_setDraft) ∈ TB := tb_in (List.mem_append_left _ (List.mem_of_getElem? (i := 147) rfl)) rfl
theorem tq_148 : (Cond.privateMethod yX0_setDraft) ∈ tables_1 := List.mem_append_left _ (List.mem_of_getElem? (i := 148) rfl)
theorem tb_149 : (Cond.instanceMethod yX0_setDraft) ∈ TB := tb_in (List.mem_append_left _ (List.mem_of_getElem? (i := 149) rfl)) rfl
theorem tb_150 : (Cond.code yX0_setDraft cX0_setDraft 4 none) ∈ TB := tb_in (List.mem_append_left _ (List.mem_of_getElem? (i := 150) rfl)) rfl
theorem tb_151 : (Cond.methodLink RX0 171 yX0_isPlace) ∈ TB := tb_in (List.mem_append_left _ (List.mem_of_getElem? (i := 151) rfl)) rfl
theorem tb_152 : (Cond.static yX0_isPlace) ∈ TB := tb_in (List.mem_append_left _ (List.mem_of_getElem? (i := 152) rfl)) rfl
theorem tb_153 : (Cond.code yX0_isPlace cX0_isPlace 3 (some FieldType.boolean)) ∈ TB := tb_in (List.mem_append_left _ (List.mem_of_getElem? (i := 153) rfl)) rfl
theorem tb_154 : (Cond.methodLink RX0 175 yX0_place) ∈ TB := tb_in (List.mem_append_left _ (List.mem_of_getElem? (i := 154) rfl)) rfl
theorem tb_155 : (Cond.static yX0_place) ∈ TB := tb_in (List.mem_append_left _ (List.mem_of_getElem? (i := 155) rfl)) rfl
theorem tb_156 : (Cond.code yX0_place cX0_place 3 (some FieldType.int)) ∈ TB := tb_in (List.mem_append_left _ (List.mem_of_getElem? (i := 156) rfl)) rfl
theorem tb_157 : (Cond.methodLink RX0 33 yX0_reduce) ∈ TB := tb_in (List.mem_append_left _ (List.mem_of_getElem? (i := 157) rfl)) rfl
theorem tb_158 : (Cond.static yX0_reduce) ∈ TB := tb_in (List.mem_append_left _ (List.mem_of_getElem? (i := 158) rfl)) rfl
theorem tb_159 : (Cond.code yX0_reduce cX0_reduce 4 (some FieldType.int)) ∈ TB := tb_in (List.mem_append_left _ (List.mem_of_getElem? (i := 159) rfl)) rfl
theorem tb_160 : (Cond.constantLong RX0 169 (32003 : Int64)) ∈ TB := tb_in (List.mem_append_left _ (List.mem_of_getElem? (i := 160) rfl)) rfl
theorem tb_161 : (Cond.methodLink RX0 41 yX0_keepDraft) ∈ TB := tb_in (List.mem_append_left _ (List.mem_of_getElem? (i := 161) rfl)) rfl
theorem tq_162 : (Cond.privateMethod yX0_keepDraft) ∈ tables_1 := List.mem_append_left _ (List.mem_of_getElem? (i := 162) rfl)
theorem tb_163 : (Cond.instanceMethod yX0_keepDraft) ∈ TB := tb_in (List.mem_append_left _ (List.mem_of_getElem? (i := 163) rfl)) rfl
theorem tb_164 : (Cond.code yX0_keepDraft cX0_keepDraft 2 (some FieldType.int)) ∈ TB := tb_in (List.mem_append_left _ (List.mem_of_getElem? (i := 164) rfl)) rfl
theorem tb_165 : (Cond.methodLink RL 73 yL_add) ∈ TB := tb_in (List.mem_append_left _ (List.mem_of_getElem? (i := 165) rfl)) rfl
theorem tb_166 : (Cond.static yL_add) ∈ TB := tb_in (List.mem_append_left _ (List.mem_of_getElem? (i := 166) rfl)) rfl
theorem tb_167 : (Cond.codeWith yL_add cL_add 5 (some FieldType.int) [(0, 10, 13, 21), (0, 10, 17, 15)]) ∈ TB := tb_in (List.mem_append_left _ (List.mem_of_getElem? (i := 167) rfl)) rfl
theorem tb_168 : (Cond.classLink RL 21 "java/lang/IndexOutOfBoundsException") ∈ TB := tb_in (List.mem_append_left _ (List.mem_of_getElem? (i := 168) rfl)) rfl
theorem tb_169 : (Cond.methodLink RL 17 yX0_add) ∈ TB := tb_in (List.mem_append_left _ (List.mem_of_getElem? (i := 169) rfl)) rfl
theorem tb_170 : (Cond.instanceMethod yX0_add) ∈ TB := tb_in (List.mem_append_left _ (List.mem_of_getElem? (i := 170) rfl)) rfl
theorem tb_171 : (Cond.selects RX0 yX0_add yX0_add) ∈ TB := tb_in (List.mem_append_left _ (List.mem_of_getElem? (i := 171) rfl)) rfl
theorem tb_172 : (Cond.code yX0_add cX0_add 3 (some FieldType.int)) ∈ TB := tb_in (List.mem_append_left _ (List.mem_of_getElem? (i := 172) rfl)) rfl
theorem tb_173 : (Cond.methodLink RX0 45 yX0_needElement) ∈ TB := tb_in (List.mem_append_left _ (List.mem_of_getElem? (i := 173) rfl)) rfl
theorem tq_174 : (Cond.privateMethod yX0_needElement) ∈ tables_1 := List.mem_append_left _ (List.mem_of_getElem? (i := 174) rfl)
theorem tb_175 : (Cond.instanceMethod yX0_needElement) ∈ TB := tb_in (List.mem_append_left _ (List.mem_of_getElem? (i := 175) rfl)) rfl
theorem tb_176 : (Cond.code yX0_needElement cX0_needElement 2 none) ∈ TB := tb_in (List.mem_append_left _ (List.mem_of_getElem? (i := 176) rfl)) rfl
theorem tb_177 : (Cond.classLink RX0 143 "java/lang/IndexOutOfBoundsException") ∈ TB := tb_in (List.mem_append_left _ (List.mem_of_getElem? (i := 177) rfl)) rfl
theorem tb_178 : (Cond.instantiable "java/lang/IndexOutOfBoundsException" 6) ∈ TB := tb_in (List.mem_append_left _ (List.mem_of_getElem? (i := 178) rfl)) rfl
theorem tq_179 : (Cond.castable "java/lang/IndexOutOfBoundsException" "java/lang/IndexOutOfBoundsException") ∈ tables_1 := List.mem_append_left _ (List.mem_of_getElem? (i := 179) rfl)
theorem tb_180 : (Cond.selects "java/lang/IndexOutOfBoundsException" (⟨"java/lang/Throwable", "fillInStackTrace", "(I)Ljava/lang/Throwable;"⟩ : MethodName) (⟨"java/lang/Throwable", "fillInStackTrace", "(I)Ljava/lang/Throwable;"⟩ : MethodName)) ∈ TB := tb_in (List.mem_append_left _ (List.mem_of_getElem? (i := 180) rfl)) rfl
theorem tb_181 : (Cond.lays "java/lang/IndexOutOfBoundsException" "java/lang/Throwable" "cause" "Ljava/lang/Throwable;") ∈ TB := tb_in (List.mem_append_left _ (List.mem_of_getElem? (i := 181) rfl)) rfl
theorem tb_182 : (Cond.lays "java/lang/IndexOutOfBoundsException" "java/lang/Throwable" "stackTrace" "[Ljava/lang/StackTraceElement;") ∈ TB := tb_in (List.mem_append_left _ (List.mem_of_getElem? (i := 182) rfl)) rfl
theorem tb_183 : (Cond.lays "java/lang/IndexOutOfBoundsException" "java/lang/Throwable" "suppressedExceptions" "Ljava/util/List;") ∈ TB := tb_in (List.mem_append_left _ (List.mem_of_getElem? (i := 183) rfl)) rfl
theorem tb_184 : (Cond.lays "java/lang/IndexOutOfBoundsException" "java/lang/Throwable" "detailMessage" "Ljava/lang/String;") ∈ TB := tb_in (List.mem_append_left _ (List.mem_of_getElem? (i := 184) rfl)) rfl
theorem tb_185 : (Cond.lays "java/lang/IndexOutOfBoundsException" "java/lang/Throwable" "backtrace" "Ljava/lang/Object;") ∈ TB := tb_in (List.mem_append_left _ (List.mem_of_getElem? (i := 185) rfl)) rfl
theorem tq_186 : (Cond.stringRef RX0 145 "no such element") ∈ tables_1 := List.mem_append_left _ (List.mem_of_getElem? (i := 186) rfl)
theorem tb_187 : (Cond.methodLink RX0 147 (⟨"java/lang/IndexOutOfBoundsException", "<init>", "(Ljava/lang/String;)V"⟩ : MethodName)) ∈ TB := tb_in (List.mem_append_left _ (List.mem_of_getElem? (i := 187) rfl)) rfl
theorem tb_188 : (Cond.instanceMethod (⟨"java/lang/IndexOutOfBoundsException", "<init>", "(Ljava/lang/String;)V"⟩ : MethodName)) ∈ TB := tb_in (List.mem_append_left _ (List.mem_of_getElem? (i := 188) rfl)) rfl
theorem tb_189 : (Cond.code (⟨"java/lang/IndexOutOfBoundsException", "<init>", "(Ljava/lang/String;)V"⟩ : MethodName) prog_7_method_2_code 2 none) ∈ TB := tb_in (List.mem_append_left _ (List.mem_of_getElem? (i := 189) rfl)) rfl
theorem tb_190 : (Cond.methodLink "java/lang/IndexOutOfBoundsException" 7 (⟨"java/lang/RuntimeException", "<init>", "(Ljava/lang/String;)V"⟩ : MethodName)) ∈ TB := tb_in (List.mem_append_left _ (List.mem_of_getElem? (i := 190) rfl)) rfl
theorem tb_191 : (Cond.lays "java/lang/IndexOutOfBoundsException" "java/lang/Throwable" "depth" "I") ∈ TB := tb_in (List.mem_append_left _ (List.mem_of_getElem? (i := 191) rfl)) rfl
theorem tb_192 : (Cond.superclass "java/lang/IndexOutOfBoundsException" "java/lang/RuntimeException") ∈ TB := tb_in (List.mem_append_left _ (List.mem_of_getElem? (i := 192) rfl)) rfl
theorem tb_193 : (Cond.methodLink RX0 48 yX0_draftSum) ∈ TB := tb_in (List.mem_append_left _ (List.mem_of_getElem? (i := 193) rfl)) rfl
theorem tq_194 : (Cond.privateMethod yX0_draftSum) ∈ tables_1 := List.mem_append_left _ (List.mem_of_getElem? (i := 194) rfl)
theorem tb_195 : (Cond.instanceMethod yX0_draftSum) ∈ TB := tb_in (List.mem_append_left _ (List.mem_of_getElem? (i := 195) rfl)) rfl
theorem tb_196 : (Cond.code yX0_draftSum cX0_draftSum 6 none) ∈ TB := tb_in (List.mem_append_left _ (List.mem_of_getElem? (i := 196) rfl)) rfl
theorem tb_197 : (Cond.methodLink RX0 105 yX0_number) ∈ TB := tb_in (List.mem_append_left _ (List.mem_of_getElem? (i := 197) rfl)) rfl
theorem tq_198 : (Cond.privateMethod yX0_number) ∈ tables_1 := List.mem_append_left _ (List.mem_of_getElem? (i := 198) rfl)
theorem tb_199 : (Cond.instanceMethod yX0_number) ∈ TB := tb_in (List.mem_append_left _ (List.mem_of_getElem? (i := 199) rfl)) rfl
theorem tb_200 : (Cond.code yX0_number cX0_number 4 (some FieldType.int)) ∈ TB := tb_in (List.mem_append_left _ (List.mem_of_getElem? (i := 200) rfl)) rfl
theorem tb_201 : (Cond.methodLink RL 77 yL_less) ∈ TB := tb_in (List.mem_append_left _ (List.mem_of_getElem? (i := 201) rfl)) rfl
theorem tb_202 : (Cond.static yL_less) ∈ TB := tb_in (List.mem_append_left _ (List.mem_of_getElem? (i := 202) rfl)) rfl
theorem tb_203 : (Cond.codeWith yL_less cL_less 7 (some FieldType.int) [(0, 12, 15, 21), (0, 12, 19, 15)]) ∈ TB := tb_in (List.mem_append_left _ (List.mem_of_getElem? (i := 203) rfl)) rfl
theorem tb_204 : (Cond.methodLink RL 23 yX0_less) ∈ TB := tb_in (List.mem_append_left _ (List.mem_of_getElem? (i := 204) rfl)) rfl
theorem tb_205 : (Cond.instanceMethod yX0_less) ∈ TB := tb_in (List.mem_append_left _ (List.mem_of_getElem? (i := 205) rfl)) rfl
theorem tb_206 : (Cond.selects RX0 yX0_less yX0_less) ∈ TB := tb_in (List.mem_append_left _ (List.mem_of_getElem? (i := 206) rfl)) rfl
theorem tb_207 : (Cond.code yX0_less cX0_less 5 (some FieldType.int)) ∈ TB := tb_in (List.mem_append_left _ (List.mem_of_getElem? (i := 207) rfl)) rfl
theorem tb_208 : (Cond.methodLink RL 80 yL_times) ∈ TB := tb_in (List.mem_append_left _ (List.mem_of_getElem? (i := 208) rfl)) rfl
theorem tb_209 : (Cond.static yL_times) ∈ TB := tb_in (List.mem_append_left _ (List.mem_of_getElem? (i := 209) rfl)) rfl
theorem tb_210 : (Cond.codeWith yL_times cL_times 5 (some FieldType.int) [(0, 10, 13, 21), (0, 10, 17, 15)]) ∈ TB := tb_in (List.mem_append_left _ (List.mem_of_getElem? (i := 210) rfl)) rfl
theorem tb_211 : (Cond.methodLink RL 26 yX0_times) ∈ TB := tb_in (List.mem_append_left _ (List.mem_of_getElem? (i := 211) rfl)) rfl
theorem tb_212 : (Cond.instanceMethod yX0_times) ∈ TB := tb_in (List.mem_append_left _ (List.mem_of_getElem? (i := 212) rfl)) rfl
theorem tb_213 : (Cond.selects RX0 yX0_times yX0_times) ∈ TB := tb_in (List.mem_append_left _ (List.mem_of_getElem? (i := 213) rfl)) rfl
theorem tb_214 : (Cond.code yX0_times cX0_times 3 (some FieldType.int)) ∈ TB := tb_in (List.mem_append_left _ (List.mem_of_getElem? (i := 214) rfl)) rfl
theorem tb_215 : (Cond.methodLink RX0 51 yX0_logMeetsExponential) ∈ TB := tb_in (List.mem_append_left _ (List.mem_of_getElem? (i := 215) rfl)) rfl
theorem tq_216 : (Cond.privateMethod yX0_logMeetsExponential) ∈ tables_1 := List.mem_append_left _ (List.mem_of_getElem? (i := 216) rfl)
theorem tb_217 : (Cond.instanceMethod yX0_logMeetsExponential) ∈ TB := tb_in (List.mem_append_left _ (List.mem_of_getElem? (i := 217) rfl)) rfl
theorem tb_218 : (Cond.code yX0_logMeetsExponential cX0_logMeetsExponential 3 (some FieldType.boolean)) ∈ TB := tb_in (List.mem_append_left _ (List.mem_of_getElem? (i := 218) rfl)) rfl
theorem tb_219 : (Cond.methodLink RX0 109 yX0_countTerms) ∈ TB := tb_in (List.mem_append_left _ (List.mem_of_getElem? (i := 219) rfl)) rfl
theorem tq_220 : (Cond.privateMethod yX0_countTerms) ∈ tables_1 := List.mem_append_left _ (List.mem_of_getElem? (i := 220) rfl)
theorem tb_221 : (Cond.instanceMethod yX0_countTerms) ∈ TB := tb_in (List.mem_append_left _ (List.mem_of_getElem? (i := 221) rfl)) rfl
theorem tb_222 : (Cond.code yX0_countTerms cX0_countTerms 7 (some FieldType.int)) ∈ TB := tb_in (List.mem_append_left _ (List.mem_of_getElem? (i := 222) rfl)) rfl
theorem tq_223 : (Cond.stringRef RX0 57 "a product of L and E") ∈ tables_1 := List.mem_append_left _ (List.mem_of_getElem? (i := 223) rfl)
theorem tb_224 : (Cond.methodLink RX0 62 yX0_sumUpProduct) ∈ TB := tb_in (List.mem_append_left _ (List.mem_of_getElem? (i := 224) rfl)) rfl
theorem tq_225 : (Cond.privateMethod yX0_sumUpProduct) ∈ tables_1 := List.mem_append_left _ (List.mem_of_getElem? (i := 225) rfl)
theorem tb_226 : (Cond.instanceMethod yX0_sumUpProduct) ∈ TB := tb_in (List.mem_append_left _ (List.mem_of_getElem? (i := 226) rfl)) rfl
theorem tb_227 : (Cond.code yX0_sumUpProduct cX0_sumUpProduct 6 none) ∈ TB := tb_in (List.mem_append_left _ (List.mem_of_getElem? (i := 227) rfl)) rfl
theorem tb_228 : (Cond.methodLink RX0 178 yX0_clearWide) ∈ TB := tb_in (List.mem_append_left _ (List.mem_of_getElem? (i := 228) rfl)) rfl
theorem tq_229 : (Cond.privateMethod yX0_clearWide) ∈ tables_1 := List.mem_append_left _ (List.mem_of_getElem? (i := 229) rfl)
theorem tb_230 : (Cond.instanceMethod yX0_clearWide) ∈ TB := tb_in (List.mem_append_left _ (List.mem_of_getElem? (i := 230) rfl)) rfl
theorem tb_231 : (Cond.code yX0_clearWide cX0_clearWide 2 none) ∈ TB := tb_in (List.mem_append_left _ (List.mem_of_getElem? (i := 231) rfl)) rfl
theorem tb_232 : (Cond.methodLink RX0 181 yX0_addMultiple) ∈ TB := tb_in (List.mem_append_left _ (List.mem_of_getElem? (i := 232) rfl)) rfl
theorem tq_233 : (Cond.privateMethod yX0_addMultiple) ∈ tables_1 := List.mem_append_left _ (List.mem_of_getElem? (i := 233) rfl)
theorem tb_234 : (Cond.instanceMethod yX0_addMultiple) ∈ TB := tb_in (List.mem_append_left _ (List.mem_of_getElem? (i := 234) rfl)) rfl
theorem tb_235 : (Cond.code yX0_addMultiple cX0_addMultiple 8 none) ∈ TB := tb_in (List.mem_append_left _ (List.mem_of_getElem? (i := 235) rfl)) rfl
theorem tb_236 : (Cond.methodLink RX0 185 yX0_wideKind) ∈ TB := tb_in (List.mem_append_left _ (List.mem_of_getElem? (i := 236) rfl)) rfl
theorem tb_237 : (Cond.static yX0_wideKind) ∈ TB := tb_in (List.mem_append_left _ (List.mem_of_getElem? (i := 237) rfl)) rfl
theorem tb_238 : (Cond.code yX0_wideKind cX0_wideKind 3 (some FieldType.int)) ∈ TB := tb_in (List.mem_append_left _ (List.mem_of_getElem? (i := 238) rfl)) rfl
theorem tb_239 : (Cond.methodLink RX0 122 yX0_exponentialPower) ∈ TB := tb_in (List.mem_append_left _ (List.mem_of_getElem? (i := 239) rfl)) rfl
theorem tb_240 : (Cond.static yX0_exponentialPower) ∈ TB := tb_in (List.mem_append_right _ (List.mem_append_left _ (List.mem_of_getElem? (i := 0) rfl))) rfl
theorem tb_241 : (Cond.code yX0_exponentialPower cX0_exponentialPower 1 (some FieldType.int)) ∈ TB := tb_in (List.mem_append_right _ (List.mem_append_left _ (List.mem_of_getElem? (i := 1) rfl))) rfl
theorem tb_242 : (Cond.fieldLink RX0 166 RX0 "E_POWER" "[I") ∈ TB := tb_in (List.mem_append_right _ (List.mem_append_left _ (List.mem_of_getElem? (i := 2) rfl))) rfl
theorem tq_243 : (Cond.laysStatic RX0 "E_POWER" "[I") ∈ tables_1 := List.mem_append_right _ (List.mem_append_left _ (List.mem_of_getElem? (i := 3) rfl))
theorem tb_244 : (Cond.methodLink RX0 125 yX0_logPower) ∈ TB := tb_in (List.mem_append_right _ (List.mem_append_left _ (List.mem_of_getElem? (i := 4) rfl))) rfl
theorem tb_245 : (Cond.static yX0_logPower) ∈ TB := tb_in (List.mem_append_right _ (List.mem_append_left _ (List.mem_of_getElem? (i := 5) rfl))) rfl
theorem tb_246 : (Cond.code yX0_logPower cX0_logPower 1 (some FieldType.int)) ∈ TB := tb_in (List.mem_append_right _ (List.mem_append_left _ (List.mem_of_getElem? (i := 6) rfl))) rfl
theorem tb_247 : (Cond.fieldLink RX0 163 RX0 "L_POWER" "[I") ∈ TB := tb_in (List.mem_append_right _ (List.mem_append_left _ (List.mem_of_getElem? (i := 7) rfl))) rfl
theorem tq_248 : (Cond.laysStatic RX0 "L_POWER" "[I") ∈ tables_1 := List.mem_append_right _ (List.mem_append_left _ (List.mem_of_getElem? (i := 8) rfl))
theorem tb_249 : (Cond.methodLink RX0 188 yX0_addWide) ∈ TB := tb_in (List.mem_append_right _ (List.mem_append_left _ (List.mem_of_getElem? (i := 9) rfl))) rfl
theorem tq_250 : (Cond.privateMethod yX0_addWide) ∈ tables_1 := List.mem_append_right _ (List.mem_append_left _ (List.mem_of_getElem? (i := 10) rfl))
theorem tb_251 : (Cond.instanceMethod yX0_addWide) ∈ TB := tb_in (List.mem_append_right _ (List.mem_append_left _ (List.mem_of_getElem? (i := 11) rfl))) rfl
theorem tb_252 : (Cond.code yX0_addWide cX0_addWide 6 none) ∈ TB := tb_in (List.mem_append_right _ (List.mem_append_left _ (List.mem_of_getElem? (i := 12) rfl))) rfl
theorem tb_253 : (Cond.methodLink RX0 192 yX0_isWidePlace) ∈ TB := tb_in (List.mem_append_right _ (List.mem_append_left _ (List.mem_of_getElem? (i := 13) rfl))) rfl
theorem tb_254 : (Cond.static yX0_isWidePlace) ∈ TB := tb_in (List.mem_append_right _ (List.mem_append_left _ (List.mem_of_getElem? (i := 14) rfl))) rfl
theorem tb_255 : (Cond.code yX0_isWidePlace cX0_isWidePlace 2 (some FieldType.boolean)) ∈ TB := tb_in (List.mem_append_right _ (List.mem_append_left _ (List.mem_of_getElem? (i := 15) rfl))) rfl
theorem tb_256 : (Cond.methodLink RX0 195 yX0_widePlace) ∈ TB := tb_in (List.mem_append_right _ (List.mem_append_left _ (List.mem_of_getElem? (i := 16) rfl))) rfl
theorem tb_257 : (Cond.static yX0_widePlace) ∈ TB := tb_in (List.mem_append_right _ (List.mem_append_left _ (List.mem_of_getElem? (i := 17) rfl))) rfl
theorem tb_258 : (Cond.code yX0_widePlace cX0_widePlace 2 (some FieldType.int)) ∈ TB := tb_in (List.mem_append_right _ (List.mem_append_left _ (List.mem_of_getElem? (i := 18) rfl))) rfl
theorem tb_259 : (Cond.methodLink RX0 66 yX0_productIsTooFar) ∈ TB := tb_in (List.mem_append_right _ (List.mem_append_left _ (List.mem_of_getElem? (i := 19) rfl))) rfl
theorem tq_260 : (Cond.privateMethod yX0_productIsTooFar) ∈ tables_1 := List.mem_append_right _ (List.mem_append_left _ (List.mem_of_getElem? (i := 20) rfl))
theorem tb_261 : (Cond.instanceMethod yX0_productIsTooFar) ∈ TB := tb_in (List.mem_append_right _ (List.mem_append_left _ (List.mem_of_getElem? (i := 21) rfl))) rfl
theorem tb_262 : (Cond.code yX0_productIsTooFar cX0_productIsTooFar 4 (some FieldType.boolean)) ∈ TB := tb_in (List.mem_append_right _ (List.mem_append_left _ (List.mem_of_getElem? (i := 22) rfl))) rfl
theorem tb_263 : (Cond.methodLink RX0 198 yX0_isKnownWideKind) ∈ TB := tb_in (List.mem_append_right _ (List.mem_append_left _ (List.mem_of_getElem? (i := 23) rfl))) rfl
theorem tb_264 : (Cond.static yX0_isKnownWideKind) ∈ TB := tb_in (List.mem_append_right _ (List.mem_append_left _ (List.mem_of_getElem? (i := 24) rfl))) rfl
theorem tb_265 : (Cond.code yX0_isKnownWideKind cX0_isKnownWideKind 2 (some FieldType.boolean)) ∈ TB := tb_in (List.mem_append_right _ (List.mem_append_left _ (List.mem_of_getElem? (i := 25) rfl))) rfl
theorem tb_266 : (Cond.methodLink RX0 201 yX0_wideNumber) ∈ TB := tb_in (List.mem_append_right _ (List.mem_append_left _ (List.mem_of_getElem? (i := 26) rfl))) rfl
theorem tq_267 : (Cond.privateMethod yX0_wideNumber) ∈ tables_1 := List.mem_append_right _ (List.mem_append_left _ (List.mem_of_getElem? (i := 27) rfl))
theorem tb_268 : (Cond.instanceMethod yX0_wideNumber) ∈ TB := tb_in (List.mem_append_right _ (List.mem_append_left _ (List.mem_of_getElem? (i := 28) rfl))) rfl
theorem tb_269 : (Cond.code yX0_wideNumber cX0_wideNumber 3 (some FieldType.int)) ∈ TB := tb_in (List.mem_append_right _ (List.mem_append_left _ (List.mem_of_getElem? (i := 29) rfl))) rfl
theorem tq_270 : (Cond.stringRef RX0 70 "the product is too far") ∈ tables_1 := List.mem_append_right _ (List.mem_append_left _ (List.mem_of_getElem? (i := 30) rfl))
theorem tb_271 : (Cond.methodLink RX0 72 yX0_draftProduct) ∈ TB := tb_in (List.mem_append_right _ (List.mem_append_left _ (List.mem_of_getElem? (i := 31) rfl))) rfl
theorem tq_272 : (Cond.privateMethod yX0_draftProduct) ∈ tables_1 := List.mem_append_right _ (List.mem_append_left _ (List.mem_of_getElem? (i := 32) rfl))
theorem tb_273 : (Cond.instanceMethod yX0_draftProduct) ∈ TB := tb_in (List.mem_append_right _ (List.mem_append_left _ (List.mem_of_getElem? (i := 33) rfl))) rfl
theorem tb_274 : (Cond.code yX0_draftProduct cX0_draftProduct 3 none) ∈ TB := tb_in (List.mem_append_right _ (List.mem_append_left _ (List.mem_of_getElem? (i := 34) rfl))) rfl
theorem tb_275 : (Cond.methodLink RL 83 yL_derive) ∈ TB := tb_in (List.mem_append_right _ (List.mem_append_left _ (List.mem_of_getElem? (i := 35) rfl))) rfl
theorem tb_276 : (Cond.static yL_derive) ∈ TB := tb_in (List.mem_append_right _ (List.mem_append_left _ (List.mem_of_getElem? (i := 36) rfl))) rfl
theorem tb_277 : (Cond.codeWith yL_derive cL_derive 4 (some FieldType.int) [(0, 9, 12, 21), (0, 9, 15, 15)]) ∈ TB := tb_in (List.mem_append_right _ (List.mem_append_left _ (List.mem_of_getElem? (i := 37) rfl))) rfl
theorem tb_278 : (Cond.methodLink RL 29 yX0_derive) ∈ TB := tb_in (List.mem_append_right _ (List.mem_append_left _ (List.mem_of_getElem? (i := 38) rfl))) rfl
theorem tb_279 : (Cond.instanceMethod yX0_derive) ∈ TB := tb_in (List.mem_append_right _ (List.mem_append_left _ (List.mem_of_getElem? (i := 39) rfl))) rfl
theorem tb_280 : (Cond.selects RX0 yX0_derive yX0_derive) ∈ TB := tb_in (List.mem_append_right _ (List.mem_append_left _ (List.mem_of_getElem? (i := 40) rfl))) rfl
theorem tb_281 : (Cond.code yX0_derive cX0_derive 2 (some FieldType.int)) ∈ TB := tb_in (List.mem_append_right _ (List.mem_append_left _ (List.mem_of_getElem? (i := 41) rfl))) rfl
theorem tb_282 : (Cond.methodLink RX0 75 yX0_slopeIsTooFar) ∈ TB := tb_in (List.mem_append_right _ (List.mem_append_left _ (List.mem_of_getElem? (i := 42) rfl))) rfl
theorem tq_283 : (Cond.privateMethod yX0_slopeIsTooFar) ∈ tables_1 := List.mem_append_right _ (List.mem_append_left _ (List.mem_of_getElem? (i := 43) rfl))
theorem tb_284 : (Cond.instanceMethod yX0_slopeIsTooFar) ∈ TB := tb_in (List.mem_append_right _ (List.mem_append_left _ (List.mem_of_getElem? (i := 44) rfl))) rfl
theorem tb_285 : (Cond.code yX0_slopeIsTooFar cX0_slopeIsTooFar 3 (some FieldType.boolean)) ∈ TB := tb_in (List.mem_append_right _ (List.mem_append_left _ (List.mem_of_getElem? (i := 45) rfl))) rfl
theorem tb_286 : (Cond.methodLink RX0 204 yX0_slopeNumber) ∈ TB := tb_in (List.mem_append_right _ (List.mem_append_left _ (List.mem_of_getElem? (i := 46) rfl))) rfl
theorem tq_287 : (Cond.privateMethod yX0_slopeNumber) ∈ tables_1 := List.mem_append_right _ (List.mem_append_left _ (List.mem_of_getElem? (i := 47) rfl))
theorem tb_288 : (Cond.instanceMethod yX0_slopeNumber) ∈ TB := tb_in (List.mem_append_right _ (List.mem_append_left _ (List.mem_of_getElem? (i := 48) rfl))) rfl
theorem tb_289 : (Cond.code yX0_slopeNumber cX0_slopeNumber 6 (some FieldType.int)) ∈ TB := tb_in (List.mem_append_right _ (List.mem_append_left _ (List.mem_of_getElem? (i := 49) rfl))) rfl
theorem tq_290 : (Cond.stringRef RX0 79 "the slope is too far") ∈ tables_1 := List.mem_append_right _ (List.mem_append_left _ (List.mem_of_getElem? (i := 50) rfl))
theorem tb_291 : (Cond.methodLink RX0 81 yX0_draftSlope) ∈ TB := tb_in (List.mem_append_right _ (List.mem_append_left _ (List.mem_of_getElem? (i := 51) rfl))) rfl
theorem tq_292 : (Cond.privateMethod yX0_draftSlope) ∈ tables_1 := List.mem_append_right _ (List.mem_append_left _ (List.mem_of_getElem? (i := 52) rfl))
theorem tb_293 : (Cond.instanceMethod yX0_draftSlope) ∈ TB := tb_in (List.mem_append_right _ (List.mem_append_left _ (List.mem_of_getElem? (i := 53) rfl))) rfl
theorem tb_294 : (Cond.code yX0_draftSlope cX0_draftSlope 4 none) ∈ TB := tb_in (List.mem_append_right _ (List.mem_append_left _ (List.mem_of_getElem? (i := 54) rfl))) rfl
theorem tb_295 : (Cond.methodLink RL 87 yL_integrate) ∈ TB := tb_in (List.mem_append_right _ (List.mem_append_left _ (List.mem_of_getElem? (i := 55) rfl))) rfl
theorem tb_296 : (Cond.static yL_integrate) ∈ TB := tb_in (List.mem_append_right _ (List.mem_append_left _ (List.mem_of_getElem? (i := 56) rfl))) rfl
theorem tb_297 : (Cond.codeWith yL_integrate cL_integrate 4 (some FieldType.int) [(0, 9, 12, 21), (0, 9, 15, 15)]) ∈ TB := tb_in (List.mem_append_right _ (List.mem_append_left _ (List.mem_of_getElem? (i := 57) rfl))) rfl
theorem tb_298 : (Cond.methodLink RL 33 yX0_integrate) ∈ TB := tb_in (List.mem_append_right _ (List.mem_append_left _ (List.mem_of_getElem? (i := 58) rfl))) rfl
theorem tb_299 : (Cond.instanceMethod yX0_integrate) ∈ TB := tb_in (List.mem_append_right _ (List.mem_append_left _ (List.mem_of_getElem? (i := 59) rfl))) rfl
theorem tb_300 : (Cond.selects RX0 yX0_integrate yX0_integrate) ∈ TB := tb_in (List.mem_append_right _ (List.mem_append_left _ (List.mem_of_getElem? (i := 60) rfl))) rfl
theorem tb_301 : (Cond.code yX0_integrate cX0_integrate 2 (some FieldType.int)) ∈ TB := tb_in (List.mem_append_right _ (List.mem_append_left _ (List.mem_of_getElem? (i := 61) rfl))) rfl
theorem tb_302 : (Cond.methodLink RX0 84 yX0_hasRest) ∈ TB := tb_in (List.mem_append_right _ (List.mem_append_left _ (List.mem_of_getElem? (i := 62) rfl))) rfl
theorem tq_303 : (Cond.privateMethod yX0_hasRest) ∈ tables_1 := List.mem_append_right _ (List.mem_append_left _ (List.mem_of_getElem? (i := 63) rfl))
theorem tb_304 : (Cond.instanceMethod yX0_hasRest) ∈ TB := tb_in (List.mem_append_right _ (List.mem_append_left _ (List.mem_of_getElem? (i := 64) rfl))) rfl
theorem tb_305 : (Cond.code yX0_hasRest cX0_hasRest 3 (some FieldType.boolean)) ∈ TB := tb_in (List.mem_append_right _ (List.mem_append_left _ (List.mem_of_getElem? (i := 65) rfl))) rfl
theorem tb_306 : (Cond.methodLink RX0 101 yX0_restOf) ∈ TB := tb_in (List.mem_append_right _ (List.mem_append_left _ (List.mem_of_getElem? (i := 66) rfl))) rfl
theorem tq_307 : (Cond.privateMethod yX0_restOf) ∈ tables_1 := List.mem_append_right _ (List.mem_append_left _ (List.mem_of_getElem? (i := 67) rfl))
theorem tb_308 : (Cond.instanceMethod yX0_restOf) ∈ TB := tb_in (List.mem_append_right _ (List.mem_append_left _ (List.mem_of_getElem? (i := 68) rfl))) rfl
theorem tb_309 : (Cond.code yX0_restOf cX0_restOf 6 (some FieldType.int)) ∈ TB := tb_in (List.mem_append_right _ (List.mem_append_left _ (List.mem_of_getElem? (i := 69) rfl))) rfl
theorem tb_310 : (Cond.methodLink RX0 207 yX0_divide) ∈ TB := tb_in (List.mem_append_right _ (List.mem_append_left _ (List.mem_of_getElem? (i := 70) rfl))) rfl
theorem tb_311 : (Cond.static yX0_divide) ∈ TB := tb_in (List.mem_append_right _ (List.mem_append_left _ (List.mem_of_getElem? (i := 71) rfl))) rfl
theorem tb_312 : (Cond.code yX0_divide cX0_divide 3 (some FieldType.int)) ∈ TB := tb_in (List.mem_append_right _ (List.mem_append_left _ (List.mem_of_getElem? (i := 72) rfl))) rfl
theorem tb_313 : (Cond.methodLink RX0 118 yX0_inverse) ∈ TB := tb_in (List.mem_append_right _ (List.mem_append_left _ (List.mem_of_getElem? (i := 73) rfl))) rfl
theorem tb_314 : (Cond.static yX0_inverse) ∈ TB := tb_in (List.mem_append_right _ (List.mem_append_left _ (List.mem_of_getElem? (i := 74) rfl))) rfl
theorem tb_315 : (Cond.code yX0_inverse cX0_inverse 1 (some FieldType.int)) ∈ TB := tb_in (List.mem_append_right _ (List.mem_append_left _ (List.mem_of_getElem? (i := 75) rfl))) rfl
theorem tb_316 : (Cond.methodLink RX0 128 yX0_power) ∈ TB := tb_in (List.mem_append_right _ (List.mem_append_left _ (List.mem_of_getElem? (i := 76) rfl))) rfl
theorem tb_317 : (Cond.static yX0_power) ∈ TB := tb_in (List.mem_append_right _ (List.mem_append_left _ (List.mem_of_getElem? (i := 77) rfl))) rfl
theorem tb_318 : (Cond.code yX0_power cX0_power 4 (some FieldType.int)) ∈ TB := tb_in (List.mem_append_right _ (List.mem_append_left _ (List.mem_of_getElem? (i := 78) rfl))) rfl
theorem tb_319 : (Cond.methodLink RX0 136 yX0_multiply) ∈ TB := tb_in (List.mem_append_right _ (List.mem_append_left _ (List.mem_of_getElem? (i := 79) rfl))) rfl
theorem tb_320 : (Cond.static yX0_multiply) ∈ TB := tb_in (List.mem_append_right _ (List.mem_append_left _ (List.mem_of_getElem? (i := 80) rfl))) rfl
theorem tb_321 : (Cond.code yX0_multiply cX0_multiply 2 (some FieldType.int)) ∈ TB := tb_in (List.mem_append_right _ (List.mem_append_left _ (List.mem_of_getElem? (i := 81) rfl))) rfl
theorem tb_322 : (Cond.methodLink RX0 87 yX0_integralIsTooFar) ∈ TB := tb_in (List.mem_append_right _ (List.mem_append_left _ (List.mem_of_getElem? (i := 82) rfl))) rfl
theorem tq_323 : (Cond.privateMethod yX0_integralIsTooFar) ∈ tables_1 := List.mem_append_right _ (List.mem_append_left _ (List.mem_of_getElem? (i := 83) rfl))
theorem tb_324 : (Cond.instanceMethod yX0_integralIsTooFar) ∈ TB := tb_in (List.mem_append_right _ (List.mem_append_left _ (List.mem_of_getElem? (i := 84) rfl))) rfl
theorem tb_325 : (Cond.code yX0_integralIsTooFar cX0_integralIsTooFar 3 (some FieldType.boolean)) ∈ TB := tb_in (List.mem_append_right _ (List.mem_append_left _ (List.mem_of_getElem? (i := 85) rfl))) rfl
theorem tq_326 : (Cond.stringRef RX0 90 "the integral is too far") ∈ tables_1 := List.mem_append_right _ (List.mem_append_left _ (List.mem_of_getElem? (i := 86) rfl))
theorem tb_327 : (Cond.methodLink RX0 92 yX0_draftLogIntegral) ∈ TB := tb_in (List.mem_append_right _ (List.mem_append_left _ (List.mem_of_getElem? (i := 87) rfl))) rfl
theorem tq_328 : (Cond.privateMethod yX0_draftLogIntegral) ∈ tables_1 := List.mem_append_right _ (List.mem_append_left _ (List.mem_of_getElem? (i := 88) rfl))
theorem tb_329 : (Cond.instanceMethod yX0_draftLogIntegral) ∈ TB := tb_in (List.mem_append_right _ (List.mem_append_left _ (List.mem_of_getElem? (i := 89) rfl))) rfl
theorem tb_330 : (Cond.code yX0_draftLogIntegral cX0_draftLogIntegral 5 none) ∈ TB := tb_in (List.mem_append_right _ (List.mem_append_left _ (List.mem_of_getElem? (i := 90) rfl))) rfl
theorem tb_331 : (Cond.methodLink RX0 95 yX0_draftConstantPowerIntegral) ∈ TB := tb_in (List.mem_append_right _ (List.mem_append_left _ (List.mem_of_getElem? (i := 91) rfl))) rfl
theorem tq_332 : (Cond.privateMethod yX0_draftConstantPowerIntegral) ∈ tables_1 := List.mem_append_right _ (List.mem_append_left _ (List.mem_of_getElem? (i := 92) rfl))
theorem tb_333 : (Cond.instanceMethod yX0_draftConstantPowerIntegral) ∈ TB := tb_in (List.mem_append_right _ (List.mem_append_left _ (List.mem_of_getElem? (i := 93) rfl))) rfl
theorem tb_334 : (Cond.code yX0_draftConstantPowerIntegral cX0_draftConstantPowerIntegral 3 none) ∈ TB := tb_in (List.mem_append_right _ (List.mem_append_left _ (List.mem_of_getElem? (i := 94) rfl))) rfl
theorem tb_335 : (Cond.methodLink RX0 98 yX0_draftExponentialIntegral) ∈ TB := tb_in (List.mem_append_right _ (List.mem_append_left _ (List.mem_of_getElem? (i := 95) rfl))) rfl
theorem tq_336 : (Cond.privateMethod yX0_draftExponentialIntegral) ∈ tables_1 := List.mem_append_right _ (List.mem_append_left _ (List.mem_of_getElem? (i := 96) rfl))
theorem tb_337 : (Cond.instanceMethod yX0_draftExponentialIntegral) ∈ TB := tb_in (List.mem_append_right _ (List.mem_append_left _ (List.mem_of_getElem? (i := 97) rfl))) rfl
theorem tb_338 : (Cond.code yX0_draftExponentialIntegral cX0_draftExponentialIntegral 5 none) ∈ TB := tb_in (List.mem_append_right _ (List.mem_append_left _ (List.mem_of_getElem? (i := 98) rfl))) rfl
theorem tb_339 : (Cond.methodLink RL 90 yL_rest) ∈ TB := tb_in (List.mem_append_right _ (List.mem_append_left _ (List.mem_of_getElem? (i := 99) rfl))) rfl
theorem tb_340 : (Cond.static yL_rest) ∈ TB := tb_in (List.mem_append_right _ (List.mem_append_left _ (List.mem_of_getElem? (i := 100) rfl))) rfl
theorem tb_341 : (Cond.codeWith yL_rest cL_rest 5 (some FieldType.int) [(0, 10, 13, 21), (0, 10, 17, 13)]) ∈ TB := tb_in (List.mem_append_right _ (List.mem_append_left _ (List.mem_of_getElem? (i := 101) rfl))) rfl
theorem tb_342 : (Cond.methodLink RL 36 yX0_rest) ∈ TB := tb_in (List.mem_append_right _ (List.mem_append_left _ (List.mem_of_getElem? (i := 102) rfl))) rfl
theorem tb_343 : (Cond.instanceMethod yX0_rest) ∈ TB := tb_in (List.mem_append_right _ (List.mem_append_left _ (List.mem_of_getElem? (i := 103) rfl))) rfl
theorem tb_344 : (Cond.selects RX0 yX0_rest yX0_rest) ∈ TB := tb_in (List.mem_append_right _ (List.mem_append_left _ (List.mem_of_getElem? (i := 104) rfl))) rfl
theorem tb_345 : (Cond.code yX0_rest cX0_rest 3 (some FieldType.int)) ∈ TB := tb_in (List.mem_append_right _ (List.mem_append_left _ (List.mem_of_getElem? (i := 105) rfl))) rfl
theorem tb_346 : (Cond.methodLink RL 93 yL_at) ∈ TB := tb_in (List.mem_append_right _ (List.mem_append_left _ (List.mem_of_getElem? (i := 106) rfl))) rfl
theorem tb_347 : (Cond.static yL_at) ∈ TB := tb_in (List.mem_append_right _ (List.mem_append_left _ (List.mem_of_getElem? (i := 107) rfl))) rfl
theorem tb_348 : (Cond.codeWith yL_at cL_at 6 (some FieldType.int) [(0, 12, 15, 21), (0, 12, 19, 13)]) ∈ TB := tb_in (List.mem_append_right _ (List.mem_append_left _ (List.mem_of_getElem? (i := 108) rfl))) rfl
theorem tb_349 : (Cond.methodLink RL 39 yX0_at) ∈ TB := tb_in (List.mem_append_right _ (List.mem_append_left _ (List.mem_of_getElem? (i := 109) rfl))) rfl
theorem tb_350 : (Cond.instanceMethod yX0_at) ∈ TB := tb_in (List.mem_append_right _ (List.mem_append_left _ (List.mem_of_getElem? (i := 110) rfl))) rfl
theorem tb_351 : (Cond.selects RX0 yX0_at yX0_at) ∈ TB := tb_in (List.mem_append_right _ (List.mem_append_left _ (List.mem_of_getElem? (i := 111) rfl))) rfl
theorem tb_352 : (Cond.code yX0_at cX0_at 4 (some FieldType.int)) ∈ TB := tb_in (List.mem_append_right _ (List.mem_append_left _ (List.mem_of_getElem? (i := 112) rfl))) rfl
theorem tb_353 : (Cond.methodLink RL 97 yL_terms) ∈ TB := tb_in (List.mem_append_right _ (List.mem_append_left _ (List.mem_of_getElem? (i := 113) rfl))) rfl
theorem tb_354 : (Cond.static yL_terms) ∈ TB := tb_in (List.mem_append_right _ (List.mem_append_left _ (List.mem_of_getElem? (i := 114) rfl))) rfl
theorem tb_355 : (Cond.codeWith yL_terms cL_terms 5 (some FieldType.int) [(0, 10, 13, 21), (0, 10, 17, 13)]) ∈ TB := tb_in (List.mem_append_right _ (List.mem_append_left _ (List.mem_of_getElem? (i := 115) rfl))) rfl
theorem tb_356 : (Cond.methodLink RL 43 yX0_terms) ∈ TB := tb_in (List.mem_append_right _ (List.mem_append_left _ (List.mem_of_getElem? (i := 116) rfl))) rfl
theorem tb_357 : (Cond.instanceMethod yX0_terms) ∈ TB := tb_in (List.mem_append_right _ (List.mem_append_left _ (List.mem_of_getElem? (i := 117) rfl))) rfl
theorem tb_358 : (Cond.selects RX0 yX0_terms yX0_terms) ∈ TB := tb_in (List.mem_append_right _ (List.mem_append_left _ (List.mem_of_getElem? (i := 118) rfl))) rfl
theorem tb_359 : (Cond.code yX0_terms cX0_terms 3 (some FieldType.int)) ∈ TB := tb_in (List.mem_append_right _ (List.mem_append_left _ (List.mem_of_getElem? (i := 119) rfl))) rfl
theorem tb_360 : (Cond.methodLink RL 100 yL_degree) ∈ TB := tb_in (List.mem_append_right _ (List.mem_append_left _ (List.mem_of_getElem? (i := 120) rfl))) rfl
theorem tb_361 : (Cond.static yL_degree) ∈ TB := tb_in (List.mem_append_right _ (List.mem_append_left _ (List.mem_of_getElem? (i := 121) rfl))) rfl
theorem tb_362 : (Cond.codeWith yL_degree cL_degree 5 (some FieldType.int) [(0, 10, 13, 21), (0, 10, 17, 13)]) ∈ TB := tb_in (List.mem_append_right _ (List.mem_append_left _ (List.mem_of_getElem? (i := 122) rfl))) rfl
theorem tb_363 : (Cond.methodLink RL 46 yX0_degree) ∈ TB := tb_in (List.mem_append_right _ (List.mem_append_left _ (List.mem_of_getElem? (i := 123) rfl))) rfl
theorem tb_364 : (Cond.instanceMethod yX0_degree) ∈ TB := tb_in (List.mem_append_right _ (List.mem_append_left _ (List.mem_of_getElem? (i := 124) rfl))) rfl
theorem tb_365 : (Cond.selects RX0 yX0_degree yX0_degree) ∈ TB := tb_in (List.mem_append_right _ (List.mem_append_left _ (List.mem_of_getElem? (i := 125) rfl))) rfl
theorem tb_366 : (Cond.code yX0_degree cX0_degree 4 (some FieldType.int)) ∈ TB := tb_in (List.mem_append_right _ (List.mem_append_left _ (List.mem_of_getElem? (i := 126) rfl))) rfl
theorem tb_367 : (Cond.methodLink RL 103 yL_value) ∈ TB := tb_in (List.mem_append_right _ (List.mem_append_left _ (List.mem_of_getElem? (i := 127) rfl))) rfl
theorem tb_368 : (Cond.static yL_value) ∈ TB := tb_in (List.mem_append_right _ (List.mem_append_left _ (List.mem_of_getElem? (i := 128) rfl))) rfl
theorem tb_369 : (Cond.codeWith yL_value cL_value 10 (some FieldType.int) [(0, 15, 18, 21)]) ∈ TB := tb_in (List.mem_append_right _ (List.mem_append_left _ (List.mem_of_getElem? (i := 129) rfl))) rfl
theorem tb_370 : (Cond.methodLink RL 49 yX0_value) ∈ TB := tb_in (List.mem_append_right _ (List.mem_append_left _ (List.mem_of_getElem? (i := 130) rfl))) rfl
theorem tb_371 : (Cond.instanceMethod yX0_value) ∈ TB := tb_in (List.mem_append_right _ (List.mem_append_left _ (List.mem_of_getElem? (i := 131) rfl))) rfl
theorem tb_372 : (Cond.selects RX0 yX0_value yX0_value) ∈ TB := tb_in (List.mem_append_right _ (List.mem_append_left _ (List.mem_of_getElem? (i := 132) rfl))) rfl
theorem tb_373 : (Cond.code yX0_value cX0_value 17 (some FieldType.int)) ∈ TB := tb_in (List.mem_append_right _ (List.mem_append_left _ (List.mem_of_getElem? (i := 133) rfl))) rfl
theorem tb_374 : (Cond.methodLink RX0 112 yX0_dividesByX) ∈ TB := tb_in (List.mem_append_right _ (List.mem_append_left _ (List.mem_of_getElem? (i := 134) rfl))) rfl
theorem tq_375 : (Cond.privateMethod yX0_dividesByX) ∈ tables_1 := List.mem_append_right _ (List.mem_append_left _ (List.mem_of_getElem? (i := 135) rfl))
theorem tb_376 : (Cond.instanceMethod yX0_dividesByX) ∈ TB := tb_in (List.mem_append_right _ (List.mem_append_left _ (List.mem_of_getElem? (i := 136) rfl))) rfl
theorem tb_377 : (Cond.code yX0_dividesByX cX0_dividesByX 4 (some FieldType.boolean)) ∈ TB := tb_in (List.mem_append_right _ (List.mem_append_left _ (List.mem_of_getElem? (i := 137) rfl))) rfl
theorem tb_378 : (Cond.methodLink RX0 115 yX0_dividesByE) ∈ TB := tb_in (List.mem_append_right _ (List.mem_append_left _ (List.mem_of_getElem? (i := 138) rfl))) rfl
theorem tq_379 : (Cond.privateMethod yX0_dividesByE) ∈ tables_1 := List.mem_append_right _ (List.mem_append_left _ (List.mem_of_getElem? (i := 139) rfl))
theorem tb_380 : (Cond.instanceMethod yX0_dividesByE) ∈ TB := tb_in (List.mem_append_right _ (List.mem_append_left _ (List.mem_of_getElem? (i := 140) rfl))) rfl
theorem tb_381 : (Cond.code yX0_dividesByE cX0_dividesByE 2 (some FieldType.boolean)) ∈ TB := tb_in (List.mem_append_right _ (List.mem_append_left _ (List.mem_of_getElem? (i := 141) rfl))) rfl
theorem tb_382 : (Cond.methodLink RX0 131 (⟨"java/lang/Math", "abs", "(I)I"⟩ : MethodName)) ∈ TB := tb_in (List.mem_append_right _ (List.mem_append_left _ (List.mem_of_getElem? (i := 142) rfl))) rfl
theorem tb_383 : (Cond.static (⟨"java/lang/Math", "abs", "(I)I"⟩ : MethodName)) ∈ TB := tb_in (List.mem_append_right _ (List.mem_append_left _ (List.mem_of_getElem? (i := 143) rfl))) rfl
theorem tb_384 : (Cond.code (⟨"java/lang/Math", "abs", "(I)I"⟩ : MethodName) prog_8_method_59_code 1 (some FieldType.int)) ∈ TB := tb_in (List.mem_append_right _ (List.mem_append_left _ (List.mem_of_getElem? (i := 144) rfl))) rfl
theorem tb_385 : (Cond.methodLink RX0 139 yX0_valueInX) ∈ TB := tb_in (List.mem_append_right _ (List.mem_append_left _ (List.mem_of_getElem? (i := 145) rfl))) rfl
theorem tq_386 : (Cond.privateMethod yX0_valueInX) ∈ tables_1 := List.mem_append_right _ (List.mem_append_left _ (List.mem_of_getElem? (i := 146) rfl))
theorem tb_387 : (Cond.instanceMethod yX0_valueInX) ∈ TB := tb_in (List.mem_append_right _ (List.mem_append_left _ (List.mem_of_getElem? (i := 147) rfl))) rfl
theorem tb_388 : (Cond.code yX0_valueInX cX0_valueInX 8 (some FieldType.int)) ∈ TB := tb_in (List.mem_append_right _ (List.mem_append_left _ (List.mem_of_getElem? (i := 148) rfl))) rfl
theorem tb_389 : (Cond.methodLink RL 107 yL_same) ∈ TB := tb_in (List.mem_append_right _ (List.mem_append_left _ (List.mem_of_getElem? (i := 149) rfl))) rfl
theorem tb_390 : (Cond.static yL_same) ∈ TB := tb_in (List.mem_append_right _ (List.mem_append_left _ (List.mem_of_getElem? (i := 150) rfl))) rfl
theorem tb_391 : (Cond.codeWith yL_same cL_same 5 (some FieldType.int) [(0, 17, 20, 21)]) ∈ TB := tb_in (List.mem_append_right _ (List.mem_append_left _ (List.mem_of_getElem? (i := 151) rfl))) rfl
theorem tb_392 : (Cond.methodLink RL 53 yX0_same) ∈ TB := tb_in (List.mem_append_right _ (List.mem_append_left _ (List.mem_of_getElem? (i := 152) rfl))) rfl
theorem tb_393 : (Cond.instanceMethod yX0_same) ∈ TB := tb_in (List.mem_append_right _ (List.mem_append_left _ (List.mem_of_getElem? (i := 153) rfl))) rfl
theorem tb_394 : (Cond.selects RX0 yX0_same yX0_same) ∈ TB := tb_in (List.mem_append_right _ (List.mem_append_left _ (List.mem_of_getElem? (i := 154) rfl))) rfl
theorem tb_395 : (Cond.code yX0_same cX0_same 5 (some FieldType.boolean)) ∈ TB := tb_in (List.mem_append_right _ (List.mem_append_left _ (List.mem_of_getElem? (i := 155) rfl))) rfl
theorem tb_396 : (Cond.classLink RL 58 RX1) ∈ TB := tb_in (List.mem_append_right _ (List.mem_append_left _ (List.mem_of_getElem? (i := 156) rfl))) rfl
theorem tb_397 : (Cond.instantiable RX1 8) ∈ TB := tb_in (List.mem_append_right _ (List.mem_append_left _ (List.mem_of_getElem? (i := 157) rfl))) rfl
theorem tb_398 : (Cond.methodLink RL 60 yX1_init) ∈ TB := tb_in (List.mem_append_right _ (List.mem_append_left _ (List.mem_of_getElem? (i := 158) rfl))) rfl
theorem tb_399 : (Cond.instanceMethod yX1_init) ∈ TB := tb_in (List.mem_append_right _ (List.mem_append_left _ (List.mem_of_getElem? (i := 159) rfl))) rfl
theorem tb_400 : (Cond.code yX1_init cX1_init 1 none) ∈ TB := tb_in (List.mem_append_right _ (List.mem_append_left _ (List.mem_of_getElem? (i := 160) rfl))) rfl
theorem tb_401 : (Cond.methodLink RX1 1 (⟨"java/lang/Object", "<init>", "()V"⟩ : MethodName)) ∈ TB := tb_in (List.mem_append_right _ (List.mem_append_left _ (List.mem_of_getElem? (i := 161) rfl))) rfl
theorem tb_402 : (Cond.fieldLink RX1 29 RX1 "code" "I") ∈ TB := tb_in (List.mem_append_right _ (List.mem_append_left _ (List.mem_of_getElem? (i := 162) rfl))) rfl
theorem tb_403 : (Cond.fieldLink RX1 39 RX1 "many" "I") ∈ TB := tb_in (List.mem_append_right _ (List.mem_append_left _ (List.mem_of_getElem? (i := 163) rfl))) rfl
theorem tb_404 : (Cond.fieldLink RX1 7 RX1 "numbers" "[I") ∈ TB := tb_in (List.mem_append_right _ (List.mem_append_left _ (List.mem_of_getElem? (i := 164) rfl))) rfl
theorem tb_405 : (Cond.fieldLink RX1 13 RX1 "made" "[J") ∈ TB := tb_in (List.mem_append_right _ (List.mem_append_left _ (List.mem_of_getElem? (i := 165) rfl))) rfl
theorem tb_406 : (Cond.fieldLink RX1 17 RX1 "p" "[J") ∈ TB := tb_in (List.mem_append_right _ (List.mem_append_left _ (List.mem_of_getElem? (i := 166) rfl))) rfl
theorem tb_407 : (Cond.fieldLink RX1 20 RX1 "q" "[J") ∈ TB := tb_in (List.mem_append_right _ (List.mem_append_left _ (List.mem_of_getElem? (i := 167) rfl))) rfl
theorem tb_408 : (Cond.fieldLink RX1 23 RX1 "wide" "[J") ∈ TB := tb_in (List.mem_append_right _ (List.mem_append_left _ (List.mem_of_getElem? (i := 168) rfl))) rfl
theorem tb_409 : (Cond.fieldLink RX1 26 RX1 "sums" "[J") ∈ TB := tb_in (List.mem_append_right _ (List.mem_append_left _ (List.mem_of_getElem? (i := 169) rfl))) rfl
theorem tb_410 : (Cond.lays RX1 RX1 "code" "I") ∈ TB := tb_in (List.mem_append_right _ (List.mem_append_left _ (List.mem_of_getElem? (i := 170) rfl))) rfl
theorem tb_411 : (Cond.soleField RX1 "code") ∈ TB := tb_in (List.mem_append_right _ (List.mem_append_left _ (List.mem_of_getElem? (i := 171) rfl))) rfl
theorem tb_412 : (Cond.lays RX1 RX1 "many" "I") ∈ TB := tb_in (List.mem_append_right _ (List.mem_append_left _ (List.mem_of_getElem? (i := 172) rfl))) rfl
theorem tb_413 : (Cond.soleField RX1 "many") ∈ TB := tb_in (List.mem_append_right _ (List.mem_append_left _ (List.mem_of_getElem? (i := 173) rfl))) rfl
theorem tb_414 : (Cond.laysFinal RX1 RX1 "numbers" "[I") ∈ TB := tb_in (List.mem_append_right _ (List.mem_append_left _ (List.mem_of_getElem? (i := 174) rfl))) rfl
theorem tb_415 : (Cond.soleField RX1 "numbers") ∈ TB := tb_in (List.mem_append_right _ (List.mem_append_left _ (List.mem_of_getElem? (i := 175) rfl))) rfl
theorem tb_416 : (Cond.laysFinal RX1 RX1 "made" "[J") ∈ TB := tb_in (List.mem_append_right _ (List.mem_append_left _ (List.mem_of_getElem? (i := 176) rfl))) rfl
theorem tb_417 : (Cond.soleField RX1 "made") ∈ TB := tb_in (List.mem_append_right _ (List.mem_append_left _ (List.mem_of_getElem? (i := 177) rfl))) rfl
theorem tb_418 : (Cond.laysFinal RX1 RX1 "p" "[J") ∈ TB := tb_in (List.mem_append_right _ (List.mem_append_left _ (List.mem_of_getElem? (i := 178) rfl))) rfl
theorem tb_419 : (Cond.soleField RX1 "p") ∈ TB := tb_in (List.mem_append_right _ (List.mem_append_left _ (List.mem_of_getElem? (i := 179) rfl))) rfl
theorem tb_420 : (Cond.laysFinal RX1 RX1 "q" "[J") ∈ TB := tb_in (List.mem_append_right _ (List.mem_append_left _ (List.mem_of_getElem? (i := 180) rfl))) rfl
theorem tb_421 : (Cond.soleField RX1 "q") ∈ TB := tb_in (List.mem_append_right _ (List.mem_append_left _ (List.mem_of_getElem? (i := 181) rfl))) rfl
theorem tb_422 : (Cond.laysFinal RX1 RX1 "wide" "[J") ∈ TB := tb_in (List.mem_append_right _ (List.mem_append_left _ (List.mem_of_getElem? (i := 182) rfl))) rfl
theorem tb_423 : (Cond.soleField RX1 "wide") ∈ TB := tb_in (List.mem_append_right _ (List.mem_append_left _ (List.mem_of_getElem? (i := 183) rfl))) rfl
theorem tb_424 : (Cond.laysFinal RX1 RX1 "sums" "[J") ∈ TB := tb_in (List.mem_append_right _ (List.mem_append_left _ (List.mem_of_getElem? (i := 184) rfl))) rfl
theorem tb_425 : (Cond.soleField RX1 "sums") ∈ TB := tb_in (List.mem_append_right _ (List.mem_append_left _ (List.mem_of_getElem? (i := 185) rfl))) rfl
theorem tb_426 : (Cond.superclass RX1 "java/lang/Object") ∈ TB := tb_in (List.mem_append_right _ (List.mem_append_left _ (List.mem_of_getElem? (i := 186) rfl))) rfl
theorem tb_427 : (Cond.arrayClass FieldType.long) ∈ TB := tb_in (List.mem_append_right _ (List.mem_append_left _ (List.mem_of_getElem? (i := 187) rfl))) rfl
theorem tb_428 : (Cond.methodLink RL 69 yX1_thrown) ∈ TB := tb_in (List.mem_append_right _ (List.mem_append_left _ (List.mem_of_getElem? (i := 188) rfl))) rfl
theorem tb_429 : (Cond.instanceMethod yX1_thrown) ∈ TB := tb_in (List.mem_append_right _ (List.mem_append_left _ (List.mem_of_getElem? (i := 189) rfl))) rfl
theorem tb_430 : (Cond.selects RX1 yX1_thrown yX1_thrown) ∈ TB := tb_in (List.mem_append_right _ (List.mem_append_left _ (List.mem_of_getElem? (i := 190) rfl))) rfl
theorem tb_431 : (Cond.code yX1_thrown cX1_thrown 1 (some FieldType.int)) ∈ TB := tb_in (List.mem_append_right _ (List.mem_append_left _ (List.mem_of_getElem? (i := 191) rfl))) rfl
theorem tb_432 : (Cond.methodLink RL 68 yX1_term) ∈ TB := tb_in (List.mem_append_right _ (List.mem_append_left _ (List.mem_of_getElem? (i := 192) rfl))) rfl
theorem tb_433 : (Cond.instanceMethod yX1_term) ∈ TB := tb_in (List.mem_append_right _ (List.mem_append_left _ (List.mem_of_getElem? (i := 193) rfl))) rfl
theorem tb_434 : (Cond.selects RX1 yX1_term yX1_term) ∈ TB := tb_in (List.mem_append_right _ (List.mem_append_left _ (List.mem_of_getElem? (i := 194) rfl))) rfl
theorem tb_435 : (Cond.code yX1_term cX1_term 6 (some FieldType.int)) ∈ TB := tb_in (List.mem_append_right _ (List.mem_append_left _ (List.mem_of_getElem? (i := 195) rfl))) rfl
theorem tb_436 : (Cond.constantLong RX1 54 (7 : Int64)) ∈ TB := tb_in (List.mem_append_right _ (List.mem_append_left _ (List.mem_of_getElem? (i := 196) rfl))) rfl
theorem tb_437 : (Cond.methodLink RX1 42 yX1_in) ∈ TB := tb_in (List.mem_append_right _ (List.mem_append_left _ (List.mem_of_getElem? (i := 197) rfl))) rfl
theorem tb_438 : (Cond.static yX1_in) ∈ TB := tb_in (List.mem_append_right _ (List.mem_append_left _ (List.mem_of_getElem? (i := 198) rfl))) rfl
theorem tb_439 : (Cond.code yX1_in cX1_in 6 (some FieldType.boolean)) ∈ TB := tb_in (List.mem_append_right _ (List.mem_append_left _ (List.mem_of_getElem? (i := 199) rfl))) rfl
theorem tb_440 : (Cond.constantLong RX1 56 (-4 : Int64)) ∈ TB := tb_in (List.mem_append_right _ (List.mem_append_left _ (List.mem_of_getElem? (i := 200) rfl))) rfl
theorem tb_441 : (Cond.constantLong RX1 58 (4 : Int64)) ∈ TB := tb_in (List.mem_append_right _ (List.mem_append_left _ (List.mem_of_getElem? (i := 201) rfl))) rfl
theorem tb_442 : (Cond.methodLink RX1 60 yX1_place) ∈ TB := tb_in (List.mem_append_right _ (List.mem_append_left _ (List.mem_of_getElem? (i := 202) rfl))) rfl
theorem tb_443 : (Cond.static yX1_place) ∈ TB := tb_in (List.mem_append_right _ (List.mem_append_left _ (List.mem_of_getElem? (i := 203) rfl))) rfl
theorem tb_444 : (Cond.code yX1_place cX1_place 2 (some FieldType.int)) ∈ TB := tb_in (List.mem_append_right _ (List.mem_append_left _ (List.mem_of_getElem? (i := 204) rfl))) rfl
theorem tb_445 : (Cond.methodLink RX1 35 yX1_modulo) ∈ TB := tb_in (List.mem_append_right _ (List.mem_append_left _ (List.mem_of_getElem? (i := 205) rfl))) rfl
theorem tb_446 : (Cond.static yX1_modulo) ∈ TB := tb_in (List.mem_append_right _ (List.mem_append_left _ (List.mem_of_getElem? (i := 206) rfl))) rfl
theorem tb_447 : (Cond.code yX1_modulo cX1_modulo 4 (some FieldType.long)) ∈ TB := tb_in (List.mem_append_right _ (List.mem_append_left _ (List.mem_of_getElem? (i := 207) rfl))) rfl
theorem tb_448 : (Cond.constantLong RX1 33 (32003 : Int64)) ∈ TB := tb_in (List.mem_append_right _ (List.mem_append_left _ (List.mem_of_getElem? (i := 208) rfl))) rfl
theorem tb_449 : (Cond.methodLink RX1 64 yX1_keep) ∈ TB := tb_in (List.mem_append_right _ (List.mem_append_left _ (List.mem_of_getElem? (i := 209) rfl))) rfl
theorem tq_450 : (Cond.privateMethod yX1_keep) ∈ tables_1 := List.mem_append_right _ (List.mem_append_left _ (List.mem_of_getElem? (i := 210) rfl))
theorem tb_451 : (Cond.instanceMethod yX1_keep) ∈ TB := tb_in (List.mem_append_right _ (List.mem_append_left _ (List.mem_of_getElem? (i := 211) rfl))) rfl
theorem tb_452 : (Cond.code yX1_keep cX1_keep 2 (some FieldType.int)) ∈ TB := tb_in (List.mem_append_right _ (List.mem_append_left _ (List.mem_of_getElem? (i := 212) rfl))) rfl
theorem tb_453 : (Cond.methodLink RL 76 yX1_add) ∈ TB := tb_in (List.mem_append_right _ (List.mem_append_left _ (List.mem_of_getElem? (i := 213) rfl))) rfl
theorem tb_454 : (Cond.instanceMethod yX1_add) ∈ TB := tb_in (List.mem_append_right _ (List.mem_append_left _ (List.mem_of_getElem? (i := 214) rfl))) rfl
theorem tb_455 : (Cond.selects RX1 yX1_add yX1_add) ∈ TB := tb_in (List.mem_append_right _ (List.mem_append_left _ (List.mem_of_getElem? (i := 215) rfl))) rfl
theorem tb_456 : (Cond.code yX1_add cX1_add 3 (some FieldType.int)) ∈ TB := tb_in (List.mem_append_right _ (List.mem_append_left _ (List.mem_of_getElem? (i := 216) rfl))) rfl
theorem tb_457 : (Cond.constantLong RX1 68 (-1 : Int64)) ∈ TB := tb_in (List.mem_append_right _ (List.mem_append_left _ (List.mem_of_getElem? (i := 217) rfl))) rfl
theorem tb_458 : (Cond.methodLink RX1 70 yX1_less) ∈ TB := tb_in (List.mem_append_right _ (List.mem_append_left _ (List.mem_of_getElem? (i := 218) rfl))) rfl
theorem tb_459 : (Cond.instanceMethod yX1_less) ∈ TB := tb_in (List.mem_append_right _ (List.mem_append_left _ (List.mem_of_getElem? (i := 219) rfl))) rfl
theorem tb_460 : (Cond.selects RX1 yX1_less yX1_less) ∈ TB := tb_in (List.mem_append_right _ (List.mem_append_left _ (List.mem_of_getElem? (i := 220) rfl))) rfl
theorem tb_461 : (Cond.code yX1_less cX1_less 6 (some FieldType.int)) ∈ TB := tb_in (List.mem_append_right _ (List.mem_append_left _ (List.mem_of_getElem? (i := 221) rfl))) rfl
theorem tb_462 : (Cond.methodLink RX1 74 yX1_may) ∈ TB := tb_in (List.mem_append_right _ (List.mem_append_left _ (List.mem_of_getElem? (i := 222) rfl))) rfl
theorem tq_463 : (Cond.privateMethod yX1_may) ∈ tables_1 := List.mem_append_right _ (List.mem_append_left _ (List.mem_of_getElem? (i := 223) rfl))
theorem tb_464 : (Cond.instanceMethod yX1_may) ∈ TB := tb_in (List.mem_append_right _ (List.mem_append_left _ (List.mem_of_getElem? (i := 224) rfl))) rfl
theorem tb_465 : (Cond.code yX1_may cX1_may 3 (some FieldType.boolean)) ∈ TB := tb_in (List.mem_append_right _ (List.mem_append_left _ (List.mem_of_getElem? (i := 225) rfl))) rfl
theorem tb_466 : (Cond.methodLink RX1 46 yX1_isThere) ∈ TB := tb_in (List.mem_append_right _ (List.mem_append_left _ (List.mem_of_getElem? (i := 226) rfl))) rfl
theorem tq_467 : (Cond.privateMethod yX1_isThere) ∈ tables_1 := List.mem_append_right _ (List.mem_append_left _ (List.mem_of_getElem? (i := 227) rfl))
theorem tb_468 : (Cond.instanceMethod yX1_isThere) ∈ TB := tb_in (List.mem_append_right _ (List.mem_append_left _ (List.mem_of_getElem? (i := 228) rfl))) rfl
theorem tb_469 : (Cond.code yX1_isThere cX1_isThere 2 (some FieldType.boolean)) ∈ TB := tb_in (List.mem_append_right _ (List.mem_append_left _ (List.mem_of_getElem? (i := 229) rfl))) rfl
theorem tb_470 : (Cond.methodLink RX1 50 yX1_load) ∈ TB := tb_in (List.mem_append_right _ (List.mem_append_left _ (List.mem_of_getElem? (i := 230) rfl))) rfl
theorem tq_471 : (Cond.privateMethod yX1_load) ∈ tables_1 := List.mem_append_right _ (List.mem_append_left _ (List.mem_of_getElem? (i := 231) rfl))
theorem tb_472 : (Cond.instanceMethod yX1_load) ∈ TB := tb_in (List.mem_append_right _ (List.mem_append_left _ (List.mem_of_getElem? (i := 232) rfl))) rfl
theorem tb_473 : (Cond.code yX1_load cX1_load 4 none) ∈ TB := tb_in (List.mem_append_right _ (List.mem_append_left _ (List.mem_of_getElem? (i := 233) rfl))) rfl
theorem tb_474 : (Cond.methodLink RL 79 yX1_less) ∈ TB := tb_in (List.mem_append_right _ (List.mem_append_left _ (List.mem_of_getElem? (i := 234) rfl))) rfl
theorem tb_475 : (Cond.methodLink RL 82 yX1_times) ∈ TB := tb_in (List.mem_append_right _ (List.mem_append_left _ (List.mem_of_getElem? (i := 235) rfl))) rfl
theorem tb_476 : (Cond.instanceMethod yX1_times) ∈ TB := tb_in (List.mem_append_right _ (List.mem_append_left _ (List.mem_of_getElem? (i := 236) rfl))) rfl
theorem tb_477 : (Cond.selects RX1 yX1_times yX1_times) ∈ TB := tb_in (List.mem_append_right _ (List.mem_append_left _ (List.mem_of_getElem? (i := 237) rfl))) rfl
theorem tb_478 : (Cond.code yX1_times cX1_times 9 (some FieldType.int)) ∈ TB := tb_in (List.mem_append_right _ (List.mem_append_left _ (List.mem_of_getElem? (i := 238) rfl))) rfl
theorem tb_479 : (Cond.methodLink RX1 88 yX1_has) ∈ TB := tb_in (List.mem_append_right _ (List.mem_append_left _ (List.mem_of_getElem? (i := 239) rfl))) rfl
theorem tq_480 : (Cond.privateMethod yX1_has) ∈ tables_1 := List.mem_append_right _ (List.mem_append_right _ (List.mem_of_getElem? (i := 0) rfl))
theorem tb_481 : (Cond.instanceMethod yX1_has) ∈ TB := tb_in (List.mem_append_right _ (List.mem_append_right _ (List.mem_of_getElem? (i := 1) rfl))) rfl
theorem tb_482 : (Cond.code yX1_has cX1_has 5 (some FieldType.boolean)) ∈ TB := tb_in (List.mem_append_right _ (List.mem_append_right _ (List.mem_of_getElem? (i := 2) rfl))) rfl
theorem tb_483 : (Cond.methodLink RX1 82 yX1_raise) ∈ TB := tb_in (List.mem_append_right _ (List.mem_append_right _ (List.mem_of_getElem? (i := 3) rfl))) rfl
theorem tq_484 : (Cond.privateMethod yX1_raise) ∈ tables_1 := List.mem_append_right _ (List.mem_append_right _ (List.mem_of_getElem? (i := 4) rfl))
theorem tb_485 : (Cond.instanceMethod yX1_raise) ∈ TB := tb_in (List.mem_append_right _ (List.mem_append_right _ (List.mem_of_getElem? (i := 5) rfl))) rfl
theorem tb_486 : (Cond.code yX1_raise cX1_raise 2 (some FieldType.int)) ∈ TB := tb_in (List.mem_append_right _ (List.mem_append_right _ (List.mem_of_getElem? (i := 6) rfl))) rfl
theorem tb_487 : (Cond.methodLink RX1 92 yX1_start) ∈ TB := tb_in (List.mem_append_right _ (List.mem_append_right _ (List.mem_of_getElem? (i := 7) rfl))) rfl
theorem tq_488 : (Cond.privateMethod yX1_start) ∈ tables_1 := List.mem_append_right _ (List.mem_append_right _ (List.mem_of_getElem? (i := 8) rfl))
theorem tb_489 : (Cond.instanceMethod yX1_start) ∈ TB := tb_in (List.mem_append_right _ (List.mem_append_right _ (List.mem_of_getElem? (i := 9) rfl))) rfl
theorem tb_490 : (Cond.code yX1_start cX1_start 2 none) ∈ TB := tb_in (List.mem_append_right _ (List.mem_append_right _ (List.mem_of_getElem? (i := 10) rfl))) rfl
theorem tb_491 : (Cond.methodLink RX1 78 yX1_exponent) ∈ TB := tb_in (List.mem_append_right _ (List.mem_append_right _ (List.mem_of_getElem? (i := 11) rfl))) rfl
theorem tb_492 : (Cond.static yX1_exponent) ∈ TB := tb_in (List.mem_append_right _ (List.mem_append_right _ (List.mem_of_getElem? (i := 12) rfl))) rfl
theorem tb_493 : (Cond.code yX1_exponent cX1_exponent 1 (some FieldType.int)) ∈ TB := tb_in (List.mem_append_right _ (List.mem_append_right _ (List.mem_of_getElem? (i := 13) rfl))) rfl
theorem tb_494 : (Cond.methodLink RX1 95 yX1_narrow) ∈ TB := tb_in (List.mem_append_right _ (List.mem_append_right _ (List.mem_of_getElem? (i := 14) rfl))) rfl
theorem tq_495 : (Cond.privateMethod yX1_narrow) ∈ tables_1 := List.mem_append_right _ (List.mem_append_right _ (List.mem_of_getElem? (i := 15) rfl))
theorem tb_496 : (Cond.instanceMethod yX1_narrow) ∈ TB := tb_in (List.mem_append_right _ (List.mem_append_right _ (List.mem_of_getElem? (i := 16) rfl))) rfl
theorem tb_497 : (Cond.code yX1_narrow cX1_narrow 4 (some FieldType.int)) ∈ TB := tb_in (List.mem_append_right _ (List.mem_append_right _ (List.mem_of_getElem? (i := 17) rfl))) rfl
theorem tb_498 : (Cond.methodLink RX1 85 yX1_rowOf) ∈ TB := tb_in (List.mem_append_right _ (List.mem_append_right _ (List.mem_of_getElem? (i := 18) rfl))) rfl
theorem tb_499 : (Cond.static yX1_rowOf) ∈ TB := tb_in (List.mem_append_right _ (List.mem_append_right _ (List.mem_of_getElem? (i := 19) rfl))) rfl
theorem tb_500 : (Cond.code yX1_rowOf cX1_rowOf 1 (some FieldType.int)) ∈ TB := tb_in (List.mem_append_right _ (List.mem_append_right _ (List.mem_of_getElem? (i := 20) rfl))) rfl
theorem tb_501 : (Cond.methodLink RL 86 yX1_derive) ∈ TB := tb_in (List.mem_append_right _ (List.mem_append_right _ (List.mem_of_getElem? (i := 21) rfl))) rfl
theorem tb_502 : (Cond.instanceMethod yX1_derive) ∈ TB := tb_in (List.mem_append_right _ (List.mem_append_right _ (List.mem_of_getElem? (i := 22) rfl))) rfl
theorem tb_503 : (Cond.selects RX1 yX1_derive yX1_derive) ∈ TB := tb_in (List.mem_append_right _ (List.mem_append_right _ (List.mem_of_getElem? (i := 23) rfl))) rfl
theorem tb_504 : (Cond.code yX1_derive cX1_derive 7 (some FieldType.int)) ∈ TB := tb_in (List.mem_append_right _ (List.mem_append_right _ (List.mem_of_getElem? (i := 24) rfl))) rfl
theorem tb_505 : (Cond.methodLink RL 92 yX1_rest) ∈ TB := tb_in (List.mem_append_right _ (List.mem_append_right _ (List.mem_of_getElem? (i := 25) rfl))) rfl
theorem tb_506 : (Cond.instanceMethod yX1_rest) ∈ TB := tb_in (List.mem_append_right _ (List.mem_append_right _ (List.mem_of_getElem? (i := 26) rfl))) rfl
theorem tb_507 : (Cond.selects RX1 yX1_rest yX1_rest) ∈ TB := tb_in (List.mem_append_right _ (List.mem_append_right _ (List.mem_of_getElem? (i := 27) rfl))) rfl
theorem tb_508 : (Cond.code yX1_rest cX1_rest 3 (some FieldType.int)) ∈ TB := tb_in (List.mem_append_right _ (List.mem_append_right _ (List.mem_of_getElem? (i := 28) rfl))) rfl
theorem tb_509 : (Cond.methodLink RX1 101 yX1_restOf) ∈ TB := tb_in (List.mem_append_right _ (List.mem_append_right _ (List.mem_of_getElem? (i := 29) rfl))) rfl
theorem tq_510 : (Cond.privateMethod yX1_restOf) ∈ tables_1 := List.mem_append_right _ (List.mem_append_right _ (List.mem_of_getElem? (i := 30) rfl))
theorem tb_511 : (Cond.instanceMethod yX1_restOf) ∈ TB := tb_in (List.mem_append_right _ (List.mem_append_right _ (List.mem_of_getElem? (i := 31) rfl))) rfl
theorem tb_512 : (Cond.code yX1_restOf cX1_restOf 6 (some FieldType.long)) ∈ TB := tb_in (List.mem_append_right _ (List.mem_append_right _ (List.mem_of_getElem? (i := 32) rfl))) rfl
theorem tb_513 : (Cond.methodLink RX1 98 yX1_inverse) ∈ TB := tb_in (List.mem_append_right _ (List.mem_append_right _ (List.mem_of_getElem? (i := 33) rfl))) rfl
theorem tb_514 : (Cond.static yX1_inverse) ∈ TB := tb_in (List.mem_append_right _ (List.mem_append_right _ (List.mem_of_getElem? (i := 34) rfl))) rfl
theorem tb_515 : (Cond.code yX1_inverse cX1_inverse 7 (some FieldType.long)) ∈ TB := tb_in (List.mem_append_right _ (List.mem_append_right _ (List.mem_of_getElem? (i := 35) rfl))) rfl
theorem tb_516 : (Cond.methodLink RL 89 yX1_integrate) ∈ TB := tb_in (List.mem_append_right _ (List.mem_append_right _ (List.mem_of_getElem? (i := 36) rfl))) rfl
theorem tb_517 : (Cond.instanceMethod yX1_integrate) ∈ TB := tb_in (List.mem_append_right _ (List.mem_append_right _ (List.mem_of_getElem? (i := 37) rfl))) rfl
theorem tb_518 : (Cond.selects RX1 yX1_integrate yX1_integrate) ∈ TB := tb_in (List.mem_append_right _ (List.mem_append_right _ (List.mem_of_getElem? (i := 38) rfl))) rfl
theorem tb_519 : (Cond.code yX1_integrate cX1_integrate 6 (some FieldType.int)) ∈ TB := tb_in (List.mem_append_right _ (List.mem_append_right _ (List.mem_of_getElem? (i := 39) rfl))) rfl
theorem tb_520 : (Cond.methodLink RL 96 yX1_at) ∈ TB := tb_in (List.mem_append_right _ (List.mem_append_right _ (List.mem_of_getElem? (i := 40) rfl))) rfl
theorem tb_521 : (Cond.instanceMethod yX1_at) ∈ TB := tb_in (List.mem_append_right _ (List.mem_append_right _ (List.mem_of_getElem? (i := 41) rfl))) rfl
theorem tb_522 : (Cond.selects RX1 yX1_at yX1_at) ∈ TB := tb_in (List.mem_append_right _ (List.mem_append_right _ (List.mem_of_getElem? (i := 42) rfl))) rfl
theorem tb_523 : (Cond.code yX1_at cX1_at 4 (some FieldType.int)) ∈ TB := tb_in (List.mem_append_right _ (List.mem_append_right _ (List.mem_of_getElem? (i := 43) rfl))) rfl
theorem tb_524 : (Cond.methodLink RL 99 yX1_terms) ∈ TB := tb_in (List.mem_append_right _ (List.mem_append_right _ (List.mem_of_getElem? (i := 44) rfl))) rfl
theorem tb_525 : (Cond.instanceMethod yX1_terms) ∈ TB := tb_in (List.mem_append_right _ (List.mem_append_right _ (List.mem_of_getElem? (i := 45) rfl))) rfl
theorem tb_526 : (Cond.selects RX1 yX1_terms yX1_terms) ∈ TB := tb_in (List.mem_append_right _ (List.mem_append_right _ (List.mem_of_getElem? (i := 46) rfl))) rfl
theorem tb_527 : (Cond.code yX1_terms cX1_terms 5 (some FieldType.int)) ∈ TB := tb_in (List.mem_append_right _ (List.mem_append_right _ (List.mem_of_getElem? (i := 47) rfl))) rfl
theorem tb_528 : (Cond.methodLink RL 102 yX1_degree) ∈ TB := tb_in (List.mem_append_right _ (List.mem_append_right _ (List.mem_of_getElem? (i := 48) rfl))) rfl
theorem tb_529 : (Cond.instanceMethod yX1_degree) ∈ TB := tb_in (List.mem_append_right _ (List.mem_append_right _ (List.mem_of_getElem? (i := 49) rfl))) rfl
theorem tb_530 : (Cond.selects RX1 yX1_degree yX1_degree) ∈ TB := tb_in (List.mem_append_right _ (List.mem_append_right _ (List.mem_of_getElem? (i := 50) rfl))) rfl
theorem tb_531 : (Cond.code yX1_degree cX1_degree 4 (some FieldType.int)) ∈ TB := tb_in (List.mem_append_right _ (List.mem_append_right _ (List.mem_of_getElem? (i := 51) rfl))) rfl
theorem tb_532 : (Cond.methodLink RL 106 yX1_value) ∈ TB := tb_in (List.mem_append_right _ (List.mem_append_right _ (List.mem_of_getElem? (i := 52) rfl))) rfl
theorem tb_533 : (Cond.instanceMethod yX1_value) ∈ TB := tb_in (List.mem_append_right _ (List.mem_append_right _ (List.mem_of_getElem? (i := 53) rfl))) rfl
theorem tb_534 : (Cond.selects RX1 yX1_value yX1_value) ∈ TB := tb_in (List.mem_append_right _ (List.mem_append_right _ (List.mem_of_getElem? (i := 54) rfl))) rfl
theorem tb_535 : (Cond.code yX1_value cX1_value 20 (some FieldType.int)) ∈ TB := tb_in (List.mem_append_right _ (List.mem_append_right _ (List.mem_of_getElem? (i := 55) rfl))) rfl
theorem tb_536 : (Cond.methodLink RX1 105 yX1_power) ∈ TB := tb_in (List.mem_append_right _ (List.mem_append_right _ (List.mem_of_getElem? (i := 56) rfl))) rfl
theorem tb_537 : (Cond.static yX1_power) ∈ TB := tb_in (List.mem_append_right _ (List.mem_append_right _ (List.mem_of_getElem? (i := 57) rfl))) rfl
theorem tb_538 : (Cond.code yX1_power cX1_power 8 (some FieldType.long)) ∈ TB := tb_in (List.mem_append_right _ (List.mem_append_right _ (List.mem_of_getElem? (i := 58) rfl))) rfl
theorem tb_539 : (Cond.methodLink RL 109 yX1_same) ∈ TB := tb_in (List.mem_append_right _ (List.mem_append_right _ (List.mem_of_getElem? (i := 59) rfl))) rfl
theorem tb_540 : (Cond.instanceMethod yX1_same) ∈ TB := tb_in (List.mem_append_right _ (List.mem_append_right _ (List.mem_of_getElem? (i := 60) rfl))) rfl
theorem tb_541 : (Cond.selects RX1 yX1_same yX1_same) ∈ TB := tb_in (List.mem_append_right _ (List.mem_append_right _ (List.mem_of_getElem? (i := 61) rfl))) rfl
theorem tb_542 : (Cond.code yX1_same cX1_same 4 (some FieldType.boolean)) ∈ TB := tb_in (List.mem_append_right _ (List.mem_append_right _ (List.mem_of_getElem? (i := 62) rfl))) rfl
theorem tb_543 : (Cond.methodLink RL 113 yX1_count) ∈ TB := tb_in (List.mem_append_right _ (List.mem_append_right _ (List.mem_of_getElem? (i := 63) rfl))) rfl
theorem tb_544 : (Cond.instanceMethod yX1_count) ∈ TB := tb_in (List.mem_append_right _ (List.mem_append_right _ (List.mem_of_getElem? (i := 64) rfl))) rfl
theorem tb_545 : (Cond.selects RX1 yX1_count yX1_count) ∈ TB := tb_in (List.mem_append_right _ (List.mem_append_right _ (List.mem_of_getElem? (i := 65) rfl))) rfl
theorem tb_546 : (Cond.code yX1_count cX1_count 1 (some FieldType.int)) ∈ TB := tb_in (List.mem_append_right _ (List.mem_append_right _ (List.mem_of_getElem? (i := 66) rfl))) rfl
theorem tb_547 : (Cond.constantLong RL 61 (4294967295 : Int64)) ∈ TB := tb_in (List.mem_append_right _ (List.mem_append_right _ (List.mem_of_getElem? (i := 67) rfl))) rfl
theorem tq_548 : (Cond.sameMethod "java/lang/Throwable" "java/lang/Throwable" "fillInStackTrace" "(I)Ljava/lang/Throwable;") ∈ tables_1 := List.mem_append_right _ (List.mem_append_right _ (List.mem_of_getElem? (i := 68) rfl))
theorem ts_X0_needRoom : Cond.selects RX0 yX0_needRoom yX0_needRoom ∈ TB := tb_in0 (List.mem_of_getElem? (i := 1) rfl) rfl
theorem ts_X0_clearDraft : Cond.selects RX0 yX0_clearDraft yX0_clearDraft ∈ TB := tb_in0 (List.mem_of_getElem? (i := 2) rfl) rfl
theorem ts_X0_setDraft : Cond.selects RX0 yX0_setDraft yX0_setDraft ∈ TB := tb_in0 (List.mem_of_getElem? (i := 3) rfl) rfl
theorem ts_X0_keepDraft : Cond.selects RX0 yX0_keepDraft yX0_keepDraft ∈ TB := tb_in0 (List.mem_of_getElem? (i := 4) rfl) rfl
theorem ts_X0_needElement : Cond.selects RX0 yX0_needElement yX0_needElement ∈ TB := tb_in0 (List.mem_of_getElem? (i := 5) rfl) rfl
theorem ts_X0_draftSum : Cond.selects RX0 yX0_draftSum yX0_draftSum ∈ TB := tb_in0 (List.mem_of_getElem? (i := 6) rfl) rfl
theorem ts_X0_number : Cond.selects RX0 yX0_number yX0_number ∈ TB := tb_in0 (List.mem_of_getElem? (i := 7) rfl) rfl
theorem ts_X0_logMeetsExponential : Cond.selects RX0 yX0_logMeetsExponential yX0_logMeetsExponential ∈ TB := tb_in0 (List.mem_of_getElem? (i := 8) rfl) rfl
theorem ts_X0_countTerms : Cond.selects RX0 yX0_countTerms yX0_countTerms ∈ TB := tb_in0 (List.mem_of_getElem? (i := 9) rfl) rfl
theorem ts_X0_sumUpProduct : Cond.selects RX0 yX0_sumUpProduct yX0_sumUpProduct ∈ TB := tb_in0 (List.mem_of_getElem? (i := 10) rfl) rfl
theorem ts_X0_clearWide : Cond.selects RX0 yX0_clearWide yX0_clearWide ∈ TB := tb_in0 (List.mem_of_getElem? (i := 11) rfl) rfl
theorem ts_X0_addMultiple : Cond.selects RX0 yX0_addMultiple yX0_addMultiple ∈ TB := tb_in0 (List.mem_of_getElem? (i := 12) rfl) rfl
theorem ts_X0_addWide : Cond.selects RX0 yX0_addWide yX0_addWide ∈ TB := tb_in0 (List.mem_of_getElem? (i := 13) rfl) rfl
theorem ts_X0_productIsTooFar : Cond.selects RX0 yX0_productIsTooFar yX0_productIsTooFar ∈ TB := tb_in0 (List.mem_of_getElem? (i := 14) rfl) rfl
theorem ts_X0_wideNumber : Cond.selects RX0 yX0_wideNumber yX0_wideNumber ∈ TB := tb_in0 (List.mem_of_getElem? (i := 15) rfl) rfl
theorem ts_X0_draftProduct : Cond.selects RX0 yX0_draftProduct yX0_draftProduct ∈ TB := tb_in0 (List.mem_of_getElem? (i := 16) rfl) rfl
theorem ts_X0_slopeIsTooFar : Cond.selects RX0 yX0_slopeIsTooFar yX0_slopeIsTooFar ∈ TB := tb_in0 (List.mem_of_getElem? (i := 17) rfl) rfl
theorem ts_X0_slopeNumber : Cond.selects RX0 yX0_slopeNumber yX0_slopeNumber ∈ TB := tb_in0 (List.mem_of_getElem? (i := 18) rfl) rfl
theorem ts_X0_draftSlope : Cond.selects RX0 yX0_draftSlope yX0_draftSlope ∈ TB := tb_in0 (List.mem_of_getElem? (i := 19) rfl) rfl
theorem ts_X0_hasRest : Cond.selects RX0 yX0_hasRest yX0_hasRest ∈ TB := tb_in0 (List.mem_of_getElem? (i := 20) rfl) rfl
theorem ts_X0_restOf : Cond.selects RX0 yX0_restOf yX0_restOf ∈ TB := tb_in0 (List.mem_of_getElem? (i := 21) rfl) rfl
theorem ts_X0_integralIsTooFar : Cond.selects RX0 yX0_integralIsTooFar yX0_integralIsTooFar ∈ TB := tb_in0 (List.mem_of_getElem? (i := 22) rfl) rfl
theorem ts_X0_draftLogIntegral : Cond.selects RX0 yX0_draftLogIntegral yX0_draftLogIntegral ∈ TB := tb_in0 (List.mem_of_getElem? (i := 23) rfl) rfl
theorem ts_X0_draftConstantPowerIntegral : Cond.selects RX0 yX0_draftConstantPowerIntegral yX0_draftConstantPowerIntegral ∈ TB := tb_in0 (List.mem_of_getElem? (i := 24) rfl) rfl
theorem ts_X0_draftExponentialIntegral : Cond.selects RX0 yX0_draftExponentialIntegral yX0_draftExponentialIntegral ∈ TB := tb_in0 (List.mem_of_getElem? (i := 25) rfl) rfl
theorem ts_X0_dividesByX : Cond.selects RX0 yX0_dividesByX yX0_dividesByX ∈ TB := tb_in0 (List.mem_of_getElem? (i := 26) rfl) rfl
theorem ts_X0_dividesByE : Cond.selects RX0 yX0_dividesByE yX0_dividesByE ∈ TB := tb_in0 (List.mem_of_getElem? (i := 27) rfl) rfl
theorem ts_X0_valueInX : Cond.selects RX0 yX0_valueInX yX0_valueInX ∈ TB := tb_in0 (List.mem_of_getElem? (i := 28) rfl) rfl
theorem ts_X1_keep : Cond.selects RX1 yX1_keep yX1_keep ∈ TB := tb_in0 (List.mem_of_getElem? (i := 29) rfl) rfl
theorem ts_X1_may : Cond.selects RX1 yX1_may yX1_may ∈ TB := tb_in0 (List.mem_of_getElem? (i := 30) rfl) rfl
theorem ts_X1_isThere : Cond.selects RX1 yX1_isThere yX1_isThere ∈ TB := tb_in0 (List.mem_of_getElem? (i := 31) rfl) rfl
theorem ts_X1_load : Cond.selects RX1 yX1_load yX1_load ∈ TB := tb_in0 (List.mem_of_getElem? (i := 32) rfl) rfl
theorem ts_X1_has : Cond.selects RX1 yX1_has yX1_has ∈ TB := tb_in0 (List.mem_of_getElem? (i := 33) rfl) rfl
theorem ts_X1_raise : Cond.selects RX1 yX1_raise yX1_raise ∈ TB := tb_in0 (List.mem_of_getElem? (i := 34) rfl) rfl
theorem ts_X1_start : Cond.selects RX1 yX1_start yX1_start ∈ TB := tb_in0 (List.mem_of_getElem? (i := 35) rfl) rfl
theorem ts_X1_narrow : Cond.selects RX1 yX1_narrow yX1_narrow ∈ TB := tb_in0 (List.mem_of_getElem? (i := 36) rfl) rfl
theorem ts_X1_restOf : Cond.selects RX1 yX1_restOf yX1_restOf ∈ TB := tb_in0 (List.mem_of_getElem? (i := 37) rfl) rfl
theorem inX0 : ∀ w ∈ u_ws RX0 TX0 3, w ∈ TB := by
  intro w h
  simp only [u_ws, List.range, List.range.loop, List.map, List.mem_cons, List.not_mem_nil, or_false] at h
  rcases h with rfl | rfl | rfl
  · exact tb_21
  · exact tb_23
  · exact tb_25
theorem inX1 : ∀ w ∈ u_ws RX1 TX1 8, w ∈ TB := by
  intro w h
  simp only [u_ws, List.range, List.range.loop, List.map, List.mem_cons, List.not_mem_nil, or_false] at h
  rcases h with rfl | rfl | rfl | rfl | rfl | rfl | rfl | rfl
  · exact tb_410
  · exact tb_412
  · exact tb_414
  · exact tb_416
  · exact tb_418
  · exact tb_420
  · exact tb_422
  · exact tb_424
/-- a callee's words among a caller's -/
theorem gd_tb {w : Cond} (h : w ∈ TB) : w ∈ TB ∧ ((w.onTables && w.keeps) = true ∨ ∃ ty, w = .arrayClass ty) := ⟨h, good_of_word (List.mem_filter.mp h).2⟩
theorem gd_all {c : Cond} (h : c ∈ TB) : GoodIn TB (c :: TB) := fun w hw => (List.mem_cons.mp hw).elim (fun e => e ▸ gd_tb h) gd_tb
theorem gd_V {own C : String} {i : Nat} {y : MethodName} {c : Cond} (h1 : Cond.methodLink own i y ∈ TB) (h2 : Cond.instanceMethod y ∈ TB) (h3 : Cond.selects C y y ∈ TB) (h4 : Cond.initialized C ∈ TB) (h : c ∈ TB) : GoodIn TB (wsV own i C y (c :: TB)) := fun w hw => by
  rcases List.mem_append.mp hw with hw | hw
  · simp only [List.mem_cons, List.not_mem_nil, or_false] at hw
    rcases hw with rfl | rfl | rfl | rfl
    · exact gd_tb h1
    · exact gd_tb h2
    · exact gd_tb h3
    · exact gd_tb h4
  · exact gd_all h w hw
theorem gd_S {own : String} {i : Nat} {y : MethodName} {c : Cond} (h1 : Cond.methodLink own i y ∈ TB) (h2 : Cond.static y ∈ TB) (h4 : Cond.initialized own ∈ TB) (h : c ∈ TB) : GoodIn TB (wsS own i y (c :: TB)) := fun w hw => by
  rcases List.mem_append.mp hw with hw | hw
  · simp only [List.mem_cons, List.not_mem_nil, or_false] at hw
    rcases hw with rfl | rfl | rfl
    · exact gd_tb h1
    · exact gd_tb h2
    · exact gd_tb h4
  · exact gd_all h w hw
theorem gd_vS {own : String} {i : Nat} {y : MethodName} {c : Cond} (h1 : Cond.methodLink own i y ∈ TB) (h2 : Cond.static y ∈ TB) (h4 : Cond.initialized y.cls ∈ TB) (h : c ∈ TB) : GoodIn TB (va_wsS own i y (c :: TB)) := fun w hw => by
  rcases List.mem_append.mp hw with hw | hw
  · simp only [List.mem_cons, List.not_mem_nil, or_false] at hw
    rcases hw with rfl | rfl | rfl
    · exact gd_tb h1
    · exact gd_tb h2
    · exact gd_tb h4
  · exact gd_all h w hw
abbrev vwCl : List vw_C := [(RX0, TX0, 3), (RX1, TX1, 8)]
