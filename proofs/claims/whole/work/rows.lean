section
-- ===== PART A: goes FIRST, ahead of the names: the tables' words, and 'selects' of the private methods out of them =====
/-- a private method of a class that the tables say can be made, by its rows of tables_1 -/
def lw_okq (q : MethodName × Nat) : Prop := (q.1.cls ≠ "java/lang/invoke/MethodHandle" ∧ q.1.cls ≠ "java/lang/invoke/VarHandle") ∧ Cond.instantiable q.1.cls q.2 ∈ tables_1 ∧ Cond.privateMethod q.1 ∈ tables_1 ∧ Cond.instanceMethod q.1 ∈ tables_1
theorem lw_p0 : lw_okq (⟨"AshMetals", "keepBatch", "(LAshMetals$Batch;)I"⟩, 10) := ⟨⟨by decide +kernel, by decide +kernel⟩, List.mem_of_getElem? (i := 10) (by decide +kernel), List.mem_of_getElem? (i := 124) (by decide +kernel), List.mem_of_getElem? (i := 125) (by decide +kernel)⟩
theorem lw_p1 : lw_okq (⟨"AshMetals", "batchAt", "(I)LAshMetals$Batch;"⟩, 10) := ⟨⟨by decide +kernel, by decide +kernel⟩, List.mem_of_getElem? (i := 10) (by decide +kernel), List.mem_of_getElem? (i := 132) (by decide +kernel), List.mem_of_getElem? (i := 133) (by decide +kernel)⟩
theorem lw_p2 : lw_okq (⟨"AshMetals", "passThrough", "(LAshMetals$Batch;I)V"⟩, 10) := ⟨⟨by decide +kernel, by decide +kernel⟩, List.mem_of_getElem? (i := 10) (by decide +kernel), List.mem_of_getElem? (i := 173) (by decide +kernel), List.mem_of_getElem? (i := 174) (by decide +kernel)⟩
theorem lw_p3 : lw_okq (⟨"AshMetals", "stageAt", "(I)LAshMetals$Stage;"⟩, 10) := ⟨⟨by decide +kernel, by decide +kernel⟩, List.mem_of_getElem? (i := 10) (by decide +kernel), List.mem_of_getElem? (i := 177) (by decide +kernel), List.mem_of_getElem? (i := 178) (by decide +kernel)⟩
theorem lw_p4 : lw_okq (⟨"AshMetals$PriceTable", "countOf", "(I)I"⟩, 3) := ⟨⟨by decide +kernel, by decide +kernel⟩, List.mem_of_getElem? (i := 24) (by decide +kernel), List.mem_of_getElem? (i := 213) (by decide +kernel), List.mem_of_getElem? (i := 214) (by decide +kernel)⟩
theorem lw_p5 : lw_okq (⟨"AshMetals$PriceTable", "centsOn", "(II)J"⟩, 3) := ⟨⟨by decide +kernel, by decide +kernel⟩, List.mem_of_getElem? (i := 24) (by decide +kernel), List.mem_of_getElem? (i := 226) (by decide +kernel), List.mem_of_getElem? (i := 227) (by decide +kernel)⟩
theorem lw_p6 : lw_okq (⟨"AshMetals$Batch", "allTold", "(I)Z"⟩, 9) := ⟨⟨by decide +kernel, by decide +kernel⟩, List.mem_of_getElem? (i := 80) (by decide +kernel), List.mem_of_getElem? (i := 255) (by decide +kernel), List.mem_of_getElem? (i := 256) (by decide +kernel)⟩
theorem lw_p7 : lw_okq (⟨"AshMetalsModel", "add", "(JI)I"⟩, 26) := ⟨⟨by decide +kernel, by decide +kernel⟩, List.mem_of_getElem? (i := 329) (by decide +kernel), List.mem_of_getElem? (i := 423) (by decide +kernel), List.mem_of_getElem? (i := 424) (by decide +kernel)⟩
theorem lw_p8 : lw_okq (⟨"AshMetalsModel", "isBatch", "(I)Z"⟩, 26) := ⟨⟨by decide +kernel, by decide +kernel⟩, List.mem_of_getElem? (i := 329) (by decide +kernel), List.mem_of_getElem? (i := 431) (by decide +kernel), List.mem_of_getElem? (i := 432) (by decide +kernel)⟩
theorem lw_p9 : lw_okq (⟨"AshMetalsModel", "isStage", "(I)Z"⟩, 26) := ⟨⟨by decide +kernel, by decide +kernel⟩, List.mem_of_getElem? (i := 329) (by decide +kernel), List.mem_of_getElem? (i := 470) (by decide +kernel), List.mem_of_getElem? (i := 471) (by decide +kernel)⟩
theorem lw_p10 : lw_okq (⟨"AshMetalsModel", "worthOf", "([JII)J"⟩, 26) := ⟨⟨by decide +kernel, by decide +kernel⟩, List.mem_of_getElem? (i := 329) (by decide +kernel), List.mem_of_getElem? (i := 482) (by decide +kernel), List.mem_of_getElem? (i := 483) (by decide +kernel)⟩
theorem lw_p11 : lw_okq (⟨"AshMetalsModel", "priceOn", "(II)J"⟩, 26) := ⟨⟨by decide +kernel, by decide +kernel⟩, List.mem_of_getElem? (i := 329) (by decide +kernel), List.mem_of_getElem? (i := 486) (by decide +kernel), List.mem_of_getElem? (i := 487) (by decide +kernel)⟩
theorem lw_p12 : lw_okq (⟨"AshMetalsModel", "told", "(III)I"⟩, 26) := ⟨⟨by decide +kernel, by decide +kernel⟩, List.mem_of_getElem? (i := 329) (by decide +kernel), List.mem_of_getElem? (i := 507) (by decide +kernel), List.mem_of_getElem? (i := 508) (by decide +kernel)⟩
def lw_privs_1 : List (MethodName × Nat) := [(⟨"AshMetals", "keepBatch", "(LAshMetals$Batch;)I"⟩, 10), (⟨"AshMetals", "batchAt", "(I)LAshMetals$Batch;"⟩, 10), (⟨"AshMetals", "passThrough", "(LAshMetals$Batch;I)V"⟩, 10), (⟨"AshMetals", "stageAt", "(I)LAshMetals$Stage;"⟩, 10), (⟨"AshMetals$PriceTable", "countOf", "(I)I"⟩, 3), (⟨"AshMetals$PriceTable", "centsOn", "(II)J"⟩, 3), (⟨"AshMetals$Batch", "allTold", "(I)Z"⟩, 9), (⟨"AshMetalsModel", "add", "(JI)I"⟩, 26), (⟨"AshMetalsModel", "isBatch", "(I)Z"⟩, 26), (⟨"AshMetalsModel", "isStage", "(I)Z"⟩, 26), (⟨"AshMetalsModel", "worthOf", "([JII)J"⟩, 26), (⟨"AshMetalsModel", "priceOn", "(II)J"⟩, 26), (⟨"AshMetalsModel", "told", "(III)I"⟩, 26)]
theorem lw_r1 : ∀ q ∈ lw_privs_1, lw_okq q := List.forall_mem_cons.mpr ⟨lw_p0, List.forall_mem_cons.mpr ⟨lw_p1, List.forall_mem_cons.mpr ⟨lw_p2, List.forall_mem_cons.mpr ⟨lw_p3, List.forall_mem_cons.mpr ⟨lw_p4, List.forall_mem_cons.mpr ⟨lw_p5, List.forall_mem_cons.mpr ⟨lw_p6, List.forall_mem_cons.mpr ⟨lw_p7, List.forall_mem_cons.mpr ⟨lw_p8, List.forall_mem_cons.mpr ⟨lw_p9, List.forall_mem_cons.mpr ⟨lw_p10, List.forall_mem_cons.mpr ⟨lw_p11, List.forall_mem_cons.mpr ⟨lw_p12, fun _ h => absurd h List.not_mem_nil⟩⟩⟩⟩⟩⟩⟩⟩⟩⟩⟩⟩⟩
def lw_privs : List (MethodName × Nat) := lw_privs_1
def lw_tbl : List Cond := k2_sels lw_privs ++ tables_1
theorem lw_privs_ok : ∀ q ∈ lw_privs, lw_okq q := lw_r1

/-- the words that every method gets: all good ones of the tables -/
def xW0 : List Cond := lw_tbl.filter goodWord
theorem mW {w : Cond} (i : Nat) (h : lw_tbl[i]? = some w) (g : goodWord w = true) : w ∈ xW0 := List.mem_filter.mpr ⟨List.mem_of_getElem? h, g⟩
theorem gAll {big ws : List Cond} (hb : ∀ w ∈ xW0, w ∈ big) (h : ∀ w ∈ ws, w ∈ xW0) : GoodIn big ws := fun w hw => ⟨hb w (h w hw), good_of_word (List.mem_filter.mp (h w hw)).2⟩
theorem xW0_tbl : ∀ w ∈ xW0, w ∈ lw_tbl := fun _ h => (List.mem_filter.mp h).1
abbrev R_A : String := "AshMetals"
abbrev R_B : String := "AshMetals$Batch"
abbrev R_S : String := "AshMetals$Stage"
abbrev R_R : String := "AshMetals$Rule"
abbrev R_P : String := "AshMetals$PriceTable"
abbrev R_M : String := "AshMetalsModel"
abbrev R_L : String := "AshMetalsLaw"
abbrev R_J : String := "java/util/Arrays"
abbrev R_Q : String := "java/lang/Math"
abbrev R_O : String := "java/lang/Object"
def T_A : u_T := fun k => match k with
  | 0 => ("AshMetals", "batches", "[LAshMetals$Batch;", true)
  | 1 => ("AshMetals", "batchCount", "I", false)
  | 2 => ("AshMetals", "stages", "[LAshMetals$Stage;", true)
  | 3 => ("AshMetals", "stageCount", "I", false)
  | 4 => ("AshMetals", "rules", "[LAshMetals$Rule;", true)
  | 5 => ("AshMetals", "ruleCount", "I", false)
  | 6 => ("AshMetals", "prices", "LAshMetals$PriceTable;", true)
  | 7 => ("AshMetals", "currentDay", "I", false)
  | 8 => ("AshMetals", "mostSpread", "I", false)
  | _ => ("AshMetals", "income", "J", false)
def ty_A : Nat → FieldType := fun k => match k with
  | 0 => .array (.object "AshMetals$Batch")
  | 1 => .int
  | 2 => .array (.object "AshMetals$Stage")
  | 3 => .int
  | 4 => .array (.object "AshMetals$Rule")
  | 5 => .int
  | 6 => .object "AshMetals$PriceTable"
  | 7 => .int
  | 8 => .int
  | _ => .long
theorem nm_A : ∀ a, a < 10 → ∀ b, b < 10 → a ≠ b → (T_A a).2.1 ≠ (T_A b).2.1 := by decide +kernel
theorem tk_A : ∀ k, k < 10 → parseFieldDescriptor (T_A k).2.2.1 = some (ty_A k) := by decide +kernel
def T_B : u_T := fun k => match k with
  | 0 => ("AshMetals$Batch", "day", "I", true)
  | 1 => ("AshMetals$Batch", "mixed", "Z", true)
  | 2 => ("AshMetals$Batch", "amounts", "[J", true)
  | 3 => ("AshMetals$Batch", "takings", "[J", true)
  | 4 => ("AshMetals$Batch", "told", "[I", true)
  | 5 => ("AshMetals$Batch", "weight", "J", false)
  | 6 => ("AshMetals$Batch", "wasRun", "Z", false)
  | 7 => ("AshMetals$Batch", "gone", "Z", false)
  | _ => ("AshMetals$Batch", "stagesPassed", "I", false)
def ty_B : Nat → FieldType := fun k => match k with
  | 0 => .int
  | 1 => .boolean
  | 2 => .array .long
  | 3 => .array .long
  | 4 => .array .int
  | 5 => .long
  | 6 => .boolean
  | 7 => .boolean
  | _ => .int
theorem nm_B : ∀ a, a < 9 → ∀ b, b < 9 → a ≠ b → (T_B a).2.1 ≠ (T_B b).2.1 := by decide +kernel
theorem tk_B : ∀ k, k < 9 → parseFieldDescriptor (T_B k).2.2.1 = some (ty_B k) := by decide +kernel
def T_S : u_T := fun k => match k with
  | 0 => ("AshMetals$Stage", "own", "I", true)
  | 1 => ("AshMetals$Stage", "ownThousandths", "I", true)
  | 2 => ("AshMetals$Stage", "otherThousandths", "I", true)
  | _ => ("AshMetals$Stage", "store", "[J", true)
def ty_S : Nat → FieldType := fun k => match k with
  | 0 => .int
  | 1 => .int
  | 2 => .int
  | _ => .array .long
theorem nm_S : ∀ a, a < 4 → ∀ b, b < 4 → a ≠ b → (T_S a).2.1 ≠ (T_S b).2.1 := by decide +kernel
theorem tk_S : ∀ k, k < 4 → parseFieldDescriptor (T_S k).2.2.1 = some (ty_S k) := by decide +kernel
def T_R : u_T := fun k => match k with
  | 0 => ("AshMetals$Rule", "givenClass", "I", true)
  | 1 => ("AshMetals$Rule", "metal", "I", true)
  | 2 => ("AshMetals$Rule", "limit", "I", true)
  | _ => ("AshMetals$Rule", "leastAge", "I", true)
def ty_R : Nat → FieldType := fun k => match k with
  | 0 => .int
  | 1 => .int
  | 2 => .int
  | _ => .int
theorem nm_R : ∀ a, a < 4 → ∀ b, b < 4 → a ≠ b → (T_R a).2.1 ≠ (T_R b).2.1 := by decide +kernel
theorem tk_R : ∀ k, k < 4 → parseFieldDescriptor (T_R k).2.2.1 = some (ty_R k) := by decide +kernel
def T_P : u_T := fun k => match k with
  | 0 => ("AshMetals$PriceTable", "counts", "[I", true)
  | 1 => ("AshMetals$PriceTable", "days", "[I", true)
  | _ => ("AshMetals$PriceTable", "cents", "[J", true)
def ty_P : Nat → FieldType := fun k => match k with
  | 0 => .array .int
  | 1 => .array .int
  | _ => .array .long
theorem nm_P : ∀ a, a < 3 → ∀ b, b < 3 → a ≠ b → (T_P a).2.1 ≠ (T_P b).2.1 := by decide +kernel
theorem tk_P : ∀ k, k < 3 → parseFieldDescriptor (T_P k).2.2.1 = some (ty_P k) := by decide +kernel
def T_M : u_T := fun k => match k with
  | 0 => ("AshMetalsModel", "today", "I", false)
  | 1 => ("AshMetalsModel", "batches", "I", false)
  | 2 => ("AshMetalsModel", "weights", "[J", true)
  | 3 => ("AshMetalsModel", "days", "[I", true)
  | 4 => ("AshMetalsModel", "gone", "[Z", true)
  | 5 => ("AshMetalsModel", "mixed", "[Z", true)
  | 6 => ("AshMetalsModel", "wasRun", "[Z", true)
  | 7 => ("AshMetalsModel", "runStages", "[I", true)
  | 8 => ("AshMetalsModel", "amounts", "[J", true)
  | 9 => ("AshMetalsModel", "takes", "[J", true)
  | 10 => ("AshMetalsModel", "stages", "I", false)
  | 11 => ("AshMetalsModel", "owns", "[I", true)
  | 12 => ("AshMetalsModel", "thousandths", "[I", true)
  | 13 => ("AshMetalsModel", "drags", "[I", true)
  | 14 => ("AshMetalsModel", "stocks", "[J", true)
  | 15 => ("AshMetalsModel", "priceCounts", "[I", true)
  | 16 => ("AshMetalsModel", "priceDays", "[I", true)
  | 17 => ("AshMetalsModel", "cents", "[J", true)
  | 18 => ("AshMetalsModel", "money", "J", false)
  | 19 => ("AshMetalsModel", "assays", "[I", true)
  | 20 => ("AshMetalsModel", "tolerance", "I", false)
  | 21 => ("AshMetalsModel", "rules", "I", false)
  | 22 => ("AshMetalsModel", "ruleClasses", "[I", true)
  | 23 => ("AshMetalsModel", "ruleMetals", "[I", true)
  | 24 => ("AshMetalsModel", "ruleLimits", "[I", true)
  | _ => ("AshMetalsModel", "ruleAges", "[I", true)
def ty_M : Nat → FieldType := fun k => match k with
  | 0 => .int
  | 1 => .int
  | 2 => .array .long
  | 3 => .array .int
  | 4 => .array .boolean
  | 5 => .array .boolean
  | 6 => .array .boolean
  | 7 => .array .int
  | 8 => .array .long
  | 9 => .array .long
  | 10 => .int
  | 11 => .array .int
  | 12 => .array .int
  | 13 => .array .int
  | 14 => .array .long
  | 15 => .array .int
  | 16 => .array .int
  | 17 => .array .long
  | 18 => .long
  | 19 => .array .int
  | 20 => .int
  | 21 => .int
  | 22 => .array .int
  | 23 => .array .int
  | 24 => .array .int
  | _ => .array .int
theorem nm_M : ∀ a, a < 26 → ∀ b, b < 26 → a ≠ b → (T_M a).2.1 ≠ (T_M b).2.1 := by decide +kernel
theorem tk_M : ∀ k, k < 26 → parseFieldDescriptor (T_M k).2.2.1 = some (ty_M k) := by decide +kernel
abbrev vwCl : List vw_C := [(R_A, T_A, 10), (R_B, T_B, 9), (R_S, T_S, 4), (R_R, T_R, 4), (R_P, T_P, 3), (R_M, T_M, 26)]
def y_A_init : MethodName := ⟨R_A, "<init>", "()V"⟩
abbrev b_A_init : ByteArray := prog_1_method_1_code
abbrev y_O_init : MethodName := objectInit
def y_P_init : MethodName := ⟨R_P, "<init>", "()V"⟩
abbrev b_P_init : ByteArray := prog_3_method_1_code
def y_A_batch : MethodName := ⟨R_A, "batch", "(J)I"⟩
abbrev b_A_batch : ByteArray := prog_1_method_2_code
def y_A_isWithin : MethodName := ⟨R_A, "isWithin", "(JJJ)Z"⟩
abbrev b_A_isWithin : ByteArray := prog_1_method_23_code
def y_B_init : MethodName := ⟨R_B, "<init>", "(JIZ)V"⟩
abbrev b_B_init : ByteArray := prog_2_method_1_code
def y_J_fillI : MethodName := ⟨R_J, "fill", "([II)V"⟩
abbrev b_J_fillI : ByteArray := prog_9_method_103_code
def y_A_keepBatch : MethodName := ⟨R_A, "keepBatch", "(LAshMetals$Batch;)I"⟩
abbrev b_A_keepBatch : ByteArray := prog_1_method_27_code
def y_A_parts : MethodName := ⟨R_A, "parts", "(III)Z"⟩
abbrev b_A_parts : ByteArray := prog_1_method_3_code
def y_A_batchAt : MethodName := ⟨R_A, "batchAt", "(I)LAshMetals$Batch;"⟩
abbrev b_A_batchAt : ByteArray := prog_1_method_25_code
def y_A_isMetal : MethodName := ⟨R_A, "isMetal", "(I)Z"⟩
abbrev b_A_isMetal : ByteArray := prog_1_method_24_code
def y_A_today : MethodName := ⟨R_A, "today", "(I)Z"⟩
abbrev b_A_today : ByteArray := prog_1_method_4_code
def y_A_stage : MethodName := ⟨R_A, "stage", "(III)I"⟩
abbrev b_A_stage : ByteArray := prog_1_method_5_code
def y_S_init : MethodName := ⟨R_S, "<init>", "(III)V"⟩
abbrev b_S_init : ByteArray := prog_5_method_1_code
def y_A_run : MethodName := ⟨R_A, "run", "(I)I"⟩
abbrev b_A_run : ByteArray := prog_1_method_6_code
def y_A_passThrough : MethodName := ⟨R_A, "passThrough", "(LAshMetals$Batch;I)V"⟩
abbrev b_A_passThrough : ByteArray := prog_1_method_28_code
def y_A_stageAt : MethodName := ⟨R_A, "stageAt", "(I)LAshMetals$Stage;"⟩
abbrev b_A_stageAt : ByteArray := prog_1_method_26_code
def y_S_thousandthsOf : MethodName := ⟨R_S, "thousandthsOf", "(I)I"⟩
abbrev b_S_thousandthsOf : ByteArray := prog_5_method_2_code
abbrev y_Q_maxJ : MethodName := Lib.MathLoose.max_long.x
abbrev b_Q_maxJ : ByteArray := Lib.MathLoose.max_long.code
def y_A_taken : MethodName := ⟨R_A, "taken", "(III)J"⟩
abbrev b_A_taken : ByteArray := prog_1_method_7_code
def y_A_left : MethodName := ⟨R_A, "left", "(II)J"⟩
abbrev b_A_left : ByteArray := prog_1_method_8_code
def y_A_grams : MethodName := ⟨R_A, "grams", "(I)J"⟩
abbrev b_A_grams : ByteArray := prog_1_method_9_code
def y_A_stock : MethodName := ⟨R_A, "stock", "(II)J"⟩
abbrev b_A_stock : ByteArray := prog_1_method_10_code
def y_A_price : MethodName := ⟨R_A, "price", "(IIJ)Z"⟩
abbrev b_A_price : ByteArray := prog_1_method_11_code
def y_P_append : MethodName := ⟨R_P, "append", "(IIJ)Z"⟩
abbrev b_P_append : ByteArray := prog_3_method_2_code
def y_P_countOf : MethodName := ⟨R_P, "countOf", "(I)I"⟩
abbrev b_P_countOf : ByteArray := prog_3_method_5_code
def y_A_worth : MethodName := ⟨R_A, "worth", "(II)J"⟩
abbrev b_A_worth : ByteArray := prog_1_method_12_code
def y_P_centsFor : MethodName := ⟨R_P, "centsFor", "([JI)J"⟩
abbrev b_P_centsFor : ByteArray := prog_3_method_3_code
def y_P_centsOn : MethodName := ⟨R_P, "centsOn", "(II)J"⟩
abbrev b_P_centsOn : ByteArray := prog_3_method_4_code
def y_A_sell : MethodName := ⟨R_A, "sell", "(I)J"⟩
abbrev b_A_sell : ByteArray := prog_1_method_13_code
def y_J_fillJ : MethodName := ⟨R_J, "fill", "([JJ)V"⟩
abbrev b_J_fillJ : ByteArray := prog_9_method_101_code
def y_A_money : MethodName := ⟨R_A, "money", "()J"⟩
abbrev b_A_money : ByteArray := prog_1_method_14_code
def y_A_assay : MethodName := ⟨R_A, "assay", "(IIII)Z"⟩
abbrev b_A_assay : ByteArray := prog_1_method_15_code
def y_A_settled : MethodName := ⟨R_A, "settled", "(II)I"⟩
abbrev b_A_settled : ByteArray := prog_1_method_16_code
def y_B_middleOf : MethodName := ⟨R_B, "middleOf", "(I)I"⟩
abbrev b_B_middleOf : ByteArray := prog_2_method_2_code
def y_B_allTold : MethodName := ⟨R_B, "allTold", "(I)Z"⟩
abbrev b_B_allTold : ByteArray := prog_2_method_5_code
abbrev y_Q_minI : MethodName := Lib.Math.min.name
abbrev b_Q_minI : ByteArray := Lib.Math.min.code
abbrev y_Q_maxI : MethodName := Lib.Math.max.name
abbrev b_Q_maxI : ByteArray := Lib.Math.max.code
def y_A_disputed : MethodName := ⟨R_A, "disputed", "(II)Z"⟩
abbrev b_A_disputed : ByteArray := prog_1_method_17_code
def y_B_spreadOf : MethodName := ⟨R_B, "spreadOf", "(I)I"⟩
abbrev b_B_spreadOf : ByteArray := prog_2_method_3_code
def y_A_tolerance : MethodName := ⟨R_A, "tolerance", "(I)Z"⟩
abbrev b_A_tolerance : ByteArray := prog_1_method_18_code
def y_A_rule : MethodName := ⟨R_A, "rule", "(IIII)I"⟩
abbrev b_A_rule : ByteArray := prog_1_method_19_code
def y_R_init : MethodName := ⟨R_R, "<init>", "(IIII)V"⟩
abbrev b_R_init : ByteArray := prog_4_method_1_code
def y_A_cls : MethodName := ⟨R_A, "cls", "(I)I"⟩
abbrev b_A_cls : ByteArray := prog_1_method_20_code
def y_R_fits : MethodName := ⟨R_R, "fits", "(LAshMetals$Batch;II)Z"⟩
abbrev b_R_fits : ByteArray := prog_4_method_2_code
def y_A_mix : MethodName := ⟨R_A, "mix", "(II)I"⟩
abbrev b_A_mix : ByteArray := prog_1_method_21_code
def y_A_mixtureOf : MethodName := ⟨R_A, "mixtureOf", "(LAshMetals$Batch;LAshMetals$Batch;)LAshMetals$Batch;"⟩
abbrev b_A_mixtureOf : ByteArray := prog_1_method_29_code
def y_A_dispute : MethodName := ⟨R_A, "dispute", "(I)I"⟩
abbrev b_A_dispute : ByteArray := prog_1_method_22_code
def y_B_hasSpreadAbove : MethodName := ⟨R_B, "hasSpreadAbove", "(I)Z"⟩
abbrev b_B_hasSpreadAbove : ByteArray := prog_2_method_4_code
def y_M_init : MethodName := ⟨R_M, "<init>", "()V"⟩
abbrev b_M_init : ByteArray := prog_7_method_1_code
def y_M_batch : MethodName := ⟨R_M, "batch", "(J)I"⟩
abbrev b_M_batch : ByteArray := prog_7_method_8_code
def y_M_isIn : MethodName := ⟨R_M, "isIn", "(JJJ)Z"⟩
abbrev b_M_isIn : ByteArray := prog_7_method_3_code
def y_M_add : MethodName := ⟨R_M, "add", "(JI)I"⟩
abbrev b_M_add : ByteArray := prog_7_method_7_code
def y_M_parts : MethodName := ⟨R_M, "parts", "(III)Z"⟩
abbrev b_M_parts : ByteArray := prog_7_method_9_code
def y_M_isBatch : MethodName := ⟨R_M, "isBatch", "(I)Z"⟩
abbrev b_M_isBatch : ByteArray := prog_7_method_4_code
def y_M_isMetal : MethodName := ⟨R_M, "isMetal", "(I)Z"⟩
abbrev b_M_isMetal : ByteArray := prog_7_method_6_code
def y_M_today : MethodName := ⟨R_M, "today", "(I)Z"⟩
abbrev b_M_today : ByteArray := prog_7_method_10_code
def y_M_left : MethodName := ⟨R_M, "left", "(II)J"⟩
abbrev b_M_left : ByteArray := prog_7_method_11_code
def y_M_grams : MethodName := ⟨R_M, "grams", "(I)J"⟩
abbrev b_M_grams : ByteArray := prog_7_method_12_code
def y_M_stage : MethodName := ⟨R_M, "stage", "(III)I"⟩
abbrev b_M_stage : ByteArray := prog_7_method_13_code
def y_M_run : MethodName := ⟨R_M, "run", "(I)I"⟩
abbrev b_M_run : ByteArray := prog_7_method_14_code
def y_M_taken : MethodName := ⟨R_M, "taken", "(III)J"⟩
abbrev b_M_taken : ByteArray := prog_7_method_15_code
def y_M_stock : MethodName := ⟨R_M, "stock", "(II)J"⟩
abbrev b_M_stock : ByteArray := prog_7_method_16_code
def y_M_isStage : MethodName := ⟨R_M, "isStage", "(I)Z"⟩
abbrev b_M_isStage : ByteArray := prog_7_method_5_code
def y_M_price : MethodName := ⟨R_M, "price", "(IIJ)Z"⟩
abbrev b_M_price : ByteArray := prog_7_method_17_code
def y_M_worth : MethodName := ⟨R_M, "worth", "(II)J"⟩
abbrev b_M_worth : ByteArray := prog_7_method_20_code
def y_M_worthOf : MethodName := ⟨R_M, "worthOf", "([JII)J"⟩
abbrev b_M_worthOf : ByteArray := prog_7_method_19_code
def y_M_priceOn : MethodName := ⟨R_M, "priceOn", "(II)J"⟩
abbrev b_M_priceOn : ByteArray := prog_7_method_18_code
def y_M_sell : MethodName := ⟨R_M, "sell", "(I)J"⟩
abbrev b_M_sell : ByteArray := prog_7_method_21_code
def y_M_money : MethodName := ⟨R_M, "money", "()J"⟩
abbrev b_M_money : ByteArray := prog_7_method_22_code
def y_M_assay : MethodName := ⟨R_M, "assay", "(IIII)Z"⟩
abbrev b_M_assay : ByteArray := prog_7_method_23_code
def y_M_settled : MethodName := ⟨R_M, "settled", "(II)I"⟩
abbrev b_M_settled : ByteArray := prog_7_method_27_code
def y_M_told : MethodName := ⟨R_M, "told", "(III)I"⟩
abbrev b_M_told : ByteArray := prog_7_method_26_code
def y_M_least : MethodName := ⟨R_M, "least", "(II)I"⟩
abbrev b_M_least : ByteArray := prog_7_method_24_code
def y_M_greatest : MethodName := ⟨R_M, "greatest", "(II)I"⟩
abbrev b_M_greatest : ByteArray := prog_7_method_25_code
def y_M_disputed : MethodName := ⟨R_M, "disputed", "(II)Z"⟩
abbrev b_M_disputed : ByteArray := prog_7_method_28_code
def y_M_tolerance : MethodName := ⟨R_M, "tolerance", "(I)Z"⟩
abbrev b_M_tolerance : ByteArray := prog_7_method_29_code
def y_M_rule : MethodName := ⟨R_M, "rule", "(IIII)I"⟩
abbrev b_M_rule : ByteArray := prog_7_method_30_code
def y_M_cls : MethodName := ⟨R_M, "cls", "(I)I"⟩
abbrev b_M_cls : ByteArray := prog_7_method_31_code
def y_M_mix : MethodName := ⟨R_M, "mix", "(II)I"⟩
abbrev b_M_mix : ByteArray := prog_7_method_32_code
def y_M_dispute : MethodName := ⟨R_M, "dispute", "(I)I"⟩
abbrev b_M_dispute : ByteArray := prog_7_method_33_code
def y_L_law : MethodName := ⟨R_L, "law", "([I)Z"⟩
abbrev b_L_law : ByteArray := code
end
section
/-! THE LAYER: a world is a function from tags to cells; every contract is said of a heap H0, its world, and what the tables say -/
/-- the world: the cell of tag t lies at ad t; tags are apart; all lie at B or above -/
def xw (D : va_G) (cl : List vw_C) (B : Nat) (ad : Nat → Nat) (w : Nat → Option va_E) (H : Heap) : Prop :=
  (∀ (t : Nat) (e : va_E), w t = some e → va_at D cl (ad t, e) H) ∧ (∀ t u : Nat, w t ≠ none → w u ≠ none → ad t = ad u → t = u) ∧ ∀ t : Nat, w t ≠ none → B ≤ ad t
def xu (w : Nat → Option va_E) (t : Nat) (e : va_E) : Nat → Option va_E := fun u => if u = t then some e else w u
def xa (ad : Nat → Nat) (t a : Nat) : Nat → Nat := fun u => if u = t then a else ad u
theorem xu_eq {w : Nat → Option va_E} {t : Nat} {e : va_E} : xu w t e t = some e := by simp [xu]
theorem xu_ne {w : Nat → Option va_E} {t u : Nat} {e : va_E} (h : u ≠ t) : xu w t e u = w u := by simp [xu, h]
theorem xa_eq {ad : Nat → Nat} {t a : Nat} : xa ad t a t = a := by simp [xa]
theorem xa_ne {ad : Nat → Nat} {t u a : Nat} (h : u ≠ t) : xa ad t a u = ad u := by simp [xa, h]
theorem xu_some {w : Nat → Option va_E} {t u : Nat} {e : va_E} {f : va_E} (h : w t = some f) : w u ≠ none ↔ xu w t e u ≠ none := by
  unfold xu
  by_cases hu : u = t
  · subst hu; simp [h]
  · simp [hu]
theorem xw.set {D : va_G} {cl : List vw_C} {B : Nat} {ad : Nat → Nat} {w : Nat → Option va_E} {H H1 : Heap} {t : Nat} {e0 e : va_E} (h : xw D cl B ad w H) (ht : w t = some e0) (he : va_at D cl (ad t, e) H1) (oq : ∀ q : Nat, q ≠ ad t → H1[q]? = H[q]?) : xw D cl B ad (xu w t e) H1 := by
  refine ⟨fun u f hu => ?_, fun u v hu hv huv => h.2.1 u v ((xu_some ht).mpr hu) ((xu_some ht).mpr hv) huv, fun u hu => h.2.2 u ((xu_some ht).mpr hu)⟩
  by_cases hut : u = t
  · subst hut
    rw [xu_eq] at hu
    obtain rfl := Option.some.inj hu
    exact he
  · rw [xu_ne hut] at hu
    exact (h.1 u f hu).kept (oq _ (fun hh => hut (h.2.1 u t (by rw [hu]; exact fun z => by cases z) (by rw [ht]; exact fun z => by cases z) hh)))
theorem xw.new {D : va_G} {cl : List vw_C} {B : Nat} {ad : Nat → Nat} {w : Nat → Option va_E} {H H1 : Heap} (t : Nat) {e : va_E} (h : xw D cl B ad w H) (he : va_at D cl (H.size, e) H1) (hB : B ≤ H.size) (oq : ∀ q : Nat, q < H.size → H1[q]? = H[q]?) : xw D cl B (xa ad t H.size) (xu w t e) H1 := by
  have hlt : ∀ u, w u ≠ none → ad u < H.size := fun u hu => by
    cases hc : w u with
    | none => exact absurd hc hu
    | some f => exact (h.1 u f hc).lt
  refine ⟨fun u f hu => ?_, fun u v hu hv huv => ?_, fun u hu => ?_⟩
  · by_cases hut : u = t
    · subst hut
      rw [xu_eq] at hu
      obtain rfl := Option.some.inj hu
      rw [xa_eq]; exact he
    · rw [xu_ne hut] at hu
      rw [xa_ne hut]
      exact (h.1 u f hu).kept (oq _ (h.1 u f hu).lt)
  · by_cases hut : u = t
    · by_cases hvt : v = t
      · rw [hut, hvt]
      · subst hut
        rw [xu_ne hvt] at hv
        rw [xa_eq, xa_ne hvt] at huv
        exact absurd huv.symm (Nat.ne_of_lt (hlt v hv))
    · rw [xu_ne hut] at hu
      rw [xa_ne hut] at huv
      by_cases hvt : v = t
      · subst hvt
        rw [xa_eq] at huv
        exact absurd huv (Nat.ne_of_lt (hlt u hu))
      · rw [xu_ne hvt] at hv
        rw [xa_ne hvt] at huv
        exact h.2.1 u v hu hv huv
  · by_cases hut : u = t
    · subst hut
      rw [xa_eq]; exact hB
    · rw [xu_ne hut] at hu
      rw [xa_ne hut]; exact h.2.2 u hu
/-- what the tables say beyond the words: nest links, array classes over own classes -/
def xg (w : Cond) : Prop := (∃ a i x h, w = .methodLinkNest a i x h) ∨ (∃ a i b n d h, w = .fieldLinkNest a i b n d h) ∨ ∃ C, w = .arrayOver (.object C)
def xN (NW : List Cond) (U : State) : Prop := ∀ w ∈ NW, va_Nw w U ∧ xg w
theorem xN.warm {NW : List Cond} {s U : State} (hW : s.WarmedH U.vm) (h : xN NW s) : xN NW U := fun w hw => by
  obtain ⟨h1, h2⟩ := h w hw
  refine ⟨?_, h2⟩
  rcases h2 with ⟨a, i, x, g, rfl⟩ | ⟨a, i, b, n, d, g, rfl⟩ | ⟨C, rfl⟩
  · exact va_Nw.warmM hW h1
  · exact va_Nw.warmF hW h1
  · exact va_AO.moved hW.alike h1
theorem xN.same {NW : List Cond} {u U : State} (hv : u.vm = U.vm) (h : xN NW u) : xN NW U := fun w hw => by
  obtain ⟨h1, h2⟩ := h w hw
  refine ⟨?_, h2⟩
  rcases h2 with ⟨a, i, x, g, rfl⟩ | ⟨a, i, b, n, d, g, rfl⟩ | ⟨C, rfl⟩
  · exact va_Nw.same rfl hv h1
  · exact va_Nw.same rfl hv h1
  · exact va_AO.moved (u := u) (U := U) (by rw [hv]; exact Vm.Alike.refl _) h1
/-- a contract's start: the arguments, the heap, the tables -/
def xP (D : va_G) (cl : List vw_C) (tys : List (ClassId × FieldType)) (NW : List Cond) (av : List Value) (H0 : Heap) : Array Value → State → Prop := va_Pc av (fun U => U.heap = H0 ∧ va_K D cl tys U ∧ xN NW U)
/-- its end: the answer and the heap behind it; nothing below B has changed -/
def xQ (B : Nat) (post : Option Value → Heap → Prop) : Array Value → State → Outcome → State → Prop := fun _ st o t => ∃ v : Option Value, o = .returned v ∧ post v t.heap ∧ va_F (fun q => B ≤ q) st t
def xM (l : Launch) (y : MethodName) (ws : List Cond) (rm : Room) (D : va_G) (cl : List vw_C) (tys : List (ClassId × FieldType)) (NW : List Cond) (B : Nat) (av : List Value) (H0 : Heap) (post : Option Value → Heap → Prop) : Prop :=
  Met l y ws rm (xP D cl tys NW av H0) (xQ B post) rm.cells rm.slots (fun q => B ≤ q)
theorem xP_blind {D : va_G} {cl : List vw_C} {tys : List (ClassId × FieldType)} {NW : List Cond} {av : List Value} {H0 : Heap} : FrameBlind (xP D cl tys NW av H0) := fun a U g mk q => by
  obtain ⟨q0, q1, q2, q3⟩ := q
  exact ⟨q0, q1, va_K.moved (u := U) (U := U.calling g mk a) (Vm.Alike.refl U.vm) q2, xN.same (u := U) rfl q3⟩
theorem xP_of {D : va_G} {cl : List vw_C} {tys : List (ClassId × FieldType)} {NW : List Cond} {av : List Value} {H : Heap} {s : State} (hK : va_K D cl tys s) (hN : xN NW s) : ∀ U : State, U.heap = H → s.WarmedH U.vm → xP D cl tys NW av H av.toArray U :=
  fun _ hU hW => ⟨rfl, hU, va_K.moved hW.alike hK, hN.warm hW⟩
theorem xw.recv {s : State} {H : Heap} {D : va_G} {cl : List vw_C} {B t a ci : Nat} {ad : Nat → Nat} {w : Nat → Option va_E} {q : vw_C} {fs : List Value} {tys : List (ClassId × FieldType)} (h : xw D cl B ad w H) (hK : va_K D cl tys s) (hc : cl[ci]? = some q) (he : w t = some (.inr (ci, fs))) (ha : ad t = a) : ∃ cell : Cell, H[a]? = some cell ∧ cell.vm.isStatics = false ∧ s.vm.findClass q.1 = some cell.cls := by
  subst ha
  obtain ⟨q', h1, cell, g1, g2, g3, -⟩ := h.1 t _ he
  exact ⟨cell, g1, by rw [g3]; rfl, by rw [g2]; exact (hK.1 ci q hc).2.1⟩
section XLR
variable {p : Program} {l : Launch} {e : Env} {R : Room} {s : State} {m : MethodId} {args : Array Value} {below : List Frame} {meth : Method} {c : Code} {H : Heap} {locs : List Loc} {cells slots : Nat} {Q : State → Prop}
variable {cc : ByteArray} {pc : Nat} {ls : Array Slot} {rest : List Value} {D : va_G} {cl : List vw_C} {a B : Nat} {tys : List (ClassId × FieldType)} {ad : Nat → Nat} {w : Nat → Option va_E} {H0 : Heap}
theorem xr_one {t : Nat} {e : va_E} (hw : xw D cl B ad w H) (he : w t = some e) (ha : ad t = a) : va_P D cl [(a, e)] H := fun k q hk => by
  have hz : k < 1 := (List.getElem?_eq_some_iff.mp hk).1
  rw [show k = 0 by omega] at hk
  cases hk
  rw [← ha]; exact hw.1 t e he
theorem xr_get (hexec : p.tables.exec = Jvm.exec) (hb : c.code = cc) {own ref C : String} {T : u_T} {N ci index : Nat} {Ts : List Cond} (hts : ∀ w ∈ Ts, w.before args s = true) (hin : ∀ w ∈ u_ws C T N, w ∈ Ts) (hown : s.vm.findClass own = some m.cls) (hK : va_K D cl tys s) (hw : xw D cl B ad w H) (t : Nat) {fs : List Value} (he : w t = some (.inr (ci, fs))) (ha : ad t = a) (hc : cl[ci]? = some (C, T, N)) (k : Nat) (hk : k < N) (hlink : (Cond.fieldLink own index ref (T k).2.1 (T k).2.2.1).before args s = true) (hsame : ∀ x, s.fieldFound? (T k).1 (T k).2.1 (T k).2.2.1 = some x → s.fieldFound? ref (T k).2.1 (T k).2.2.1 = some x) {v : Value} (hv : fs[k]? = some v) (hdg : decode cc pc = .ok (.getfield index, 3))
    (kk : W p l e R s m args below meth c H locs cells slots Q (F0 m (pc + 3) ls (v :: rest))) : W p l e R s m args below meth c H locs cells slots Q (F0 m pc ls (.ref a :: rest)) :=
  va_get hexec hb hts hin hown hK (xr_one hw he ha) 0 rfl hc k hk hlink hsame hv hdg kk
theorem xr_put (hexec : p.tables.exec = Jvm.exec) (hb : c.code = cc) {own ref C : String} {T : u_T} {N ci index : Nat} {Ts : List Cond} (hts : ∀ w ∈ Ts, w.before args s = true) (hin : ∀ w ∈ u_ws C T N, w ∈ Ts) (ty0 : Nat → FieldType) (hty : ∀ k, k < N → parseFieldDescriptor (T k).2.2.1 = some (ty0 k)) (hnm : ∀ a, a < N → ∀ b, b < N → a ≠ b → (T a).2.1 ≠ (T b).2.1) (hown : s.vm.findClass own = some m.cls) (hK : va_K D cl tys s) (hw : xw D cl B ad w H) (hS : va_S (fun q => B ≤ q) H0 H locs) (t : Nat) {fs : List Value} (he : w t = some (.inr (ci, fs))) (ha : ad t = a) (hc : cl[ci]? = some (C, T, N)) (k : Nat) (hk : k < N) (hlink : (Cond.fieldLink own index ref (T k).2.1 (T k).2.2.1).before args s = true) (hsame : ∀ x, s.fieldFound? (T k).1 (T k).2.1 (T k).2.2.1 = some x → s.fieldFound? ref (T k).2.1 (T k).2.2.1 = some x) (hfin : (T k).2.2.2 = false) {ty : FieldType} {v : Value} (hd : parseFieldDescriptor (T k).2.2.1 = some ty) (hn : narrow ty v = v) (hfit : fits ty v = true) (hl : k < fs.length)
    (hdg : decode cc pc = .ok (.putfield index, 3)) (kk : ∀ (H1 : Heap) (locs1 : List Loc), xw D cl B ad (xu w t (.inr (ci, fs.set k v))) H1 → va_S (fun q => B ≤ q) H0 H1 locs1 → W p l e R s m args below meth c H1 locs1 cells slots Q (F0 m (pc + 3) ls rest)) : W p l e R s m args below meth c H locs cells slots Q (F0 m pc ls (v :: .ref a :: rest)) := by
  subst ha
  have hap := va_apart (own := own) hts hin ty0 hty hnm hK hc
  obtain ⟨r, h1, cell, q1, q2, q3, q4⟩ := hw.1 t _ he
  have hr : r = (C, T, N) := Option.some.inj (h1.symm.trans hc)
  subst hr
  obtain ⟨hS0, hfc, kC, hkC, hkind⟩ := hK.1 ci _ hc
  obtain ⟨cf, kf, fi, f, hi, hsl⟩ := hS0 k hk
  have hlay := hts _ (hin _ (u_in_lay hk))
  unfold u_lay at hlay
  rw [if_neg (by rw [hfin]; decide)] at hlay
  have hst := (u_facts hfc hkC (u_lays hts hin hk) hi).1
  have h6 := u_store hfc hkC hkind hlay hi hd hn hfit
  refine W.putK hexec hb (f := f) ⟨hown, hlink, ⟨_, _, _, hsame _ hi⟩, hst⟩ (by rw [q2]; exact h6) q1 q3 (by rw [hsl]; exact k2_hasslot (q4 k hk)) rfl rfl hdg fun H' e1 e2 e3 => ?_
  rw [hsl] at e1 ⊢
  exact kk H' _ (hw.set he ⟨_, hc, t_OB.to (V := updV (vp_V fs) k v) ⟨_, e1, q2, q3, t_set q4 hap hk v⟩ (fun j _ => vp_updV_set hl v j)⟩ e3) (hS.put e2 e3 (hw.2.2 t (by rw [he]; exact fun z => by cases z)))
theorem xr_putF (hexec : p.tables.exec = Jvm.exec) (hb : c.code = cc) {own ref C : String} {T : u_T} {N ci index : Nat} {Ts : List Cond} (hts : ∀ w ∈ Ts, w.before args s = true) (hin : ∀ w ∈ u_ws C T N, w ∈ Ts) (ty0 : Nat → FieldType) (hty : ∀ k, k < N → parseFieldDescriptor (T k).2.2.1 = some (ty0 k)) (hnm : ∀ a, a < N → ∀ b, b < N → a ≠ b → (T a).2.1 ≠ (T b).2.1) (hown : s.vm.findClass own = some m.cls) (hK : va_K D cl tys s) (hw : xw D cl B ad w H) (hS : va_S (fun q => B ≤ q) H0 H locs) (t : Nat) {fs : List Value} (he : w t = some (.inr (ci, fs))) (ha : ad t = a) (hc : cl[ci]? = some (C, T, N)) (k : Nat) (hk : k < N) (hlink : (Cond.fieldLink own index ref (T k).2.1 (T k).2.2.1).before args s = true) (hsame : ∀ x, s.fieldFound? (T k).1 (T k).2.1 (T k).2.2.1 = some x → s.fieldFound? ref (T k).2.1 (T k).2.2.1 = some x) (hfin : (T k).2.2.2 = true) (hin2 : meth.name = "<init>") (hdecl : (T k).1 = own) {ty : FieldType} {v : Value} (hd : parseFieldDescriptor (T k).2.2.1 = some ty) (hn : narrow ty v = v) (hfit : fits ty v = true) (hl : k < fs.length)
    (hdg : decode cc pc = .ok (.putfield index, 3)) (kk : ∀ (H1 : Heap) (locs1 : List Loc), xw D cl B ad (xu w t (.inr (ci, fs.set k v))) H1 → va_S (fun q => B ≤ q) H0 H1 locs1 → W p l e R s m args below meth c H1 locs1 cells slots Q (F0 m (pc + 3) ls rest)) : W p l e R s m args below meth c H locs cells slots Q (F0 m pc ls (v :: .ref a :: rest)) := by
  subst ha
  have hap := va_apart (own := own) hts hin ty0 hty hnm hK hc
  obtain ⟨r, h1, cell, q1, q2, q3, q4⟩ := hw.1 t _ he
  have hr : r = (C, T, N) := Option.some.inj (h1.symm.trans hc)
  subst hr
  obtain ⟨hS0, hfc, kC, hkC, hkind⟩ := hK.1 ci _ hc
  obtain ⟨cf, kf, fi, f, hi, hsl⟩ := hS0 k hk
  have hlay := hts _ (hin _ (u_in_lay hk))
  unfold u_lay at hlay
  rw [if_pos hfin] at hlay
  have hst := (u_facts hfc hkC (u_lays hts hin hk) hi).1
  have hcf : m.cls = cf := by
    obtain ⟨_, _, c', _, _, _, -, -, hf', -, -, -, hown2, -⟩ := Cond.laysFinal_spec hlay
    have e1 : c' = cf := by have := hi.symm.trans hf'; simp at this; exact this.1.symm
    rw [hdecl] at hown2
    rw [← e1]; exact Option.some.inj (hown.symm.trans hown2)
  have h6 := u_fits hfc hkC hkind (Or.inr hlay) hi hd hn hfit
  refine W.putFinK hexec hb hown hlink (hsame _ hi) hst hcf hin2 (by rw [q2]; exact h6) q1 q3 (by rw [hsl]; exact k2_hasslot (q4 k hk)) rfl rfl hdg fun H' e1 e2 e3 => ?_
  rw [hsl] at e1 ⊢
  exact kk H' _ (hw.set he ⟨_, hc, t_OB.to (V := updV (vp_V fs) k v) ⟨_, e1, q2, q3, t_set q4 hap hk v⟩ (fun j _ => vp_updV_set hl v j)⟩ e3) (hS.put e2 e3 (hw.2.2 t (by rw [he]; exact fun z => by cases z)))
theorem xr_iald (hexec : p.tables.exec = Jvm.exec) (hb : c.code = cc) (hK : va_K D cl tys s) (hw : xw D cl B ad w H) (t t0 : Nat) {cA : ClassId} {n : Nat} {f : Nat → Int32} (he : w t = some (.inl (cA, n, .inl f))) (ha : ad t = a) (ht : tys[t0]? = some (cA, .int)) {i : Int32} (hin : vp_in i n) (hdg : decode cc pc = .ok (.iaload, 1))
    (kk : W p l e R s m args below meth c H locs cells slots Q (F0 m (pc + 1) ls (.int (f i.toNatClampNeg) :: rest))) : W p l e R s m args below meth c H locs cells slots Q (F0 m pc ls (.int i :: .ref a :: rest)) :=
  va_iald hexec hb hK (xr_one hw he ha) 0 t0 rfl ht hin hdg kk
theorem xr_zald (hexec : p.tables.exec = Jvm.exec) (hb : c.code = cc) (hK : va_K D cl tys s) (hw : xw D cl B ad w H) (t t0 : Nat) {cA : ClassId} {n : Nat} {f : Nat → Int32} (he : w t = some (.inl (cA, n, .inl f))) (ha : ad t = a) (ht : tys[t0]? = some (cA, .boolean)) {i : Int32} (hin : vp_in i n) (hdg : decode cc pc = .ok (.baload, 1))
    (kk : W p l e R s m args below meth c H locs cells slots Q (F0 m (pc + 1) ls (.int (f i.toNatClampNeg) :: rest))) : W p l e R s m args below meth c H locs cells slots Q (F0 m pc ls (.int i :: .ref a :: rest)) :=
  va_zald hexec hb hK (xr_one hw he ha) 0 t0 rfl ht hin hdg kk
theorem xr_lald (hexec : p.tables.exec = Jvm.exec) (hb : c.code = cc) (hK : va_K D cl tys s) (hw : xw D cl B ad w H) (t t0 : Nat) {cA : ClassId} {n : Nat} {f : Nat → Int64} (he : w t = some (.inl (cA, n, .inr (.inl f)))) (ha : ad t = a) (ht : tys[t0]? = some (cA, .long)) {i : Int32} (hin : vp_in i n) (hdg : decode cc pc = .ok (.laload, 1))
    (kk : W p l e R s m args below meth c H locs cells slots Q (F0 m (pc + 1) ls (.long (f i.toNatClampNeg) :: rest))) : W p l e R s m args below meth c H locs cells slots Q (F0 m pc ls (.int i :: .ref a :: rest)) :=
  va_lald hexec hb hK (xr_one hw he ha) 0 t0 rfl ht hin hdg kk
theorem xr_aldq (hexec : p.tables.exec = Jvm.exec) (hb : c.code = cc) (hK : va_K D cl tys s) (hw : xw D cl B ad w H) (t t0 : Nat) {cA : ClassId} {C : String} {n : Nat} {f : Nat → Option Nat} (he : w t = some (.inl (cA, n, .inr (.inr (.inr (.inr f)))))) (ha : ad t = a) (ht : tys[t0]? = some (cA, .object C)) {i : Int32} (hin : vp_in i n) (hdg : decode cc pc = .ok (.aaload, 1))
    (kk : W p l e R s m args below meth c H locs cells slots Q (F0 m (pc + 1) ls (va_rf (f i.toNatClampNeg) :: rest))) : W p l e R s m args below meth c H locs cells slots Q (F0 m pc ls (.int i :: .ref a :: rest)) :=
  va_aldq hexec hb hK (xr_one hw he ha) 0 t0 rfl ht hin hdg kk
theorem xr_alen (hexec : p.tables.exec = Jvm.exec) (hb : c.code = cc) (hK : va_K D cl tys s) (hw : xw D cl B ad w H) (t t0 : Nat) {cA : ClassId} {x : vp_A} (he : w t = some (.inl (cA, x))) (ha : ad t = a) {ty : FieldType} (ht : tys[t0]? = some (cA, ty)) {v : Int32} (hv : Int32.ofNat x.1 = v) (hdg : decode cc pc = .ok (.arraylength, 1))
    (kk : W p l e R s m args below meth c H locs cells slots Q (F0 m (pc + 1) ls (.int v :: rest))) : W p l e R s m args below meth c H locs cells slots Q (F0 m pc ls (.ref a :: rest)) :=
  va_alen hexec hb hK (xr_one hw he ha) 0 t0 rfl ht hv hdg kk
theorem xr_iast (hexec : p.tables.exec = Jvm.exec) (hb : c.code = cc) (hK : va_K D cl tys s) (hw : xw D cl B ad w H) (hS : va_S (fun q => B ≤ q) H0 H locs) (t t0 : Nat) {cA : ClassId} {n : Nat} {f : Nat → Int32} (he : w t = some (.inl (cA, n, .inl f))) (ha : ad t = a) (ht : tys[t0]? = some (cA, .int)) {i x : Int32} (hin : vp_in i n) (hdg : decode cc pc = .ok (.iastore, 1))
    (kk : ∀ (H1 : Heap) (locs1 : List Loc), xw D cl B ad (xu w t (.inl (cA, n, .inl (upd f i.toNatClampNeg x)))) H1 → va_S (fun q => B ≤ q) H0 H1 locs1 → W p l e R s m args below meth c H1 locs1 cells slots Q (F0 m (pc + 1) ls rest)) : W p l e R s m args below meth c H locs cells slots Q (F0 m pc ls (.int x :: .int i :: .ref a :: rest)) := by
  subst ha
  refine W.iast hexec hb (hw.1 t _ he) ((hK.2 t0 _ ht).1 n (fun j => .int (f j))) (fun q => by cases q) (by show ¬ (i < 0 ∨ (arrV _ _ _).slots.size ≤ _); rw [arrV_size]; exact hin) rfl rfl hdg fun H1 e z oq => ?_
  refine kk H1 _ (hw.set he ?_ oq) (hS.put z oq (hw.2.2 t (by rw [he]; exact fun z => by cases z)))
  show H1[ad t]? = some (vp_cell _ _)
  rw [e]
  rw [vp_cell_i, vp_cell_i, arrV_store]
  congr 2
  funext q
  by_cases hq : q = i.toNatClampNeg
  · subst hq
    simp [updV, upd]
  · simp [updV, upd, hq]
theorem xr_last (hexec : p.tables.exec = Jvm.exec) (hb : c.code = cc) (hK : va_K D cl tys s) (hw : xw D cl B ad w H) (hS : va_S (fun q => B ≤ q) H0 H locs) (t t0 : Nat) {cA : ClassId} {n : Nat} {f : Nat → Int64} (he : w t = some (.inl (cA, n, .inr (.inl f)))) (ha : ad t = a) (ht : tys[t0]? = some (cA, .long)) {i : Int32} {x : Int64} (hin : vp_in i n) (hdg : decode cc pc = .ok (.lastore, 1))
    (kk : ∀ (H1 : Heap) (locs1 : List Loc), xw D cl B ad (xu w t (.inl (cA, n, .inr (.inl (vp_updL f i.toNatClampNeg x))))) H1 → va_S (fun q => B ≤ q) H0 H1 locs1 → W p l e R s m args below meth c H1 locs1 cells slots Q (F0 m (pc + 1) ls rest)) : W p l e R s m args below meth c H locs cells slots Q (F0 m pc ls (.long x :: .int i :: .ref a :: rest)) := by
  subst ha
  refine W.last hexec hb (hw.1 t _ he) ((hK.2 t0 _ ht).1 n (fun j => .long (f j))) (fun q => by cases q) (by show ¬ (i < 0 ∨ (arrV _ _ _).slots.size ≤ _); rw [arrV_size]; exact hin) rfl rfl hdg fun H1 e z oq => ?_
  refine kk H1 _ (hw.set he ?_ oq) (hS.put z oq (hw.2.2 t (by rw [he]; exact fun z => by cases z)))
  show H1[ad t]? = some (vp_cell _ _)
  rw [e]
  rw [vp_cell_l, vp_cell_l, arrV_store]
  congr 2
  funext q
  by_cases hq : q = i.toNatClampNeg
  · subst hq
    simp [updV, vp_updL]
  · simp [updV, vp_updL, hq]
theorem xr_astq (hexec : p.tables.exec = Jvm.exec) (hb : c.code = cc) (hK : va_K D cl tys s) (hw : xw D cl B ad w H) (hS : va_S (fun q => B ≤ q) H0 H locs) (t t0 u ci : Nat) {cA : ClassId} {r : vw_C} {n v : Nat} {vs : List Value} {f : Nat → Option Nat} (he : w t = some (.inl (cA, n, .inr (.inr (.inr (.inr f)))))) (ha : ad t = a) (ht : tys[t0]? = some (cA, .object r.1)) (hv : w u = some (.inr (ci, vs))) (hav : ad u = v) (hc : cl[ci]? = some r) {i : Int32} (hin : vp_in i n) (hdg : decode cc pc = .ok (.aastore, 1))
    (kk : ∀ (H1 : Heap) (locs1 : List Loc), xw D cl B ad (xu w t (.inl (cA, n, .inr (.inr (.inr (.inr (va_up f i.toNatClampNeg (some v)))))))) H1 → va_S (fun q => B ≤ q) H0 H1 locs1 → W p l e R s m args below meth c H1 locs1 cells slots Q (F0 m (pc + 1) ls rest)) : W p l e R s m args below meth c H locs cells slots Q (F0 m pc ls (.ref v :: .int i :: .ref a :: rest)) := by
  subst ha
  subst hav
  have hlt : i.toNatClampNeg < n := Nat.not_le.mp fun q => hin (Or.inr q)
  have h0 : ¬ i < 0 := fun q => hin (Or.inl q)
  obtain ⟨r', hr', cellV, g1, g2, g3, -⟩ := hw.1 u _ hv
  have hcls := (hK.1 ci r hc).2
  obtain ⟨kA, comp, k1, k2, k3, -⟩ := (hK.2 t0 _ ht).2
  have hcomp : comp = D.1 ci := Option.some.inj (k3.symm.trans hcls.1)
  subst hcomp
  obtain ⟨kC, hkC, -⟩ := hcls.2
  refine W.aast hexec hb (hw.1 t _ he) (fun q h => by cases h) (fun h => by cases h) k1 k2 rfl hkC ⟨h0, by show _ < (arrV _ _ _).slots.size; rw [arrV_size]; exact hlt⟩ g1 (fun q h => by rw [g3] at h; cases h) (by rw [g2]; exact hkC) (by rw [g2]; exact va_assign hcls) rfl rfl hdg fun H1 e z oq => ?_
  refine kk H1 _ (hw.set he ?_ oq) (hS.put z oq (hw.2.2 t (by rw [he]; exact fun z => by cases z)))
  show H1[ad t]? = some (vp_cell _ _)
  rw [e]
  rw [vp_cell_q, vp_cell_q, arrV_store]
  congr 2
  funext q
  by_cases hq : q = i.toNatClampNeg
  · subst hq
    simp [updV, va_up, va_rf]
  · simp [updV, va_up, hq]
theorem xS_grow {H1 : Heap} {B : Nat} (hS : va_S (fun q => B ≤ q) H0 H locs) (z : H.size ≤ H1.size) (o1 : ∀ q : Nat, q < H.size → H1[q]? = H[q]?) : va_S (fun q => B ≤ q) H0 H1 locs :=
  ⟨Nat.le_trans hS.1 z, fun x h1 h2 => (o1 x (Nat.lt_of_lt_of_le h1 hS.1)).trans (hS.2.1 x h1 h2), hS.2.2⟩
/-- a new object, under a tag of our choice -/
theorem xr_new (hexec : p.tables.exec = Jvm.exec) (hb : c.code = cc) {own C : String} {T : u_T} {N ci index : Nat} {Ts : List Cond} (hts : ∀ w ∈ Ts, w.before args s = true) (hin : ∀ w ∈ u_ws C T N, w ∈ Ts) (ty : Nat → FieldType) (hty : ∀ k, k < N → parseFieldDescriptor (T k).2.2.1 = some (ty k)) (hown : s.vm.findClass own = some m.cls) (hcl : (Cond.classLink own index C).before args s = true) (hinst : (Cond.instantiable C N).before args s = true) (hini : (Cond.initialized C).before args s = true)
    (hK : va_K D cl tys s) (hw : xw D cl B ad w H) (hS : va_S (fun q => B ≤ q) H0 H locs) (hB : B ≤ H0.size) (t : Nat) (hc : cl[ci]? = some (C, T, N)) {fs : List Value} (hfs : ∀ j, j < N → defaultValue (ty j) = vp_V fs j) (hcells : cells + 1 ≤ R.cells) (hslots : slots + N ≤ R.slots) (hdg : decode cc pc = .ok (.new index, 3))
    (kk : ∀ (H1 : Heap) (ad1 : Nat → Nat) (q : Nat), ad1 = xa ad t q → H.size ≤ q → xw D cl B ad1 (xu w t (.inr (ci, fs))) H1 → va_S (fun q => B ≤ q) H0 H1 locs →
      W p l e R s m args below meth c H1 locs (cells + 1) (slots + N) Q (F0 m (pc + 3) ls (.ref q :: rest))) : W p l e R s m args below meth c H locs cells slots Q (F0 m pc ls rest) := by
  have hKn := hK.1 ci _ hc
  refine W.newcK hexec hb hown hcl hinst hini rfl hdg hcells hslots hKn.2.1 rfl fun H1 kC hkC e1 z1 o1 => ?_
  exact kk H1 _ H.size rfl (Nat.le_refl _) (hw.new t ⟨_, hc, (u_born ty hts hin hKn hkC e1 hty).to hfs⟩ (Nat.le_trans hB hS.1) o1) (xS_grow hS (by omega) o1)
theorem xr_newa (hexec : p.tables.exec = Jvm.exec) (hb : c.code = cc) {atype : ArrayType} (harr : (Cond.arrayClass (newarray.typeOf atype)).before args s = true) {ty : FieldType} (hty : newarray.typeOf atype = ty) (hK : va_K D cl tys s) (hw : xw D cl B ad w H) (hS : va_S (fun q => B ≤ q) H0 H locs) (hB : B ≤ H0.size) (t t0 : Nat) {cA : ClassId} (ht : tys[t0]? = some (cA, ty)) (hno : ∀ C, ty ≠ .object C)
    {n : Int32} {N' : Nat} {a0 : vp_A} (ha : ∀ cA : ClassId, vp_cell cA a0 = arrV cA N' (fun _ => defaultValue ty)) (hn : ¬ n < 0) (hN : n.toNatClampNeg = N') (hbytes : N' * componentBytes ty ≤ 536870912) (hcells : cells + 1 ≤ R.cells) (hslots : slots + N' ≤ R.slots) (hdg : decode cc pc = .ok (.newarray atype, 2))
    (kk : ∀ (H1 : Heap) (ad1 : Nat → Nat) (q : Nat), ad1 = xa ad t q → H.size ≤ q → xw D cl B ad1 (xu w t (.inl (cA, a0))) H1 → va_S (fun q => B ≤ q) H0 H1 locs →
      W p l e R s m args below meth c H1 locs (cells + 1) (slots + N') Q (F0 m (pc + 2) ls (.ref q :: rest))) : W p l e R s m args below meth c H locs cells slots Q (F0 m pc ls (.int n :: rest)) := by
  subst hty
  refine va_newaK hexec hb harr rfl hdg rfl hn hN hbytes hcells hslots rfl fun H1 cA' e1 z1 o1 hAr hNm => ?_
  have hcc : cA' = cA := by
    have h2 := (hK.2 t0 _ ht).2
    have h3 : s.vm.findClass ("[" ++ (newarray.typeOf atype).toString) = some cA := by
      cases atype <;> exact h2
    exact Option.some.inj (hNm.symm.trans h3)
  subst hcc
  refine kk H1 _ H.size rfl (Nat.le_refl _) (hw.new t ?_ (Nat.le_trans hB hS.1) o1) (xS_grow hS (by omega) o1)
  show H1[H.size]? = some (vp_cell _ _)
  rw [ha]
  exact e1
theorem xr_newq (hexec : p.tables.exec = Jvm.exec) (hb : c.code = cc) {own C : String} {index : Nat} (hown : s.vm.findClass own = some m.cls) (hclink : (Cond.classLink own index C).before args s = true) (hover : va_AO C s) (hK : va_K D cl tys s) (hw : xw D cl B ad w H) (hS : va_S (fun q => B ≤ q) H0 H locs) (hB : B ≤ H0.size) (t t0 : Nat) {cA : ClassId} (ht : tys[t0]? = some (cA, .object C))
    {n : Int32} {N' : Nat} (hn : ¬ n < 0) (hN : n.toNatClampNeg = N') (hbytes : N' * 4 ≤ 536870912) (hcells : cells + 1 ≤ R.cells) (hslots : slots + N' ≤ R.slots) (hdg : decode cc pc = .ok (.anewarray index, 3))
    (kk : ∀ (H1 : Heap) (ad1 : Nat → Nat) (q : Nat), ad1 = xa ad t q → H.size ≤ q → xw D cl B ad1 (xu w t (.inl (cA, N', .inr (.inr (.inr (.inr (fun _ => none))))))) H1 → va_S (fun q => B ≤ q) H0 H1 locs →
      W p l e R s m args below meth c H1 locs (cells + 1) (slots + N') Q (F0 m (pc + 3) ls (.ref q :: rest))) : W p l e R s m args below meth c H locs cells slots Q (F0 m pc ls (.int n :: rest)) := by
  subst hN
  refine W.anew hexec hb hown hclink (va_AO.use hover) rfl hdg rfl hn hbytes hcells hslots fun cA' kA comp f1 f2 f3 f4 => ?_
  have hcc : cA' = cA := by
    obtain ⟨_, _, _, _, _, h4⟩ := (hK.2 t0 _ ht).2
    exact Option.some.inj (f1.symm.trans h4)
  subst hcc
  generalize hH1 : H.push ({ cls := cA', slots := Array.replicate n.toNatClampNeg .null, vm := .none } : Cell) = H1
  have z1 : H1.size = H.size + 1 := by rw [← hH1, Array.size_push]
  have e1 : H1[H.size]? = some (arrV cA' n.toNatClampNeg (fun _ => .null)) := by rw [← hH1, Array.getElem?_push_size, ← arrV_new]
  have o1 : ∀ q : Nat, q < H.size → H1[q]? = H[q]? := fun q hq => by rw [← hH1, Array.getElem?_push, if_neg (Nat.ne_of_lt hq)]
  refine kk H1 _ H.size rfl (Nat.le_refl _) (hw.new t ?_ (Nat.le_trans hB hS.1) o1) (xS_grow hS (by omega) o1)
  show H1[H.size]? = some (vp_cell _ _)
  rw [vp_cell_q]
  exact e1
/-- behind a call -/
theorem xr_call {st0 : List Value} {av : Array Value} {mc ms : Nat} {post : Option Value → Heap → Prop} (hr : va_Run p l e R s m args below meth c H locs cells slots mc ms (F0 m pc ls st0) rest (xQ B post av) (fun q => B ≤ q)) (hS : va_S (fun q => B ≤ q) H0 H locs)
    (kk : ∀ (v : Option Value) (H1 : Heap) (locs1 : List Loc), post v H1 → va_S (fun q => B ≤ q) H0 H1 locs1 → W p l e R s m args below meth c H1 locs1 (cells + mc) (slots + ms) Q (F0 m (pc + 3) ls (v.toList ++ rest))) : W p l e R s m args below meth c H locs cells slots Q (F0 m pc ls st0) := by
  intro T hT X
  obtain ⟨v, st₀, t, T', L, h0, X', hL, e1, e2, ⟨v2, hv, hp, hz, hk⟩, st⟩ := hr T hT X
  cases hv
  rw [h0] at hz hk
  obtain ⟨t2, a1, b1⟩ := kk v T'.heap (locs ++ L) (by rw [e1]; exact hp)
    ⟨Nat.le_trans hS.1 (by rw [e1]; exact hz), fun q h1 h2 => by rw [e1, hk q (Nat.lt_of_lt_of_le h1 hS.1) h2]; exact hS.2.1 q h1 h2, fun q hq => by
      rcases List.mem_append.mp hq with h | h
      · exact hS.2.2 q h
      · exact hL q h⟩ T' rfl X'
  exact ⟨t2, st t2 a1, b1⟩
end XLR
section XLC
variable {p : Program} {l : Launch} {e : Env} {R : Room} {s : State} {m : MethodId} {args : Array Value} {below : List Frame} {meth : Method} {c : Code} {H : Heap} {locs : List Loc} {cells slots : Nat} {Q : State → Prop}
variable {cc : ByteArray} {pc : Nat} {ls : Array Slot} {rest : List Value}
theorem xr_lc_lt (hexec : p.tables.exec = Jvm.exec) (hb : c.code = cc) {x y : Int64} {off : Int} {tgt : Nat} (hd1 : decode cc pc = .ok (.lcmp, 1)) (hd2 : decode cc (pc + 1) = .ok (.ifCond .lt off, 3)) (ht : ((pc + 1 : Nat) : Int) + off = (tgt : Int)) (kt : x < y → W p l e R s m args below meth c H locs cells slots Q (F0 m tgt ls rest)) (kf : ¬ x < y → W p l e R s m args below meth c H locs cells slots Q (F0 m (pc + 1 + 3) ls rest)) : W p l e R s m args below meth c H locs cells slots Q (F0 m pc ls (.long y :: .long x :: rest)) :=
  W.lcmp hexec hb hd1 (lv_if_lt hexec hb hd2 ht (fun h => kt ((lg_cmp_lt x y).mp h)) (fun h => kf (fun z => h ((lg_cmp_lt x y).mpr z))))
theorem xr_lc_gt (hexec : p.tables.exec = Jvm.exec) (hb : c.code = cc) {x y : Int64} {off : Int} {tgt : Nat} (hd1 : decode cc pc = .ok (.lcmp, 1)) (hd2 : decode cc (pc + 1) = .ok (.ifCond .gt off, 3)) (ht : ((pc + 1 : Nat) : Int) + off = (tgt : Int)) (kt : y < x → W p l e R s m args below meth c H locs cells slots Q (F0 m tgt ls rest)) (kf : ¬ y < x → W p l e R s m args below meth c H locs cells slots Q (F0 m (pc + 1 + 3) ls rest)) : W p l e R s m args below meth c H locs cells slots Q (F0 m pc ls (.long y :: .long x :: rest)) :=
  W.lcmp hexec hb hd1 (lv_if_gt hexec hb hd2 ht (fun h => kt ((lg_cmp_gt x y).mp h)) (fun h => kf (fun z => h ((lg_cmp_gt x y).mpr z))))
theorem xr_lc_ge (hexec : p.tables.exec = Jvm.exec) (hb : c.code = cc) {x y : Int64} {off : Int} {tgt : Nat} (hd1 : decode cc pc = .ok (.lcmp, 1)) (hd2 : decode cc (pc + 1) = .ok (.ifCond .ge off, 3)) (ht : ((pc + 1 : Nat) : Int) + off = (tgt : Int)) (kt : y ≤ x → W p l e R s m args below meth c H locs cells slots Q (F0 m tgt ls rest)) (kf : ¬ y ≤ x → W p l e R s m args below meth c H locs cells slots Q (F0 m (pc + 1 + 3) ls rest)) : W p l e R s m args below meth c H locs cells slots Q (F0 m pc ls (.long y :: .long x :: rest)) :=
  W.lcmp hexec hb hd1 (lv_if_ge hexec hb hd2 ht (fun h => kt ((lg_cmp_ge x y).mp h)) (fun h => kf (fun z => h ((lg_cmp_ge x y).mpr z))))
theorem xr_lc_le (hexec : p.tables.exec = Jvm.exec) (hb : c.code = cc) {x y : Int64} {off : Int} {tgt : Nat} (hd1 : decode cc pc = .ok (.lcmp, 1)) (hd2 : decode cc (pc + 1) = .ok (.ifCond .le off, 3)) (ht : ((pc + 1 : Nat) : Int) + off = (tgt : Int)) (kt : x ≤ y → W p l e R s m args below meth c H locs cells slots Q (F0 m tgt ls rest)) (kf : ¬ x ≤ y → W p l e R s m args below meth c H locs cells slots Q (F0 m (pc + 1 + 3) ls rest)) : W p l e R s m args below meth c H locs cells slots Q (F0 m pc ls (.long y :: .long x :: rest)) :=
  W.lcmp hexec hb hd1 (lv_if_le hexec hb hd2 ht (fun h => kt ((lg_cmp_le x y).mp h)) (fun h => kf (fun z => h ((lg_cmp_le x y).mpr z))))
theorem xr_lc_eq (hexec : p.tables.exec = Jvm.exec) (hb : c.code = cc) {x y : Int64} {off : Int} {tgt : Nat} (hd1 : decode cc pc = .ok (.lcmp, 1)) (hd2 : decode cc (pc + 1) = .ok (.ifCond .eq off, 3)) (ht : ((pc + 1 : Nat) : Int) + off = (tgt : Int)) (kt : x = y → W p l e R s m args below meth c H locs cells slots Q (F0 m tgt ls rest)) (kf : ¬ x = y → W p l e R s m args below meth c H locs cells slots Q (F0 m (pc + 1 + 3) ls rest)) : W p l e R s m args below meth c H locs cells slots Q (F0 m pc ls (.long y :: .long x :: rest)) :=
  W.lcmp hexec hb hd1 (lv_if_eq hexec hb hd2 ht (fun h => kt ((lg_cmp_eq x y).mp h)) (fun h => kf (fun z => h ((lg_cmp_eq x y).mpr z))))
theorem xr_lc_ne (hexec : p.tables.exec = Jvm.exec) (hb : c.code = cc) {x y : Int64} {off : Int} {tgt : Nat} (hd1 : decode cc pc = .ok (.lcmp, 1)) (hd2 : decode cc (pc + 1) = .ok (.ifCond .ne off, 3)) (ht : ((pc + 1 : Nat) : Int) + off = (tgt : Int)) (kt : ¬ x = y → W p l e R s m args below meth c H locs cells slots Q (F0 m tgt ls rest)) (kf : x = y → W p l e R s m args below meth c H locs cells slots Q (F0 m (pc + 1 + 3) ls rest)) : W p l e R s m args below meth c H locs cells slots Q (F0 m pc ls (.long y :: .long x :: rest)) :=
  W.lcmp hexec hb hd1 (lv_if_ne hexec hb hd2 ht (fun h => kt (fun z => h ((lg_cmp_eq x y).mpr z))) (fun h => kf ((lg_cmp_eq x y).mp h)))
end XLC
/-- a truth value as the machine has it -/
def bI (b : Bool) : Int32 := if b then 1 else 0
theorem bI_f {b : Bool} : bI b = 0 ↔ b = false := by cases b <;> decide
theorem bI_t {b : Bool} : ¬ bI b = 0 ↔ b = true := by cases b <;> decide
theorem bI_nar {b : Bool} : narrow .boolean (.int (bI b)) = .int (bI b) := by cases b <;> rfl
theorem bI_fit {b : Bool} : fits .boolean (.int (bI b)) = true := by cases b <;> rfl
theorem bI_1 {b : Bool} (h : b = true) : some (Value.int 1) = some (Value.int (bI b)) := by subst h; rfl
theorem bI_0 {b : Bool} (h : b = false) : some (Value.int 0) = some (Value.int (bI b)) := by subst h; rfl
theorem bI_inj {a b : Bool} : bI a = bI b ↔ a = b := by cases a <;> cases b <;> decide
end
section
theorem us_0 : (Cond.selects R_A y_A_keepBatch y_A_keepBatch : Cond) ∈ xW0 := mW 0 (by decide +kernel) (by decide +kernel)
theorem us_1 : (Cond.selects R_A y_A_batchAt y_A_batchAt : Cond) ∈ xW0 := mW 1 (by decide +kernel) (by decide +kernel)
theorem us_2 : (Cond.selects R_A y_A_passThrough y_A_passThrough : Cond) ∈ xW0 := mW 2 (by decide +kernel) (by decide +kernel)
theorem us_3 : (Cond.selects R_A y_A_stageAt y_A_stageAt : Cond) ∈ xW0 := mW 3 (by decide +kernel) (by decide +kernel)
theorem us_4 : (Cond.selects R_P y_P_countOf y_P_countOf : Cond) ∈ xW0 := mW 4 (by decide +kernel) (by decide +kernel)
theorem us_5 : (Cond.selects R_P y_P_centsOn y_P_centsOn : Cond) ∈ xW0 := mW 5 (by decide +kernel) (by decide +kernel)
theorem us_6 : (Cond.selects R_B y_B_allTold y_B_allTold : Cond) ∈ xW0 := mW 6 (by decide +kernel) (by decide +kernel)
theorem us_7 : (Cond.selects R_M y_M_add y_M_add : Cond) ∈ xW0 := mW 7 (by decide +kernel) (by decide +kernel)
theorem us_8 : (Cond.selects R_M y_M_isBatch y_M_isBatch : Cond) ∈ xW0 := mW 8 (by decide +kernel) (by decide +kernel)
theorem us_9 : (Cond.selects R_M y_M_isStage y_M_isStage : Cond) ∈ xW0 := mW 9 (by decide +kernel) (by decide +kernel)
theorem us_10 : (Cond.selects R_M y_M_worthOf y_M_worthOf : Cond) ∈ xW0 := mW 10 (by decide +kernel) (by decide +kernel)
theorem us_11 : (Cond.selects R_M y_M_priceOn y_M_priceOn : Cond) ∈ xW0 := mW 11 (by decide +kernel) (by decide +kernel)
theorem us_12 : (Cond.selects R_M y_M_told y_M_told : Cond) ∈ xW0 := mW 12 (by decide +kernel) (by decide +kernel)
theorem u_0 : (Cond.initialized R_L : Cond) ∈ xW0 := mW 13 (by decide +kernel) (by decide +kernel)
theorem u_1 : (Cond.initialized R_A : Cond) ∈ xW0 := mW 14 (by decide +kernel) (by decide +kernel)
theorem u_2 : (Cond.initialized R_P : Cond) ∈ xW0 := mW 15 (by decide +kernel) (by decide +kernel)
theorem u_3 : (Cond.initialized R_M : Cond) ∈ xW0 := mW 16 (by decide +kernel) (by decide +kernel)
theorem u_4 : (Cond.initialized R_B : Cond) ∈ xW0 := mW 17 (by decide +kernel) (by decide +kernel)
theorem u_5 : (Cond.initialized R_J : Cond) ∈ xW0 := mW 18 (by decide +kernel) (by decide +kernel)
theorem u_6 : (Cond.initialized R_S : Cond) ∈ xW0 := mW 19 (by decide +kernel) (by decide +kernel)
theorem u_7 : (Cond.initialized R_Q : Cond) ∈ xW0 := mW 20 (by decide +kernel) (by decide +kernel)
theorem u_8 : (Cond.initialized R_R : Cond) ∈ xW0 := mW 21 (by decide +kernel) (by decide +kernel)
theorem u_9 : (Cond.classLink R_L 7 R_A : Cond) ∈ xW0 := mW 22 (by decide +kernel) (by decide +kernel)
theorem u_10 : (Cond.instantiable R_A 10 : Cond) ∈ xW0 := mW 23 (by decide +kernel) (by decide +kernel)
theorem u_11 : (Cond.methodLink R_L 9 y_A_init : Cond) ∈ xW0 := mW 24 (by decide +kernel) (by decide +kernel)
theorem u_12 : (Cond.instanceMethod y_A_init : Cond) ∈ xW0 := mW 25 (by decide +kernel) (by decide +kernel)
theorem u_13 : (Cond.code y_A_init b_A_init 1 none : Cond) ∈ xW0 := mW 26 (by decide +kernel) (by decide +kernel)
theorem u_14 : (Cond.methodLink R_A 1 y_O_init : Cond) ∈ xW0 := mW 27 (by decide +kernel) (by decide +kernel)
theorem u_15 : (Cond.instanceMethod y_O_init : Cond) ∈ xW0 := mW 28 (by decide +kernel) (by decide +kernel)
theorem u_16 : (Cond.code y_O_init ⟨#[0xb1]⟩ 1 none : Cond) ∈ xW0 := mW 29 (by decide +kernel) (by decide +kernel)
theorem u_17 : (Cond.classLink R_A 9 R_B : Cond) ∈ xW0 := mW 30 (by decide +kernel) (by decide +kernel)
theorem u_19 : (Cond.classLink R_A 15 R_S : Cond) ∈ xW0 := mW 32 (by decide +kernel) (by decide +kernel)
theorem u_21 : (Cond.classLink R_A 21 R_R : Cond) ∈ xW0 := mW 34 (by decide +kernel) (by decide +kernel)
theorem u_23 : (Cond.classLink R_A 27 R_P : Cond) ∈ xW0 := mW 36 (by decide +kernel) (by decide +kernel)
theorem u_24 : (Cond.instantiable R_P 3 : Cond) ∈ xW0 := mW 37 (by decide +kernel) (by decide +kernel)
theorem u_25 : (Cond.methodLink R_A 29 y_P_init : Cond) ∈ xW0 := mW 38 (by decide +kernel) (by decide +kernel)
theorem u_26 : (Cond.instanceMethod y_P_init : Cond) ∈ xW0 := mW 39 (by decide +kernel) (by decide +kernel)
theorem u_27 : (Cond.code y_P_init b_P_init 1 none : Cond) ∈ xW0 := mW 40 (by decide +kernel) (by decide +kernel)
theorem u_28 : (Cond.methodLink R_P 3 y_O_init : Cond) ∈ xW0 := mW 41 (by decide +kernel) (by decide +kernel)
theorem u_29 : (Cond.fieldLink R_P 9 "AshMetals$PriceTable" "counts" "[I" : Cond) ∈ xW0 := mW 42 (by decide +kernel) (by decide +kernel)
theorem u_30 : (Cond.fieldLink R_P 15 "AshMetals$PriceTable" "days" "[I" : Cond) ∈ xW0 := mW 43 (by decide +kernel) (by decide +kernel)
theorem u_31 : (Cond.fieldLink R_P 18 "AshMetals$PriceTable" "cents" "[J" : Cond) ∈ xW0 := mW 44 (by decide +kernel) (by decide +kernel)
theorem u_39 : (Cond.arrayClass .int : Cond) ∈ xW0 := mW 52 (by decide +kernel) (by decide +kernel)
theorem u_40 : (Cond.arrayClass .long : Cond) ∈ xW0 := mW 53 (by decide +kernel) (by decide +kernel)
theorem u_41 : (Cond.fieldLink R_A 11 "AshMetals" "batches" "[LAshMetals$Batch;" : Cond) ∈ xW0 := mW 54 (by decide +kernel) (by decide +kernel)
theorem u_42 : (Cond.fieldLink R_A 44 "AshMetals" "batchCount" "I" : Cond) ∈ xW0 := mW 55 (by decide +kernel) (by decide +kernel)
theorem u_43 : (Cond.fieldLink R_A 17 "AshMetals" "stages" "[LAshMetals$Stage;" : Cond) ∈ xW0 := mW 56 (by decide +kernel) (by decide +kernel)
theorem u_44 : (Cond.fieldLink R_A 87 "AshMetals" "stageCount" "I" : Cond) ∈ xW0 := mW 57 (by decide +kernel) (by decide +kernel)
theorem u_45 : (Cond.fieldLink R_A 23 "AshMetals" "rules" "[LAshMetals$Rule;" : Cond) ∈ xW0 := mW 58 (by decide +kernel) (by decide +kernel)
theorem u_46 : (Cond.fieldLink R_A 146 "AshMetals" "ruleCount" "I" : Cond) ∈ xW0 := mW 59 (by decide +kernel) (by decide +kernel)
theorem u_47 : (Cond.fieldLink R_A 30 "AshMetals" "prices" "LAshMetals$PriceTable;" : Cond) ∈ xW0 := mW 60 (by decide +kernel) (by decide +kernel)
theorem u_48 : (Cond.fieldLink R_A 47 "AshMetals" "currentDay" "I" : Cond) ∈ xW0 := mW 61 (by decide +kernel) (by decide +kernel)
theorem u_49 : (Cond.fieldLink R_A 34 "AshMetals" "mostSpread" "I" : Cond) ∈ xW0 := mW 62 (by decide +kernel) (by decide +kernel)
theorem u_50 : (Cond.fieldLink R_A 128 "AshMetals" "income" "J" : Cond) ∈ xW0 := mW 63 (by decide +kernel) (by decide +kernel)
theorem u_72 : (Cond.methodLink R_L 15 y_A_batch : Cond) ∈ xW0 := mW 85 (by decide +kernel) (by decide +kernel)
theorem u_73 : (Cond.instanceMethod y_A_batch : Cond) ∈ xW0 := mW 86 (by decide +kernel) (by decide +kernel)
theorem u_74 : (Cond.selects R_A y_A_batch y_A_batch : Cond) ∈ xW0 := mW 87 (by decide +kernel) (by decide +kernel)
theorem u_75 : (Cond.code y_A_batch b_A_batch 3 (some .int) : Cond) ∈ xW0 := mW 88 (by decide +kernel) (by decide +kernel)
theorem u_76 : (Cond.constantLong R_A 38 1000000000 : Cond) ∈ xW0 := mW 89 (by decide +kernel) (by decide +kernel)
theorem u_77 : (Cond.methodLink R_A 40 y_A_isWithin : Cond) ∈ xW0 := mW 90 (by decide +kernel) (by decide +kernel)
theorem u_78 : (Cond.static y_A_isWithin : Cond) ∈ xW0 := mW 91 (by decide +kernel) (by decide +kernel)
theorem u_79 : (Cond.code y_A_isWithin b_A_isWithin 6 (some .boolean) : Cond) ∈ xW0 := mW 92 (by decide +kernel) (by decide +kernel)
theorem u_80 : (Cond.instantiable R_B 9 : Cond) ∈ xW0 := mW 93 (by decide +kernel) (by decide +kernel)
theorem u_81 : (Cond.methodLink R_A 50 y_B_init : Cond) ∈ xW0 := mW 94 (by decide +kernel) (by decide +kernel)
theorem u_82 : (Cond.instanceMethod y_B_init : Cond) ∈ xW0 := mW 95 (by decide +kernel) (by decide +kernel)
theorem u_83 : (Cond.code y_B_init b_B_init 5 none : Cond) ∈ xW0 := mW 96 (by decide +kernel) (by decide +kernel)
theorem u_84 : (Cond.methodLink R_B 3 y_O_init : Cond) ∈ xW0 := mW 97 (by decide +kernel) (by decide +kernel)
theorem u_85 : (Cond.methodLink R_B 34 y_J_fillI : Cond) ∈ xW0 := mW 98 (by decide +kernel) (by decide +kernel)
theorem u_86 : (Cond.static y_J_fillI : Cond) ∈ xW0 := mW 99 (by decide +kernel) (by decide +kernel)
theorem u_87 : (Cond.code y_J_fillI b_J_fillI 4 none : Cond) ∈ xW0 := mW 100 (by decide +kernel) (by decide +kernel)
theorem u_88 : (Cond.fieldLink R_B 15 "AshMetals$Batch" "day" "I" : Cond) ∈ xW0 := mW 101 (by decide +kernel) (by decide +kernel)
theorem u_89 : (Cond.fieldLink R_R 33 "AshMetals$Batch" "day" "I" : Cond) ∈ xW0 := mW 102 (by decide +kernel) (by decide +kernel)
theorem u_90 : (Cond.fieldLink R_A 175 "AshMetals$Batch" "day" "I" : Cond) ∈ xW0 := mW 103 (by decide +kernel) (by decide +kernel)
theorem u_91 : (Cond.fieldLink R_B 19 "AshMetals$Batch" "mixed" "Z" : Cond) ∈ xW0 := mW 104 (by decide +kernel) (by decide +kernel)
theorem u_92 : (Cond.fieldLink R_A 68 "AshMetals$Batch" "mixed" "Z" : Cond) ∈ xW0 := mW 105 (by decide +kernel) (by decide +kernel)
theorem u_93 : (Cond.fieldLink R_B 23 "AshMetals$Batch" "amounts" "[J" : Cond) ∈ xW0 := mW 106 (by decide +kernel) (by decide +kernel)
theorem u_94 : (Cond.fieldLink R_A 77 "AshMetals$Batch" "amounts" "[J" : Cond) ∈ xW0 := mW 107 (by decide +kernel) (by decide +kernel)
theorem u_95 : (Cond.fieldLink R_B 27 "AshMetals$Batch" "takings" "[J" : Cond) ∈ xW0 := mW 108 (by decide +kernel) (by decide +kernel)
theorem u_96 : (Cond.fieldLink R_A 104 "AshMetals$Batch" "takings" "[J" : Cond) ∈ xW0 := mW 109 (by decide +kernel) (by decide +kernel)
theorem u_97 : (Cond.fieldLink R_B 30 "AshMetals$Batch" "told" "[I" : Cond) ∈ xW0 := mW 110 (by decide +kernel) (by decide +kernel)
theorem u_98 : (Cond.fieldLink R_A 133 "AshMetals$Batch" "told" "[I" : Cond) ∈ xW0 := mW 111 (by decide +kernel) (by decide +kernel)
theorem u_99 : (Cond.fieldLink R_B 9 "AshMetals$Batch" "weight" "J" : Cond) ∈ xW0 := mW 112 (by decide +kernel) (by decide +kernel)
theorem u_100 : (Cond.fieldLink R_A 81 "AshMetals$Batch" "weight" "J" : Cond) ∈ xW0 := mW 113 (by decide +kernel) (by decide +kernel)
theorem u_101 : (Cond.fieldLink R_A 65 "AshMetals$Batch" "wasRun" "Z" : Cond) ∈ xW0 := mW 114 (by decide +kernel) (by decide +kernel)
theorem u_102 : (Cond.fieldLink R_A 61 "AshMetals$Batch" "gone" "Z" : Cond) ∈ xW0 := mW 115 (by decide +kernel) (by decide +kernel)
theorem u_103 : (Cond.fieldLink R_A 99 "AshMetals$Batch" "stagesPassed" "I" : Cond) ∈ xW0 := mW 116 (by decide +kernel) (by decide +kernel)
theorem u_123 : (Cond.methodLink R_A 53 y_A_keepBatch : Cond) ∈ xW0 := mW 136 (by decide +kernel) (by decide +kernel)
theorem u_125 : (Cond.instanceMethod y_A_keepBatch : Cond) ∈ xW0 := mW 138 (by decide +kernel) (by decide +kernel)
theorem u_126 : (Cond.code y_A_keepBatch b_A_keepBatch 2 (some .int) : Cond) ∈ xW0 := mW 139 (by decide +kernel) (by decide +kernel)
theorem u_127 : (Cond.methodLink R_L 20 y_A_parts : Cond) ∈ xW0 := mW 140 (by decide +kernel) (by decide +kernel)
theorem u_128 : (Cond.instanceMethod y_A_parts : Cond) ∈ xW0 := mW 141 (by decide +kernel) (by decide +kernel)
theorem u_129 : (Cond.selects R_A y_A_parts y_A_parts : Cond) ∈ xW0 := mW 142 (by decide +kernel) (by decide +kernel)
theorem u_130 : (Cond.code y_A_parts b_A_parts 5 (some .boolean) : Cond) ∈ xW0 := mW 143 (by decide +kernel) (by decide +kernel)
theorem u_131 : (Cond.methodLink R_A 57 y_A_batchAt : Cond) ∈ xW0 := mW 144 (by decide +kernel) (by decide +kernel)
theorem u_133 : (Cond.instanceMethod y_A_batchAt : Cond) ∈ xW0 := mW 146 (by decide +kernel) (by decide +kernel)
theorem u_134 : (Cond.code y_A_batchAt b_A_batchAt 2 (some (.object "AshMetals$Batch")) : Cond) ∈ xW0 := mW 147 (by decide +kernel) (by decide +kernel)
theorem u_135 : (Cond.methodLink R_A 71 y_A_isMetal : Cond) ∈ xW0 := mW 148 (by decide +kernel) (by decide +kernel)
theorem u_136 : (Cond.static y_A_isMetal : Cond) ∈ xW0 := mW 149 (by decide +kernel) (by decide +kernel)
theorem u_137 : (Cond.code y_A_isMetal b_A_isMetal 1 (some .boolean) : Cond) ∈ xW0 := mW 150 (by decide +kernel) (by decide +kernel)
theorem u_138 : (Cond.constantLong R_A 75 1000000 : Cond) ∈ xW0 := mW 151 (by decide +kernel) (by decide +kernel)
theorem u_139 : (Cond.methodLink R_L 25 y_A_today : Cond) ∈ xW0 := mW 152 (by decide +kernel) (by decide +kernel)
theorem u_140 : (Cond.instanceMethod y_A_today : Cond) ∈ xW0 := mW 153 (by decide +kernel) (by decide +kernel)
theorem u_141 : (Cond.selects R_A y_A_today y_A_today : Cond) ∈ xW0 := mW 154 (by decide +kernel) (by decide +kernel)
theorem u_142 : (Cond.code y_A_today b_A_today 2 (some .boolean) : Cond) ∈ xW0 := mW 155 (by decide +kernel) (by decide +kernel)
theorem u_143 : (Cond.constantLong R_A 85 100000 : Cond) ∈ xW0 := mW 156 (by decide +kernel) (by decide +kernel)
theorem u_144 : (Cond.methodLink R_L 30 y_A_stage : Cond) ∈ xW0 := mW 157 (by decide +kernel) (by decide +kernel)
theorem u_145 : (Cond.instanceMethod y_A_stage : Cond) ∈ xW0 := mW 158 (by decide +kernel) (by decide +kernel)
theorem u_146 : (Cond.selects R_A y_A_stage y_A_stage : Cond) ∈ xW0 := mW 159 (by decide +kernel) (by decide +kernel)
theorem u_147 : (Cond.code y_A_stage b_A_stage 4 (some .int) : Cond) ∈ xW0 := mW 160 (by decide +kernel) (by decide +kernel)
theorem u_148 : (Cond.constantLong R_A 90 1000 : Cond) ∈ xW0 := mW 161 (by decide +kernel) (by decide +kernel)
theorem u_149 : (Cond.instantiable R_S 4 : Cond) ∈ xW0 := mW 162 (by decide +kernel) (by decide +kernel)
theorem u_150 : (Cond.methodLink R_A 92 y_S_init : Cond) ∈ xW0 := mW 163 (by decide +kernel) (by decide +kernel)
theorem u_151 : (Cond.instanceMethod y_S_init : Cond) ∈ xW0 := mW 164 (by decide +kernel) (by decide +kernel)
theorem u_152 : (Cond.code y_S_init b_S_init 4 none : Cond) ∈ xW0 := mW 165 (by decide +kernel) (by decide +kernel)
theorem u_153 : (Cond.methodLink R_S 3 y_O_init : Cond) ∈ xW0 := mW 166 (by decide +kernel) (by decide +kernel)
theorem u_154 : (Cond.fieldLink R_S 9 "AshMetals$Stage" "own" "I" : Cond) ∈ xW0 := mW 167 (by decide +kernel) (by decide +kernel)
theorem u_155 : (Cond.fieldLink R_S 15 "AshMetals$Stage" "ownThousandths" "I" : Cond) ∈ xW0 := mW 168 (by decide +kernel) (by decide +kernel)
theorem u_156 : (Cond.fieldLink R_S 18 "AshMetals$Stage" "otherThousandths" "I" : Cond) ∈ xW0 := mW 169 (by decide +kernel) (by decide +kernel)
theorem u_157 : (Cond.fieldLink R_S 21 "AshMetals$Stage" "store" "[J" : Cond) ∈ xW0 := mW 170 (by decide +kernel) (by decide +kernel)
theorem u_158 : (Cond.fieldLink R_A 111 "AshMetals$Stage" "store" "[J" : Cond) ∈ xW0 := mW 171 (by decide +kernel) (by decide +kernel)
theorem u_168 : (Cond.methodLink R_L 35 y_A_run : Cond) ∈ xW0 := mW 181 (by decide +kernel) (by decide +kernel)
theorem u_169 : (Cond.instanceMethod y_A_run : Cond) ∈ xW0 := mW 182 (by decide +kernel) (by decide +kernel)
theorem u_170 : (Cond.selects R_A y_A_run y_A_run : Cond) ∈ xW0 := mW 183 (by decide +kernel) (by decide +kernel)
theorem u_171 : (Cond.code y_A_run b_A_run 4 (some .int) : Cond) ∈ xW0 := mW 184 (by decide +kernel) (by decide +kernel)
theorem u_172 : (Cond.methodLink R_A 95 y_A_passThrough : Cond) ∈ xW0 := mW 185 (by decide +kernel) (by decide +kernel)
theorem u_174 : (Cond.instanceMethod y_A_passThrough : Cond) ∈ xW0 := mW 187 (by decide +kernel) (by decide +kernel)
theorem u_175 : (Cond.code y_A_passThrough b_A_passThrough 9 none : Cond) ∈ xW0 := mW 188 (by decide +kernel) (by decide +kernel)
theorem u_176 : (Cond.methodLink R_A 107 y_A_stageAt : Cond) ∈ xW0 := mW 189 (by decide +kernel) (by decide +kernel)
theorem u_178 : (Cond.instanceMethod y_A_stageAt : Cond) ∈ xW0 := mW 191 (by decide +kernel) (by decide +kernel)
theorem u_179 : (Cond.code y_A_stageAt b_A_stageAt 2 (some (.object "AshMetals$Stage")) : Cond) ∈ xW0 := mW 192 (by decide +kernel) (by decide +kernel)
theorem u_180 : (Cond.methodLink R_A 166 y_S_thousandthsOf : Cond) ∈ xW0 := mW 193 (by decide +kernel) (by decide +kernel)
theorem u_181 : (Cond.instanceMethod y_S_thousandthsOf : Cond) ∈ xW0 := mW 194 (by decide +kernel) (by decide +kernel)
theorem u_182 : (Cond.selects R_S y_S_thousandthsOf y_S_thousandthsOf : Cond) ∈ xW0 := mW 195 (by decide +kernel) (by decide +kernel)
theorem u_183 : (Cond.code y_S_thousandthsOf b_S_thousandthsOf 2 (some .int) : Cond) ∈ xW0 := mW 196 (by decide +kernel) (by decide +kernel)
theorem u_184 : (Cond.methodLink R_A 169 y_Q_maxJ : Cond) ∈ xW0 := mW 197 (by decide +kernel) (by decide +kernel)
theorem u_185 : (Cond.static y_Q_maxJ : Cond) ∈ xW0 := mW 198 (by decide +kernel) (by decide +kernel)
theorem u_186 : (Cond.code y_Q_maxJ b_Q_maxJ 4 (some .long) : Cond) ∈ xW0 := mW 199 (by decide +kernel) (by decide +kernel)
theorem u_187 : (Cond.methodLink R_L 40 y_A_taken : Cond) ∈ xW0 := mW 200 (by decide +kernel) (by decide +kernel)
theorem u_188 : (Cond.instanceMethod y_A_taken : Cond) ∈ xW0 := mW 201 (by decide +kernel) (by decide +kernel)
theorem u_189 : (Cond.selects R_A y_A_taken y_A_taken : Cond) ∈ xW0 := mW 202 (by decide +kernel) (by decide +kernel)
theorem u_190 : (Cond.code y_A_taken b_A_taken 5 (some .long) : Cond) ∈ xW0 := mW 203 (by decide +kernel) (by decide +kernel)
theorem u_191 : (Cond.constantLong R_A 102 (-1) : Cond) ∈ xW0 := mW 204 (by decide +kernel) (by decide +kernel)
theorem u_192 : (Cond.methodLink R_L 45 y_A_left : Cond) ∈ xW0 := mW 205 (by decide +kernel) (by decide +kernel)
theorem u_193 : (Cond.instanceMethod y_A_left : Cond) ∈ xW0 := mW 206 (by decide +kernel) (by decide +kernel)
theorem u_194 : (Cond.selects R_A y_A_left y_A_left : Cond) ∈ xW0 := mW 207 (by decide +kernel) (by decide +kernel)
theorem u_195 : (Cond.code y_A_left b_A_left 4 (some .long) : Cond) ∈ xW0 := mW 208 (by decide +kernel) (by decide +kernel)
theorem u_196 : (Cond.methodLink R_L 50 y_A_grams : Cond) ∈ xW0 := mW 209 (by decide +kernel) (by decide +kernel)
theorem u_197 : (Cond.instanceMethod y_A_grams : Cond) ∈ xW0 := mW 210 (by decide +kernel) (by decide +kernel)
theorem u_198 : (Cond.selects R_A y_A_grams y_A_grams : Cond) ∈ xW0 := mW 211 (by decide +kernel) (by decide +kernel)
theorem u_199 : (Cond.code y_A_grams b_A_grams 3 (some .long) : Cond) ∈ xW0 := mW 212 (by decide +kernel) (by decide +kernel)
theorem u_200 : (Cond.methodLink R_L 55 y_A_stock : Cond) ∈ xW0 := mW 213 (by decide +kernel) (by decide +kernel)
theorem u_201 : (Cond.instanceMethod y_A_stock : Cond) ∈ xW0 := mW 214 (by decide +kernel) (by decide +kernel)
theorem u_202 : (Cond.selects R_A y_A_stock y_A_stock : Cond) ∈ xW0 := mW 215 (by decide +kernel) (by decide +kernel)
theorem u_203 : (Cond.code y_A_stock b_A_stock 4 (some .long) : Cond) ∈ xW0 := mW 216 (by decide +kernel) (by decide +kernel)
theorem u_204 : (Cond.methodLink R_L 59 y_A_price : Cond) ∈ xW0 := mW 217 (by decide +kernel) (by decide +kernel)
theorem u_205 : (Cond.instanceMethod y_A_price : Cond) ∈ xW0 := mW 218 (by decide +kernel) (by decide +kernel)
theorem u_206 : (Cond.selects R_A y_A_price y_A_price : Cond) ∈ xW0 := mW 219 (by decide +kernel) (by decide +kernel)
theorem u_207 : (Cond.code y_A_price b_A_price 5 (some .boolean) : Cond) ∈ xW0 := mW 220 (by decide +kernel) (by decide +kernel)
theorem u_208 : (Cond.methodLink R_A 114 y_P_append : Cond) ∈ xW0 := mW 221 (by decide +kernel) (by decide +kernel)
theorem u_209 : (Cond.instanceMethod y_P_append : Cond) ∈ xW0 := mW 222 (by decide +kernel) (by decide +kernel)
theorem u_210 : (Cond.selects R_P y_P_append y_P_append : Cond) ∈ xW0 := mW 223 (by decide +kernel) (by decide +kernel)
theorem u_211 : (Cond.code y_P_append b_P_append 7 (some .boolean) : Cond) ∈ xW0 := mW 224 (by decide +kernel) (by decide +kernel)
theorem u_212 : (Cond.methodLink R_P 22 y_P_countOf : Cond) ∈ xW0 := mW 225 (by decide +kernel) (by decide +kernel)
theorem u_214 : (Cond.instanceMethod y_P_countOf : Cond) ∈ xW0 := mW 227 (by decide +kernel) (by decide +kernel)
theorem u_215 : (Cond.code y_P_countOf b_P_countOf 2 (some .int) : Cond) ∈ xW0 := mW 228 (by decide +kernel) (by decide +kernel)
theorem u_217 : (Cond.methodLink R_L 64 y_A_worth : Cond) ∈ xW0 := mW 230 (by decide +kernel) (by decide +kernel)
theorem u_218 : (Cond.instanceMethod y_A_worth : Cond) ∈ xW0 := mW 231 (by decide +kernel) (by decide +kernel)
theorem u_219 : (Cond.selects R_A y_A_worth y_A_worth : Cond) ∈ xW0 := mW 232 (by decide +kernel) (by decide +kernel)
theorem u_220 : (Cond.code y_A_worth b_A_worth 4 (some .long) : Cond) ∈ xW0 := mW 233 (by decide +kernel) (by decide +kernel)
theorem u_221 : (Cond.methodLink R_A 118 y_P_centsFor : Cond) ∈ xW0 := mW 234 (by decide +kernel) (by decide +kernel)
theorem u_222 : (Cond.instanceMethod y_P_centsFor : Cond) ∈ xW0 := mW 235 (by decide +kernel) (by decide +kernel)
theorem u_223 : (Cond.selects R_P y_P_centsFor y_P_centsFor : Cond) ∈ xW0 := mW 236 (by decide +kernel) (by decide +kernel)
theorem u_224 : (Cond.code y_P_centsFor b_P_centsFor 10 (some .long) : Cond) ∈ xW0 := mW 237 (by decide +kernel) (by decide +kernel)
theorem u_225 : (Cond.methodLink R_P 30 y_P_centsOn : Cond) ∈ xW0 := mW 238 (by decide +kernel) (by decide +kernel)
theorem u_227 : (Cond.instanceMethod y_P_centsOn : Cond) ∈ xW0 := mW 240 (by decide +kernel) (by decide +kernel)
theorem u_228 : (Cond.code y_P_centsOn b_P_centsOn 8 (some .long) : Cond) ∈ xW0 := mW 241 (by decide +kernel) (by decide +kernel)
theorem u_229 : (Cond.constantLong R_P 34 1000000 : Cond) ∈ xW0 := mW 242 (by decide +kernel) (by decide +kernel)
theorem u_230 : (Cond.methodLink R_L 68 y_A_sell : Cond) ∈ xW0 := mW 243 (by decide +kernel) (by decide +kernel)
theorem u_231 : (Cond.instanceMethod y_A_sell : Cond) ∈ xW0 := mW 244 (by decide +kernel) (by decide +kernel)
theorem u_232 : (Cond.selects R_A y_A_sell y_A_sell : Cond) ∈ xW0 := mW 245 (by decide +kernel) (by decide +kernel)
theorem u_233 : (Cond.code y_A_sell b_A_sell 5 (some .long) : Cond) ∈ xW0 := mW 246 (by decide +kernel) (by decide +kernel)
theorem u_234 : (Cond.methodLink R_A 122 y_J_fillJ : Cond) ∈ xW0 := mW 247 (by decide +kernel) (by decide +kernel)
theorem u_235 : (Cond.static y_J_fillJ : Cond) ∈ xW0 := mW 248 (by decide +kernel) (by decide +kernel)
theorem u_236 : (Cond.code y_J_fillJ b_J_fillJ 5 none : Cond) ∈ xW0 := mW 249 (by decide +kernel) (by decide +kernel)
theorem u_237 : (Cond.methodLink R_L 72 y_A_money : Cond) ∈ xW0 := mW 250 (by decide +kernel) (by decide +kernel)
theorem u_238 : (Cond.instanceMethod y_A_money : Cond) ∈ xW0 := mW 251 (by decide +kernel) (by decide +kernel)
theorem u_239 : (Cond.selects R_A y_A_money y_A_money : Cond) ∈ xW0 := mW 252 (by decide +kernel) (by decide +kernel)
theorem u_240 : (Cond.code y_A_money b_A_money 1 (some .long) : Cond) ∈ xW0 := mW 253 (by decide +kernel) (by decide +kernel)
theorem u_241 : (Cond.methodLink R_L 77 y_A_assay : Cond) ∈ xW0 := mW 254 (by decide +kernel) (by decide +kernel)
theorem u_242 : (Cond.instanceMethod y_A_assay : Cond) ∈ xW0 := mW 255 (by decide +kernel) (by decide +kernel)
theorem u_243 : (Cond.selects R_A y_A_assay y_A_assay : Cond) ∈ xW0 := mW 256 (by decide +kernel) (by decide +kernel)
theorem u_244 : (Cond.code y_A_assay b_A_assay 6 (some .boolean) : Cond) ∈ xW0 := mW 257 (by decide +kernel) (by decide +kernel)
theorem u_245 : (Cond.constantLong R_A 131 2 : Cond) ∈ xW0 := mW 258 (by decide +kernel) (by decide +kernel)
theorem u_246 : (Cond.methodLink R_L 82 y_A_settled : Cond) ∈ xW0 := mW 259 (by decide +kernel) (by decide +kernel)
theorem u_247 : (Cond.instanceMethod y_A_settled : Cond) ∈ xW0 := mW 260 (by decide +kernel) (by decide +kernel)
theorem u_248 : (Cond.selects R_A y_A_settled y_A_settled : Cond) ∈ xW0 := mW 261 (by decide +kernel) (by decide +kernel)
theorem u_249 : (Cond.code y_A_settled b_A_settled 4 (some .int) : Cond) ∈ xW0 := mW 262 (by decide +kernel) (by decide +kernel)
theorem u_250 : (Cond.methodLink R_A 137 y_B_middleOf : Cond) ∈ xW0 := mW 263 (by decide +kernel) (by decide +kernel)
theorem u_251 : (Cond.instanceMethod y_B_middleOf : Cond) ∈ xW0 := mW 264 (by decide +kernel) (by decide +kernel)
theorem u_252 : (Cond.selects R_B y_B_middleOf y_B_middleOf : Cond) ∈ xW0 := mW 265 (by decide +kernel) (by decide +kernel)
theorem u_253 : (Cond.code y_B_middleOf b_B_middleOf 5 (some .int) : Cond) ∈ xW0 := mW 266 (by decide +kernel) (by decide +kernel)
theorem u_254 : (Cond.methodLink R_B 40 y_B_allTold : Cond) ∈ xW0 := mW 267 (by decide +kernel) (by decide +kernel)
theorem u_256 : (Cond.instanceMethod y_B_allTold : Cond) ∈ xW0 := mW 269 (by decide +kernel) (by decide +kernel)
theorem u_257 : (Cond.code y_B_allTold b_B_allTold 3 (some .boolean) : Cond) ∈ xW0 := mW 270 (by decide +kernel) (by decide +kernel)
theorem u_259 : (Cond.methodLink R_B 44 y_Q_minI : Cond) ∈ xW0 := mW 272 (by decide +kernel) (by decide +kernel)
theorem u_260 : (Cond.static y_Q_minI : Cond) ∈ xW0 := mW 273 (by decide +kernel) (by decide +kernel)
theorem u_261 : (Cond.code y_Q_minI b_Q_minI 2 (some .int) : Cond) ∈ xW0 := mW 274 (by decide +kernel) (by decide +kernel)
theorem u_262 : (Cond.methodLink R_B 50 y_Q_maxI : Cond) ∈ xW0 := mW 275 (by decide +kernel) (by decide +kernel)
theorem u_263 : (Cond.static y_Q_maxI : Cond) ∈ xW0 := mW 276 (by decide +kernel) (by decide +kernel)
theorem u_264 : (Cond.code y_Q_maxI b_Q_maxI 2 (some .int) : Cond) ∈ xW0 := mW 277 (by decide +kernel) (by decide +kernel)
theorem u_265 : (Cond.methodLink R_L 87 y_A_disputed : Cond) ∈ xW0 := mW 278 (by decide +kernel) (by decide +kernel)
theorem u_266 : (Cond.instanceMethod y_A_disputed : Cond) ∈ xW0 := mW 279 (by decide +kernel) (by decide +kernel)
theorem u_267 : (Cond.selects R_A y_A_disputed y_A_disputed : Cond) ∈ xW0 := mW 280 (by decide +kernel) (by decide +kernel)
theorem u_268 : (Cond.code y_A_disputed b_A_disputed 4 (some .boolean) : Cond) ∈ xW0 := mW 281 (by decide +kernel) (by decide +kernel)
theorem u_269 : (Cond.methodLink R_A 141 y_B_spreadOf : Cond) ∈ xW0 := mW 282 (by decide +kernel) (by decide +kernel)
theorem u_270 : (Cond.instanceMethod y_B_spreadOf : Cond) ∈ xW0 := mW 283 (by decide +kernel) (by decide +kernel)
theorem u_271 : (Cond.selects R_B y_B_spreadOf y_B_spreadOf : Cond) ∈ xW0 := mW 284 (by decide +kernel) (by decide +kernel)
theorem u_272 : (Cond.code y_B_spreadOf b_B_spreadOf 5 (some .int) : Cond) ∈ xW0 := mW 285 (by decide +kernel) (by decide +kernel)
theorem u_273 : (Cond.methodLink R_L 92 y_A_tolerance : Cond) ∈ xW0 := mW 286 (by decide +kernel) (by decide +kernel)
theorem u_274 : (Cond.instanceMethod y_A_tolerance : Cond) ∈ xW0 := mW 287 (by decide +kernel) (by decide +kernel)
theorem u_275 : (Cond.selects R_A y_A_tolerance y_A_tolerance : Cond) ∈ xW0 := mW 288 (by decide +kernel) (by decide +kernel)
theorem u_276 : (Cond.code y_A_tolerance b_A_tolerance 2 (some .boolean) : Cond) ∈ xW0 := mW 289 (by decide +kernel) (by decide +kernel)
theorem u_277 : (Cond.methodLink R_L 96 y_A_rule : Cond) ∈ xW0 := mW 290 (by decide +kernel) (by decide +kernel)
theorem u_278 : (Cond.instanceMethod y_A_rule : Cond) ∈ xW0 := mW 291 (by decide +kernel) (by decide +kernel)
theorem u_279 : (Cond.selects R_A y_A_rule y_A_rule : Cond) ∈ xW0 := mW 292 (by decide +kernel) (by decide +kernel)
theorem u_280 : (Cond.code y_A_rule b_A_rule 5 (some .int) : Cond) ∈ xW0 := mW 293 (by decide +kernel) (by decide +kernel)
theorem u_281 : (Cond.constantLong R_A 144 9 : Cond) ∈ xW0 := mW 294 (by decide +kernel) (by decide +kernel)
theorem u_282 : (Cond.instantiable R_R 4 : Cond) ∈ xW0 := mW 295 (by decide +kernel) (by decide +kernel)
theorem u_283 : (Cond.methodLink R_A 149 y_R_init : Cond) ∈ xW0 := mW 296 (by decide +kernel) (by decide +kernel)
theorem u_284 : (Cond.instanceMethod y_R_init : Cond) ∈ xW0 := mW 297 (by decide +kernel) (by decide +kernel)
theorem u_285 : (Cond.code y_R_init b_R_init 5 none : Cond) ∈ xW0 := mW 298 (by decide +kernel) (by decide +kernel)
theorem u_286 : (Cond.methodLink R_R 3 y_O_init : Cond) ∈ xW0 := mW 299 (by decide +kernel) (by decide +kernel)
theorem u_287 : (Cond.fieldLink R_R 9 "AshMetals$Rule" "givenClass" "I" : Cond) ∈ xW0 := mW 300 (by decide +kernel) (by decide +kernel)
theorem u_288 : (Cond.fieldLink R_A 156 "AshMetals$Rule" "givenClass" "I" : Cond) ∈ xW0 := mW 301 (by decide +kernel) (by decide +kernel)
theorem u_289 : (Cond.fieldLink R_R 15 "AshMetals$Rule" "metal" "I" : Cond) ∈ xW0 := mW 302 (by decide +kernel) (by decide +kernel)
theorem u_290 : (Cond.fieldLink R_R 18 "AshMetals$Rule" "limit" "I" : Cond) ∈ xW0 := mW 303 (by decide +kernel) (by decide +kernel)
theorem u_291 : (Cond.fieldLink R_R 21 "AshMetals$Rule" "leastAge" "I" : Cond) ∈ xW0 := mW 304 (by decide +kernel) (by decide +kernel)
theorem u_301 : (Cond.methodLink R_L 101 y_A_cls : Cond) ∈ xW0 := mW 314 (by decide +kernel) (by decide +kernel)
theorem u_302 : (Cond.instanceMethod y_A_cls : Cond) ∈ xW0 := mW 315 (by decide +kernel) (by decide +kernel)
theorem u_303 : (Cond.selects R_A y_A_cls y_A_cls : Cond) ∈ xW0 := mW 316 (by decide +kernel) (by decide +kernel)
theorem u_304 : (Cond.code y_A_cls b_A_cls 5 (some .int) : Cond) ∈ xW0 := mW 317 (by decide +kernel) (by decide +kernel)
theorem u_305 : (Cond.methodLink R_A 152 y_R_fits : Cond) ∈ xW0 := mW 318 (by decide +kernel) (by decide +kernel)
theorem u_306 : (Cond.instanceMethod y_R_fits : Cond) ∈ xW0 := mW 319 (by decide +kernel) (by decide +kernel)
theorem u_307 : (Cond.selects R_R y_R_fits y_R_fits : Cond) ∈ xW0 := mW 320 (by decide +kernel) (by decide +kernel)
theorem u_308 : (Cond.code y_R_fits b_R_fits 5 (some .boolean) : Cond) ∈ xW0 := mW 321 (by decide +kernel) (by decide +kernel)
theorem u_309 : (Cond.methodLink R_R 24 y_B_middleOf : Cond) ∈ xW0 := mW 322 (by decide +kernel) (by decide +kernel)
theorem u_310 : (Cond.methodLink R_R 30 y_B_spreadOf : Cond) ∈ xW0 := mW 323 (by decide +kernel) (by decide +kernel)
theorem u_311 : (Cond.methodLink R_L 105 y_A_mix : Cond) ∈ xW0 := mW 324 (by decide +kernel) (by decide +kernel)
theorem u_312 : (Cond.instanceMethod y_A_mix : Cond) ∈ xW0 := mW 325 (by decide +kernel) (by decide +kernel)
theorem u_313 : (Cond.selects R_A y_A_mix y_A_mix : Cond) ∈ xW0 := mW 326 (by decide +kernel) (by decide +kernel)
theorem u_314 : (Cond.code y_A_mix b_A_mix 5 (some .int) : Cond) ∈ xW0 := mW 327 (by decide +kernel) (by decide +kernel)
theorem u_315 : (Cond.methodLink R_A 159 y_A_mixtureOf : Cond) ∈ xW0 := mW 328 (by decide +kernel) (by decide +kernel)
theorem u_316 : (Cond.static y_A_mixtureOf : Cond) ∈ xW0 := mW 329 (by decide +kernel) (by decide +kernel)
theorem u_317 : (Cond.code y_A_mixtureOf b_A_mixtureOf 4 (some (.object "AshMetals$Batch")) : Cond) ∈ xW0 := mW 330 (by decide +kernel) (by decide +kernel)
theorem u_318 : (Cond.methodLink R_A 178 y_Q_maxI : Cond) ∈ xW0 := mW 331 (by decide +kernel) (by decide +kernel)
theorem u_319 : (Cond.methodLink R_L 109 y_A_dispute : Cond) ∈ xW0 := mW 332 (by decide +kernel) (by decide +kernel)
theorem u_320 : (Cond.instanceMethod y_A_dispute : Cond) ∈ xW0 := mW 333 (by decide +kernel) (by decide +kernel)
theorem u_321 : (Cond.selects R_A y_A_dispute y_A_dispute : Cond) ∈ xW0 := mW 334 (by decide +kernel) (by decide +kernel)
theorem u_322 : (Cond.code y_A_dispute b_A_dispute 5 (some .int) : Cond) ∈ xW0 := mW 335 (by decide +kernel) (by decide +kernel)
theorem u_323 : (Cond.methodLink R_A 163 y_B_hasSpreadAbove : Cond) ∈ xW0 := mW 336 (by decide +kernel) (by decide +kernel)
theorem u_324 : (Cond.instanceMethod y_B_hasSpreadAbove : Cond) ∈ xW0 := mW 337 (by decide +kernel) (by decide +kernel)
theorem u_325 : (Cond.selects R_B y_B_hasSpreadAbove y_B_hasSpreadAbove : Cond) ∈ xW0 := mW 338 (by decide +kernel) (by decide +kernel)
theorem u_326 : (Cond.code y_B_hasSpreadAbove b_B_hasSpreadAbove 3 (some .boolean) : Cond) ∈ xW0 := mW 339 (by decide +kernel) (by decide +kernel)
theorem u_327 : (Cond.methodLink R_B 53 y_B_spreadOf : Cond) ∈ xW0 := mW 340 (by decide +kernel) (by decide +kernel)
theorem u_328 : (Cond.classLink R_L 10 R_M : Cond) ∈ xW0 := mW 341 (by decide +kernel) (by decide +kernel)
theorem u_329 : (Cond.instantiable R_M 26 : Cond) ∈ xW0 := mW 342 (by decide +kernel) (by decide +kernel)
theorem u_330 : (Cond.methodLink R_L 12 y_M_init : Cond) ∈ xW0 := mW 343 (by decide +kernel) (by decide +kernel)
theorem u_331 : (Cond.instanceMethod y_M_init : Cond) ∈ xW0 := mW 344 (by decide +kernel) (by decide +kernel)
theorem u_332 : (Cond.code y_M_init b_M_init 1 none : Cond) ∈ xW0 := mW 345 (by decide +kernel) (by decide +kernel)
theorem u_333 : (Cond.methodLink R_M 1 y_O_init : Cond) ∈ xW0 := mW 346 (by decide +kernel) (by decide +kernel)
theorem u_334 : (Cond.fieldLink R_M 88 "AshMetalsModel" "today" "I" : Cond) ∈ xW0 := mW 347 (by decide +kernel) (by decide +kernel)
theorem u_335 : (Cond.fieldLink R_M 76 "AshMetalsModel" "batches" "I" : Cond) ∈ xW0 := mW 348 (by decide +kernel) (by decide +kernel)
theorem u_336 : (Cond.fieldLink R_M 7 "AshMetalsModel" "weights" "[J" : Cond) ∈ xW0 := mW 349 (by decide +kernel) (by decide +kernel)
theorem u_337 : (Cond.fieldLink R_M 13 "AshMetalsModel" "days" "[I" : Cond) ∈ xW0 := mW 350 (by decide +kernel) (by decide +kernel)
theorem u_338 : (Cond.fieldLink R_M 17 "AshMetalsModel" "gone" "[Z" : Cond) ∈ xW0 := mW 351 (by decide +kernel) (by decide +kernel)
theorem u_339 : (Cond.fieldLink R_M 21 "AshMetalsModel" "mixed" "[Z" : Cond) ∈ xW0 := mW 352 (by decide +kernel) (by decide +kernel)
theorem u_340 : (Cond.fieldLink R_M 24 "AshMetalsModel" "wasRun" "[Z" : Cond) ∈ xW0 := mW 353 (by decide +kernel) (by decide +kernel)
theorem u_341 : (Cond.fieldLink R_M 27 "AshMetalsModel" "runStages" "[I" : Cond) ∈ xW0 := mW 354 (by decide +kernel) (by decide +kernel)
theorem u_342 : (Cond.fieldLink R_M 30 "AshMetalsModel" "amounts" "[J" : Cond) ∈ xW0 := mW 355 (by decide +kernel) (by decide +kernel)
theorem u_343 : (Cond.fieldLink R_M 33 "AshMetalsModel" "takes" "[J" : Cond) ∈ xW0 := mW 356 (by decide +kernel) (by decide +kernel)
theorem u_344 : (Cond.fieldLink R_M 79 "AshMetalsModel" "stages" "I" : Cond) ∈ xW0 := mW 357 (by decide +kernel) (by decide +kernel)
theorem u_345 : (Cond.fieldLink R_M 36 "AshMetalsModel" "owns" "[I" : Cond) ∈ xW0 := mW 358 (by decide +kernel) (by decide +kernel)
theorem u_346 : (Cond.fieldLink R_M 39 "AshMetalsModel" "thousandths" "[I" : Cond) ∈ xW0 := mW 359 (by decide +kernel) (by decide +kernel)
theorem u_347 : (Cond.fieldLink R_M 42 "AshMetalsModel" "drags" "[I" : Cond) ∈ xW0 := mW 360 (by decide +kernel) (by decide +kernel)
theorem u_348 : (Cond.fieldLink R_M 45 "AshMetalsModel" "stocks" "[J" : Cond) ∈ xW0 := mW 361 (by decide +kernel) (by decide +kernel)
theorem u_349 : (Cond.fieldLink R_M 48 "AshMetalsModel" "priceCounts" "[I" : Cond) ∈ xW0 := mW 362 (by decide +kernel) (by decide +kernel)
theorem u_350 : (Cond.fieldLink R_M 51 "AshMetalsModel" "priceDays" "[I" : Cond) ∈ xW0 := mW 363 (by decide +kernel) (by decide +kernel)
theorem u_351 : (Cond.fieldLink R_M 54 "AshMetalsModel" "cents" "[J" : Cond) ∈ xW0 := mW 364 (by decide +kernel) (by decide +kernel)
theorem u_352 : (Cond.fieldLink R_M 121 "AshMetalsModel" "money" "J" : Cond) ∈ xW0 := mW 365 (by decide +kernel) (by decide +kernel)
theorem u_353 : (Cond.fieldLink R_M 57 "AshMetalsModel" "assays" "[I" : Cond) ∈ xW0 := mW 366 (by decide +kernel) (by decide +kernel)
theorem u_354 : (Cond.fieldLink R_M 60 "AshMetalsModel" "tolerance" "I" : Cond) ∈ xW0 := mW 367 (by decide +kernel) (by decide +kernel)
theorem u_355 : (Cond.fieldLink R_M 138 "AshMetalsModel" "rules" "I" : Cond) ∈ xW0 := mW 368 (by decide +kernel) (by decide +kernel)
theorem u_356 : (Cond.fieldLink R_M 64 "AshMetalsModel" "ruleClasses" "[I" : Cond) ∈ xW0 := mW 369 (by decide +kernel) (by decide +kernel)
theorem u_357 : (Cond.fieldLink R_M 67 "AshMetalsModel" "ruleMetals" "[I" : Cond) ∈ xW0 := mW 370 (by decide +kernel) (by decide +kernel)
theorem u_358 : (Cond.fieldLink R_M 70 "AshMetalsModel" "ruleLimits" "[I" : Cond) ∈ xW0 := mW 371 (by decide +kernel) (by decide +kernel)
theorem u_359 : (Cond.fieldLink R_M 73 "AshMetalsModel" "ruleAges" "[I" : Cond) ∈ xW0 := mW 372 (by decide +kernel) (by decide +kernel)
theorem u_413 : (Cond.arrayClass .boolean : Cond) ∈ xW0 := mW 426 (by decide +kernel) (by decide +kernel)
theorem u_414 : (Cond.methodLink R_L 19 y_M_batch : Cond) ∈ xW0 := mW 427 (by decide +kernel) (by decide +kernel)
theorem u_415 : (Cond.instanceMethod y_M_batch : Cond) ∈ xW0 := mW 428 (by decide +kernel) (by decide +kernel)
theorem u_416 : (Cond.selects R_M y_M_batch y_M_batch : Cond) ∈ xW0 := mW 429 (by decide +kernel) (by decide +kernel)
theorem u_417 : (Cond.code y_M_batch b_M_batch 3 (some .int) : Cond) ∈ xW0 := mW 430 (by decide +kernel) (by decide +kernel)
theorem u_418 : (Cond.constantLong R_M 82 1000000000 : Cond) ∈ xW0 := mW 431 (by decide +kernel) (by decide +kernel)
theorem u_419 : (Cond.methodLink R_M 84 y_M_isIn : Cond) ∈ xW0 := mW 432 (by decide +kernel) (by decide +kernel)
theorem u_420 : (Cond.static y_M_isIn : Cond) ∈ xW0 := mW 433 (by decide +kernel) (by decide +kernel)
theorem u_421 : (Cond.code y_M_isIn b_M_isIn 6 (some .boolean) : Cond) ∈ xW0 := mW 434 (by decide +kernel) (by decide +kernel)
theorem u_422 : (Cond.methodLink R_M 91 y_M_add : Cond) ∈ xW0 := mW 435 (by decide +kernel) (by decide +kernel)
theorem u_424 : (Cond.instanceMethod y_M_add : Cond) ∈ xW0 := mW 437 (by decide +kernel) (by decide +kernel)
theorem u_425 : (Cond.code y_M_add b_M_add 5 (some .int) : Cond) ∈ xW0 := mW 438 (by decide +kernel) (by decide +kernel)
theorem u_426 : (Cond.methodLink R_L 24 y_M_parts : Cond) ∈ xW0 := mW 439 (by decide +kernel) (by decide +kernel)
theorem u_427 : (Cond.instanceMethod y_M_parts : Cond) ∈ xW0 := mW 440 (by decide +kernel) (by decide +kernel)
theorem u_428 : (Cond.selects R_M y_M_parts y_M_parts : Cond) ∈ xW0 := mW 441 (by decide +kernel) (by decide +kernel)
theorem u_429 : (Cond.code y_M_parts b_M_parts 4 (some .boolean) : Cond) ∈ xW0 := mW 442 (by decide +kernel) (by decide +kernel)
theorem u_430 : (Cond.methodLink R_M 95 y_M_isBatch : Cond) ∈ xW0 := mW 443 (by decide +kernel) (by decide +kernel)
theorem u_432 : (Cond.instanceMethod y_M_isBatch : Cond) ∈ xW0 := mW 445 (by decide +kernel) (by decide +kernel)
theorem u_433 : (Cond.code y_M_isBatch b_M_isBatch 2 (some .boolean) : Cond) ∈ xW0 := mW 446 (by decide +kernel) (by decide +kernel)
theorem u_434 : (Cond.methodLink R_M 99 y_M_isMetal : Cond) ∈ xW0 := mW 447 (by decide +kernel) (by decide +kernel)
theorem u_435 : (Cond.static y_M_isMetal : Cond) ∈ xW0 := mW 448 (by decide +kernel) (by decide +kernel)
theorem u_436 : (Cond.code y_M_isMetal b_M_isMetal 1 (some .boolean) : Cond) ∈ xW0 := mW 449 (by decide +kernel) (by decide +kernel)
theorem u_437 : (Cond.constantLong R_M 102 1000000 : Cond) ∈ xW0 := mW 450 (by decide +kernel) (by decide +kernel)
theorem u_438 : (Cond.methodLink R_L 29 y_M_today : Cond) ∈ xW0 := mW 451 (by decide +kernel) (by decide +kernel)
theorem u_439 : (Cond.instanceMethod y_M_today : Cond) ∈ xW0 := mW 452 (by decide +kernel) (by decide +kernel)
theorem u_440 : (Cond.selects R_M y_M_today y_M_today : Cond) ∈ xW0 := mW 453 (by decide +kernel) (by decide +kernel)
theorem u_441 : (Cond.code y_M_today b_M_today 2 (some .boolean) : Cond) ∈ xW0 := mW 454 (by decide +kernel) (by decide +kernel)
theorem u_442 : (Cond.constantLong R_M 104 100000 : Cond) ∈ xW0 := mW 455 (by decide +kernel) (by decide +kernel)
theorem u_443 : (Cond.methodLink R_L 49 y_M_left : Cond) ∈ xW0 := mW 456 (by decide +kernel) (by decide +kernel)
theorem u_444 : (Cond.instanceMethod y_M_left : Cond) ∈ xW0 := mW 457 (by decide +kernel) (by decide +kernel)
theorem u_445 : (Cond.selects R_M y_M_left y_M_left : Cond) ∈ xW0 := mW 458 (by decide +kernel) (by decide +kernel)
theorem u_446 : (Cond.code y_M_left b_M_left 3 (some .long) : Cond) ∈ xW0 := mW 459 (by decide +kernel) (by decide +kernel)
theorem u_447 : (Cond.constantLong R_M 106 (-1) : Cond) ∈ xW0 := mW 460 (by decide +kernel) (by decide +kernel)
theorem u_448 : (Cond.methodLink R_L 54 y_M_grams : Cond) ∈ xW0 := mW 461 (by decide +kernel) (by decide +kernel)
theorem u_449 : (Cond.instanceMethod y_M_grams : Cond) ∈ xW0 := mW 462 (by decide +kernel) (by decide +kernel)
theorem u_450 : (Cond.selects R_M y_M_grams y_M_grams : Cond) ∈ xW0 := mW 463 (by decide +kernel) (by decide +kernel)
theorem u_451 : (Cond.code y_M_grams b_M_grams 2 (some .long) : Cond) ∈ xW0 := mW 464 (by decide +kernel) (by decide +kernel)
theorem u_452 : (Cond.methodLink R_L 34 y_M_stage : Cond) ∈ xW0 := mW 465 (by decide +kernel) (by decide +kernel)
theorem u_453 : (Cond.instanceMethod y_M_stage : Cond) ∈ xW0 := mW 466 (by decide +kernel) (by decide +kernel)
theorem u_454 : (Cond.selects R_M y_M_stage y_M_stage : Cond) ∈ xW0 := mW 467 (by decide +kernel) (by decide +kernel)
theorem u_455 : (Cond.code y_M_stage b_M_stage 4 (some .int) : Cond) ∈ xW0 := mW 468 (by decide +kernel) (by decide +kernel)
theorem u_456 : (Cond.constantLong R_M 108 1000 : Cond) ∈ xW0 := mW 469 (by decide +kernel) (by decide +kernel)
theorem u_457 : (Cond.methodLink R_L 39 y_M_run : Cond) ∈ xW0 := mW 470 (by decide +kernel) (by decide +kernel)
theorem u_458 : (Cond.instanceMethod y_M_run : Cond) ∈ xW0 := mW 471 (by decide +kernel) (by decide +kernel)
theorem u_459 : (Cond.selects R_M y_M_run y_M_run : Cond) ∈ xW0 := mW 472 (by decide +kernel) (by decide +kernel)
theorem u_460 : (Cond.code y_M_run b_M_run 9 (some .int) : Cond) ∈ xW0 := mW 473 (by decide +kernel) (by decide +kernel)
theorem u_461 : (Cond.methodLink R_L 44 y_M_taken : Cond) ∈ xW0 := mW 474 (by decide +kernel) (by decide +kernel)
theorem u_462 : (Cond.instanceMethod y_M_taken : Cond) ∈ xW0 := mW 475 (by decide +kernel) (by decide +kernel)
theorem u_463 : (Cond.selects R_M y_M_taken y_M_taken : Cond) ∈ xW0 := mW 476 (by decide +kernel) (by decide +kernel)
theorem u_464 : (Cond.code y_M_taken b_M_taken 4 (some .long) : Cond) ∈ xW0 := mW 477 (by decide +kernel) (by decide +kernel)
theorem u_465 : (Cond.methodLink R_L 58 y_M_stock : Cond) ∈ xW0 := mW 478 (by decide +kernel) (by decide +kernel)
theorem u_466 : (Cond.instanceMethod y_M_stock : Cond) ∈ xW0 := mW 479 (by decide +kernel) (by decide +kernel)
theorem u_467 : (Cond.selects R_M y_M_stock y_M_stock : Cond) ∈ xW0 := mW 480 (by decide +kernel) (by decide +kernel)
theorem u_468 : (Cond.code y_M_stock b_M_stock 3 (some .long) : Cond) ∈ xW0 := mW 481 (by decide +kernel) (by decide +kernel)
theorem u_469 : (Cond.methodLink R_M 110 y_M_isStage : Cond) ∈ xW0 := mW 482 (by decide +kernel) (by decide +kernel)
theorem u_471 : (Cond.instanceMethod y_M_isStage : Cond) ∈ xW0 := mW 484 (by decide +kernel) (by decide +kernel)
theorem u_472 : (Cond.code y_M_isStage b_M_isStage 2 (some .boolean) : Cond) ∈ xW0 := mW 485 (by decide +kernel) (by decide +kernel)
theorem u_473 : (Cond.methodLink R_L 63 y_M_price : Cond) ∈ xW0 := mW 486 (by decide +kernel) (by decide +kernel)
theorem u_474 : (Cond.instanceMethod y_M_price : Cond) ∈ xW0 := mW 487 (by decide +kernel) (by decide +kernel)
theorem u_475 : (Cond.selects R_M y_M_price y_M_price : Cond) ∈ xW0 := mW 488 (by decide +kernel) (by decide +kernel)
theorem u_476 : (Cond.code y_M_price b_M_price 6 (some .boolean) : Cond) ∈ xW0 := mW 489 (by decide +kernel) (by decide +kernel)
theorem u_477 : (Cond.methodLink R_L 67 y_M_worth : Cond) ∈ xW0 := mW 490 (by decide +kernel) (by decide +kernel)
theorem u_478 : (Cond.instanceMethod y_M_worth : Cond) ∈ xW0 := mW 491 (by decide +kernel) (by decide +kernel)
theorem u_479 : (Cond.selects R_M y_M_worth y_M_worth : Cond) ∈ xW0 := mW 492 (by decide +kernel) (by decide +kernel)
theorem u_480 : (Cond.code y_M_worth b_M_worth 3 (some .long) : Cond) ∈ xW0 := mW 493 (by decide +kernel) (by decide +kernel)
theorem u_481 : (Cond.methodLink R_M 117 y_M_worthOf : Cond) ∈ xW0 := mW 494 (by decide +kernel) (by decide +kernel)
theorem u_483 : (Cond.instanceMethod y_M_worthOf : Cond) ∈ xW0 := mW 496 (by decide +kernel) (by decide +kernel)
theorem u_484 : (Cond.code y_M_worthOf b_M_worthOf 9 (some .long) : Cond) ∈ xW0 := mW 497 (by decide +kernel) (by decide +kernel)
theorem u_485 : (Cond.methodLink R_M 113 y_M_priceOn : Cond) ∈ xW0 := mW 498 (by decide +kernel) (by decide +kernel)
theorem u_487 : (Cond.instanceMethod y_M_priceOn : Cond) ∈ xW0 := mW 500 (by decide +kernel) (by decide +kernel)
theorem u_488 : (Cond.code y_M_priceOn b_M_priceOn 6 (some .long) : Cond) ∈ xW0 := mW 501 (by decide +kernel) (by decide +kernel)
theorem u_489 : (Cond.methodLink R_L 71 y_M_sell : Cond) ∈ xW0 := mW 502 (by decide +kernel) (by decide +kernel)
theorem u_490 : (Cond.instanceMethod y_M_sell : Cond) ∈ xW0 := mW 503 (by decide +kernel) (by decide +kernel)
theorem u_491 : (Cond.selects R_M y_M_sell y_M_sell : Cond) ∈ xW0 := mW 504 (by decide +kernel) (by decide +kernel)
theorem u_492 : (Cond.code y_M_sell b_M_sell 5 (some .long) : Cond) ∈ xW0 := mW 505 (by decide +kernel) (by decide +kernel)
theorem u_493 : (Cond.methodLink R_L 76 y_M_money : Cond) ∈ xW0 := mW 506 (by decide +kernel) (by decide +kernel)
theorem u_494 : (Cond.instanceMethod y_M_money : Cond) ∈ xW0 := mW 507 (by decide +kernel) (by decide +kernel)
theorem u_495 : (Cond.selects R_M y_M_money y_M_money : Cond) ∈ xW0 := mW 508 (by decide +kernel) (by decide +kernel)
theorem u_496 : (Cond.code y_M_money b_M_money 1 (some .long) : Cond) ∈ xW0 := mW 509 (by decide +kernel) (by decide +kernel)
theorem u_497 : (Cond.methodLink R_L 81 y_M_assay : Cond) ∈ xW0 := mW 510 (by decide +kernel) (by decide +kernel)
theorem u_498 : (Cond.instanceMethod y_M_assay : Cond) ∈ xW0 := mW 511 (by decide +kernel) (by decide +kernel)
theorem u_499 : (Cond.selects R_M y_M_assay y_M_assay : Cond) ∈ xW0 := mW 512 (by decide +kernel) (by decide +kernel)
theorem u_500 : (Cond.code y_M_assay b_M_assay 5 (some .boolean) : Cond) ∈ xW0 := mW 513 (by decide +kernel) (by decide +kernel)
theorem u_501 : (Cond.constantLong R_M 125 2 : Cond) ∈ xW0 := mW 514 (by decide +kernel) (by decide +kernel)
theorem u_502 : (Cond.methodLink R_L 86 y_M_settled : Cond) ∈ xW0 := mW 515 (by decide +kernel) (by decide +kernel)
theorem u_503 : (Cond.instanceMethod y_M_settled : Cond) ∈ xW0 := mW 516 (by decide +kernel) (by decide +kernel)
theorem u_504 : (Cond.selects R_M y_M_settled y_M_settled : Cond) ∈ xW0 := mW 517 (by decide +kernel) (by decide +kernel)
theorem u_505 : (Cond.code y_M_settled b_M_settled 3 (some .int) : Cond) ∈ xW0 := mW 518 (by decide +kernel) (by decide +kernel)
theorem u_506 : (Cond.methodLink R_M 134 y_M_told : Cond) ∈ xW0 := mW 519 (by decide +kernel) (by decide +kernel)
theorem u_508 : (Cond.instanceMethod y_M_told : Cond) ∈ xW0 := mW 521 (by decide +kernel) (by decide +kernel)
theorem u_509 : (Cond.code y_M_told b_M_told 10 (some .int) : Cond) ∈ xW0 := mW 522 (by decide +kernel) (by decide +kernel)
theorem u_510 : (Cond.methodLink R_M 127 y_M_least : Cond) ∈ xW0 := mW 523 (by decide +kernel) (by decide +kernel)
theorem u_511 : (Cond.static y_M_least : Cond) ∈ xW0 := mW 524 (by decide +kernel) (by decide +kernel)
theorem u_512 : (Cond.code y_M_least b_M_least 2 (some .int) : Cond) ∈ xW0 := mW 525 (by decide +kernel) (by decide +kernel)
theorem u_513 : (Cond.methodLink R_M 131 y_M_greatest : Cond) ∈ xW0 := mW 526 (by decide +kernel) (by decide +kernel)
theorem u_514 : (Cond.static y_M_greatest : Cond) ∈ xW0 := mW 527 (by decide +kernel) (by decide +kernel)
theorem u_515 : (Cond.code y_M_greatest b_M_greatest 2 (some .int) : Cond) ∈ xW0 := mW 528 (by decide +kernel) (by decide +kernel)
theorem u_516 : (Cond.methodLink R_L 91 y_M_disputed : Cond) ∈ xW0 := mW 529 (by decide +kernel) (by decide +kernel)
theorem u_517 : (Cond.instanceMethod y_M_disputed : Cond) ∈ xW0 := mW 530 (by decide +kernel) (by decide +kernel)
theorem u_518 : (Cond.selects R_M y_M_disputed y_M_disputed : Cond) ∈ xW0 := mW 531 (by decide +kernel) (by decide +kernel)
theorem u_519 : (Cond.code y_M_disputed b_M_disputed 3 (some .boolean) : Cond) ∈ xW0 := mW 532 (by decide +kernel) (by decide +kernel)
theorem u_520 : (Cond.methodLink R_L 95 y_M_tolerance : Cond) ∈ xW0 := mW 533 (by decide +kernel) (by decide +kernel)
theorem u_521 : (Cond.instanceMethod y_M_tolerance : Cond) ∈ xW0 := mW 534 (by decide +kernel) (by decide +kernel)
theorem u_522 : (Cond.selects R_M y_M_tolerance y_M_tolerance : Cond) ∈ xW0 := mW 535 (by decide +kernel) (by decide +kernel)
theorem u_523 : (Cond.code y_M_tolerance b_M_tolerance 2 (some .boolean) : Cond) ∈ xW0 := mW 536 (by decide +kernel) (by decide +kernel)
theorem u_524 : (Cond.methodLink R_L 100 y_M_rule : Cond) ∈ xW0 := mW 537 (by decide +kernel) (by decide +kernel)
theorem u_525 : (Cond.instanceMethod y_M_rule : Cond) ∈ xW0 := mW 538 (by decide +kernel) (by decide +kernel)
theorem u_526 : (Cond.selects R_M y_M_rule y_M_rule : Cond) ∈ xW0 := mW 539 (by decide +kernel) (by decide +kernel)
theorem u_527 : (Cond.code y_M_rule b_M_rule 5 (some .int) : Cond) ∈ xW0 := mW 540 (by decide +kernel) (by decide +kernel)
theorem u_528 : (Cond.constantLong R_M 141 9 : Cond) ∈ xW0 := mW 541 (by decide +kernel) (by decide +kernel)
theorem u_529 : (Cond.methodLink R_L 104 y_M_cls : Cond) ∈ xW0 := mW 542 (by decide +kernel) (by decide +kernel)
theorem u_530 : (Cond.instanceMethod y_M_cls : Cond) ∈ xW0 := mW 543 (by decide +kernel) (by decide +kernel)
theorem u_531 : (Cond.selects R_M y_M_cls y_M_cls : Cond) ∈ xW0 := mW 544 (by decide +kernel) (by decide +kernel)
theorem u_532 : (Cond.code y_M_cls b_M_cls 4 (some .int) : Cond) ∈ xW0 := mW 545 (by decide +kernel) (by decide +kernel)
theorem u_533 : (Cond.methodLink R_M 143 y_M_disputed : Cond) ∈ xW0 := mW 546 (by decide +kernel) (by decide +kernel)
theorem u_534 : (Cond.methodLink R_L 108 y_M_mix : Cond) ∈ xW0 := mW 547 (by decide +kernel) (by decide +kernel)
theorem u_535 : (Cond.instanceMethod y_M_mix : Cond) ∈ xW0 := mW 548 (by decide +kernel) (by decide +kernel)
theorem u_536 : (Cond.selects R_M y_M_mix y_M_mix : Cond) ∈ xW0 := mW 549 (by decide +kernel) (by decide +kernel)
theorem u_537 : (Cond.code y_M_mix b_M_mix 5 (some .int) : Cond) ∈ xW0 := mW 550 (by decide +kernel) (by decide +kernel)
theorem u_538 : (Cond.methodLink R_L 112 y_M_dispute : Cond) ∈ xW0 := mW 551 (by decide +kernel) (by decide +kernel)
theorem u_539 : (Cond.instanceMethod y_M_dispute : Cond) ∈ xW0 := mW 552 (by decide +kernel) (by decide +kernel)
theorem u_540 : (Cond.selects R_M y_M_dispute y_M_dispute : Cond) ∈ xW0 := mW 553 (by decide +kernel) (by decide +kernel)
theorem u_541 : (Cond.code y_M_dispute b_M_dispute 6 (some .int) : Cond) ∈ xW0 := mW 554 (by decide +kernel) (by decide +kernel)
theorem u_542 : (Cond.constantLong R_L 13 4294967295 : Cond) ∈ xW0 := mW 555 (by decide +kernel) (by decide +kernel)
theorem inl_A : ∀ w ∈ u_ws R_A T_A 10, w ∈ lw_tbl := by decide +kernel
theorem in_A : ∀ w ∈ u_ws R_A T_A 10, w ∈ xW0 := fun w h => List.mem_filter.mpr ⟨inl_A w h, (show ∀ w ∈ u_ws R_A T_A 10, goodWord w = true by decide +kernel) w h⟩
theorem inl_B : ∀ w ∈ u_ws R_B T_B 9, w ∈ lw_tbl := by decide +kernel
theorem in_B : ∀ w ∈ u_ws R_B T_B 9, w ∈ xW0 := fun w h => List.mem_filter.mpr ⟨inl_B w h, (show ∀ w ∈ u_ws R_B T_B 9, goodWord w = true by decide +kernel) w h⟩
theorem inl_S : ∀ w ∈ u_ws R_S T_S 4, w ∈ lw_tbl := by decide +kernel
theorem in_S : ∀ w ∈ u_ws R_S T_S 4, w ∈ xW0 := fun w h => List.mem_filter.mpr ⟨inl_S w h, (show ∀ w ∈ u_ws R_S T_S 4, goodWord w = true by decide +kernel) w h⟩
theorem inl_R : ∀ w ∈ u_ws R_R T_R 4, w ∈ lw_tbl := by decide +kernel
theorem in_R : ∀ w ∈ u_ws R_R T_R 4, w ∈ xW0 := fun w h => List.mem_filter.mpr ⟨inl_R w h, (show ∀ w ∈ u_ws R_R T_R 4, goodWord w = true by decide +kernel) w h⟩
theorem inl_P : ∀ w ∈ u_ws R_P T_P 3, w ∈ lw_tbl := by decide +kernel
theorem in_P : ∀ w ∈ u_ws R_P T_P 3, w ∈ xW0 := fun w h => List.mem_filter.mpr ⟨inl_P w h, (show ∀ w ∈ u_ws R_P T_P 3, goodWord w = true by decide +kernel) w h⟩
theorem inl_M : ∀ w ∈ u_ws R_M T_M 26, w ∈ lw_tbl := by decide +kernel
theorem in_M : ∀ w ∈ u_ws R_M T_M 26, w ∈ xW0 := fun w h => List.mem_filter.mpr ⟨inl_M w h, (show ∀ w ∈ u_ws R_M T_M 26, goodWord w = true by decide +kernel) w h⟩
def xNW : List Cond := [Cond.methodLinkNest R_P 26 y_A_isMetal R_A, Cond.methodLinkNest R_B 57 y_A_isMetal R_A, Cond.arrayOver (.object R_B), Cond.arrayOver (.object R_S), Cond.arrayOver (.object R_R)]
theorem xNW_in : ∀ w ∈ xNW, w ∈ lw_tbl := by decide +kernel
theorem xNW_g : ∀ w ∈ xNW, xg w := by
  intro w hw
  simp only [xNW, List.mem_cons, List.not_mem_nil, or_false] at hw
  rcases hw with rfl | rfl | rfl | rfl | rfl
  · exact Or.inl ⟨_, _, _, _, rfl⟩
  · exact Or.inl ⟨_, _, _, _, rfl⟩
  · exact Or.inr (Or.inr ⟨_, rfl⟩)
  · exact Or.inr (Or.inr ⟨_, rfl⟩)
  · exact Or.inr (Or.inr ⟨_, rfl⟩)
end
section
theorem d_A_init_0 : decode b_A_init 0 = .ok (.aload_n 0, 1) := by decide +kernel
theorem d_A_init_1 : decode b_A_init 1 = .ok (.invokespecial 1, 3) := by decide +kernel
theorem d_A_init_4 : decode b_A_init 4 = .ok (.aload_n 0, 1) := by decide +kernel
theorem d_A_init_5 : decode b_A_init 5 = .ok (.bipush 8, 2) := by decide +kernel
theorem d_A_init_7 : decode b_A_init 7 = .ok (.anewarray 9, 3) := by decide +kernel
theorem d_A_init_10 : decode b_A_init 10 = .ok (.putfield 11, 3) := by decide +kernel
theorem d_A_init_13 : decode b_A_init 13 = .ok (.aload_n 0, 1) := by decide +kernel
theorem d_A_init_14 : decode b_A_init 14 = .ok (.bipush 6, 2) := by decide +kernel
theorem d_A_init_16 : decode b_A_init 16 = .ok (.anewarray 15, 3) := by decide +kernel
theorem d_A_init_19 : decode b_A_init 19 = .ok (.putfield 17, 3) := by decide +kernel
theorem d_A_init_22 : decode b_A_init 22 = .ok (.aload_n 0, 1) := by decide +kernel
theorem d_A_init_23 : decode b_A_init 23 = .ok (.bipush 8, 2) := by decide +kernel
theorem d_A_init_25 : decode b_A_init 25 = .ok (.anewarray 21, 3) := by decide +kernel
theorem d_A_init_28 : decode b_A_init 28 = .ok (.putfield 23, 3) := by decide +kernel
theorem d_A_init_31 : decode b_A_init 31 = .ok (.aload_n 0, 1) := by decide +kernel
theorem d_A_init_32 : decode b_A_init 32 = .ok (.new 27, 3) := by decide +kernel
theorem d_A_init_35 : decode b_A_init 35 = .ok (.dup, 1) := by decide +kernel
theorem d_A_init_36 : decode b_A_init 36 = .ok (.invokespecial 29, 3) := by decide +kernel
theorem d_A_init_39 : decode b_A_init 39 = .ok (.putfield 30, 3) := by decide +kernel
theorem d_A_init_42 : decode b_A_init 42 = .ok (.aload_n 0, 1) := by decide +kernel
theorem d_A_init_43 : decode b_A_init 43 = .ok (.bipush 50, 2) := by decide +kernel
theorem d_A_init_45 : decode b_A_init 45 = .ok (.putfield 34, 3) := by decide +kernel
theorem d_A_init_48 : decode b_A_init 48 = .ok (.return_, 1) := by decide +kernel
theorem d_A_batch_0 : decode b_A_batch 0 = .ok (.lload_n 1, 1) := by decide +kernel
theorem d_A_batch_1 : decode b_A_batch 1 = .ok (.lconst 1, 1) := by decide +kernel
theorem d_A_batch_2 : decode b_A_batch 2 = .ok (.ldc2_w 38, 3) := by decide +kernel
theorem d_A_batch_5 : decode b_A_batch 5 = .ok (.invokestatic 40, 3) := by decide +kernel
theorem d_A_batch_8 : decode b_A_batch 8 = .ok (.ifCond .eq 12, 3) := by decide +kernel
theorem d_A_batch_11 : decode b_A_batch 11 = .ok (.aload_n 0, 1) := by decide +kernel
theorem d_A_batch_12 : decode b_A_batch 12 = .ok (.getfield 44, 3) := by decide +kernel
theorem d_A_batch_15 : decode b_A_batch 15 = .ok (.bipush 8, 2) := by decide +kernel
theorem d_A_batch_17 : decode b_A_batch 17 = .ok (.if_icmp .lt 5, 3) := by decide +kernel
theorem d_A_batch_20 : decode b_A_batch 20 = .ok (.iconst (-1), 1) := by decide +kernel
theorem d_A_batch_21 : decode b_A_batch 21 = .ok (.ireturn, 1) := by decide +kernel
theorem d_A_batch_22 : decode b_A_batch 22 = .ok (.aload_n 0, 1) := by decide +kernel
theorem d_A_batch_23 : decode b_A_batch 23 = .ok (.new 9, 3) := by decide +kernel
theorem d_A_batch_26 : decode b_A_batch 26 = .ok (.dup, 1) := by decide +kernel
theorem d_A_batch_27 : decode b_A_batch 27 = .ok (.lload_n 1, 1) := by decide +kernel
theorem d_A_batch_28 : decode b_A_batch 28 = .ok (.aload_n 0, 1) := by decide +kernel
theorem d_A_batch_29 : decode b_A_batch 29 = .ok (.getfield 47, 3) := by decide +kernel
theorem d_A_batch_32 : decode b_A_batch 32 = .ok (.iconst 0, 1) := by decide +kernel
theorem d_A_batch_33 : decode b_A_batch 33 = .ok (.invokespecial 50, 3) := by decide +kernel
theorem d_A_batch_36 : decode b_A_batch 36 = .ok (.invokevirtual 53, 3) := by decide +kernel
theorem d_A_batch_39 : decode b_A_batch 39 = .ok (.ireturn, 1) := by decide +kernel
theorem d_A_parts_0 : decode b_A_parts 0 = .ok (.aload_n 0, 1) := by decide +kernel
theorem d_A_parts_1 : decode b_A_parts 1 = .ok (.iload_n 1, 1) := by decide +kernel
theorem d_A_parts_2 : decode b_A_parts 2 = .ok (.invokevirtual 57, 3) := by decide +kernel
theorem d_A_parts_5 : decode b_A_parts 5 = .ok (.astore 4, 2) := by decide +kernel
theorem d_A_parts_7 : decode b_A_parts 7 = .ok (.aload 4, 2) := by decide +kernel
theorem d_A_parts_9 : decode b_A_parts 9 = .ok (.ifnull 27, 3) := by decide +kernel
theorem d_A_parts_12 : decode b_A_parts 12 = .ok (.aload 4, 2) := by decide +kernel
theorem d_A_parts_14 : decode b_A_parts 14 = .ok (.getfield 61, 3) := by decide +kernel
theorem d_A_parts_17 : decode b_A_parts 17 = .ok (.ifCond .ne 19, 3) := by decide +kernel
theorem d_A_parts_20 : decode b_A_parts 20 = .ok (.aload 4, 2) := by decide +kernel
theorem d_A_parts_22 : decode b_A_parts 22 = .ok (.getfield 65, 3) := by decide +kernel
theorem d_A_parts_25 : decode b_A_parts 25 = .ok (.ifCond .ne 11, 3) := by decide +kernel
theorem d_A_parts_28 : decode b_A_parts 28 = .ok (.aload 4, 2) := by decide +kernel
theorem d_A_parts_30 : decode b_A_parts 30 = .ok (.getfield 68, 3) := by decide +kernel
theorem d_A_parts_33 : decode b_A_parts 33 = .ok (.ifCond .eq 5, 3) := by decide +kernel
theorem d_A_parts_36 : decode b_A_parts 36 = .ok (.iconst 0, 1) := by decide +kernel
theorem d_A_parts_37 : decode b_A_parts 37 = .ok (.ireturn, 1) := by decide +kernel
theorem d_A_parts_38 : decode b_A_parts 38 = .ok (.iload_n 2, 1) := by decide +kernel
theorem d_A_parts_39 : decode b_A_parts 39 = .ok (.invokestatic 71, 3) := by decide +kernel
theorem d_A_parts_42 : decode b_A_parts 42 = .ok (.ifCond .eq 15, 3) := by decide +kernel
theorem d_A_parts_45 : decode b_A_parts 45 = .ok (.iload_n 3, 1) := by decide +kernel
theorem d_A_parts_46 : decode b_A_parts 46 = .ok (.i2l, 1) := by decide +kernel
theorem d_A_parts_47 : decode b_A_parts 47 = .ok (.lconst 0, 1) := by decide +kernel
theorem d_A_parts_48 : decode b_A_parts 48 = .ok (.ldc2_w 75, 3) := by decide +kernel
theorem d_A_parts_51 : decode b_A_parts 51 = .ok (.invokestatic 40, 3) := by decide +kernel
theorem d_A_parts_54 : decode b_A_parts 54 = .ok (.ifCond .ne 5, 3) := by decide +kernel
theorem d_A_parts_57 : decode b_A_parts 57 = .ok (.iconst 0, 1) := by decide +kernel
theorem d_A_parts_58 : decode b_A_parts 58 = .ok (.ireturn, 1) := by decide +kernel
theorem d_A_parts_59 : decode b_A_parts 59 = .ok (.aload 4, 2) := by decide +kernel
theorem d_A_parts_61 : decode b_A_parts 61 = .ok (.getfield 77, 3) := by decide +kernel
theorem d_A_parts_64 : decode b_A_parts 64 = .ok (.iload_n 2, 1) := by decide +kernel
theorem d_A_parts_65 : decode b_A_parts 65 = .ok (.aload 4, 2) := by decide +kernel
theorem d_A_parts_67 : decode b_A_parts 67 = .ok (.getfield 81, 3) := by decide +kernel
theorem d_A_parts_70 : decode b_A_parts 70 = .ok (.iload_n 3, 1) := by decide +kernel
theorem d_A_parts_71 : decode b_A_parts 71 = .ok (.i2l, 1) := by decide +kernel
theorem d_A_parts_72 : decode b_A_parts 72 = .ok (.lmul, 1) := by decide +kernel
theorem d_A_parts_73 : decode b_A_parts 73 = .ok (.lastore, 1) := by decide +kernel
theorem d_A_parts_74 : decode b_A_parts 74 = .ok (.iconst 1, 1) := by decide +kernel
theorem d_A_parts_75 : decode b_A_parts 75 = .ok (.ireturn, 1) := by decide +kernel
theorem d_A_today_0 : decode b_A_today 0 = .ok (.iload_n 1, 1) := by decide +kernel
theorem d_A_today_1 : decode b_A_today 1 = .ok (.i2l, 1) := by decide +kernel
theorem d_A_today_2 : decode b_A_today 2 = .ok (.aload_n 0, 1) := by decide +kernel
theorem d_A_today_3 : decode b_A_today 3 = .ok (.getfield 47, 3) := by decide +kernel
theorem d_A_today_6 : decode b_A_today 6 = .ok (.i2l, 1) := by decide +kernel
theorem d_A_today_7 : decode b_A_today 7 = .ok (.ldc2_w 85, 3) := by decide +kernel
theorem d_A_today_10 : decode b_A_today 10 = .ok (.invokestatic 40, 3) := by decide +kernel
theorem d_A_today_13 : decode b_A_today 13 = .ok (.ifCond .ne 5, 3) := by decide +kernel
theorem d_A_today_16 : decode b_A_today 16 = .ok (.iconst 0, 1) := by decide +kernel
theorem d_A_today_17 : decode b_A_today 17 = .ok (.ireturn, 1) := by decide +kernel
theorem d_A_today_18 : decode b_A_today 18 = .ok (.aload_n 0, 1) := by decide +kernel
theorem d_A_today_19 : decode b_A_today 19 = .ok (.iload_n 1, 1) := by decide +kernel
theorem d_A_today_20 : decode b_A_today 20 = .ok (.putfield 47, 3) := by decide +kernel
theorem d_A_today_23 : decode b_A_today 23 = .ok (.iconst 1, 1) := by decide +kernel
theorem d_A_today_24 : decode b_A_today 24 = .ok (.ireturn, 1) := by decide +kernel
theorem d_A_stage_0 : decode b_A_stage 0 = .ok (.iload_n 1, 1) := by decide +kernel
theorem d_A_stage_1 : decode b_A_stage 1 = .ok (.invokestatic 71, 3) := by decide +kernel
theorem d_A_stage_4 : decode b_A_stage 4 = .ok (.ifCond .eq 12, 3) := by decide +kernel
theorem d_A_stage_7 : decode b_A_stage 7 = .ok (.aload_n 0, 1) := by decide +kernel
theorem d_A_stage_8 : decode b_A_stage 8 = .ok (.getfield 87, 3) := by decide +kernel
theorem d_A_stage_11 : decode b_A_stage 11 = .ok (.bipush 6, 2) := by decide +kernel
theorem d_A_stage_13 : decode b_A_stage 13 = .ok (.if_icmp .lt 5, 3) := by decide +kernel
theorem d_A_stage_16 : decode b_A_stage 16 = .ok (.iconst (-1), 1) := by decide +kernel
theorem d_A_stage_17 : decode b_A_stage 17 = .ok (.ireturn, 1) := by decide +kernel
theorem d_A_stage_18 : decode b_A_stage 18 = .ok (.iload_n 2, 1) := by decide +kernel
theorem d_A_stage_19 : decode b_A_stage 19 = .ok (.i2l, 1) := by decide +kernel
theorem d_A_stage_20 : decode b_A_stage 20 = .ok (.lconst 0, 1) := by decide +kernel
theorem d_A_stage_21 : decode b_A_stage 21 = .ok (.ldc2_w 90, 3) := by decide +kernel
theorem d_A_stage_24 : decode b_A_stage 24 = .ok (.invokestatic 40, 3) := by decide +kernel
theorem d_A_stage_27 : decode b_A_stage 27 = .ok (.ifCond .eq 15, 3) := by decide +kernel
theorem d_A_stage_30 : decode b_A_stage 30 = .ok (.iload_n 3, 1) := by decide +kernel
theorem d_A_stage_31 : decode b_A_stage 31 = .ok (.i2l, 1) := by decide +kernel
theorem d_A_stage_32 : decode b_A_stage 32 = .ok (.lconst 0, 1) := by decide +kernel
theorem d_A_stage_33 : decode b_A_stage 33 = .ok (.ldc2_w 90, 3) := by decide +kernel
theorem d_A_stage_36 : decode b_A_stage 36 = .ok (.invokestatic 40, 3) := by decide +kernel
theorem d_A_stage_39 : decode b_A_stage 39 = .ok (.ifCond .ne 5, 3) := by decide +kernel
theorem d_A_stage_42 : decode b_A_stage 42 = .ok (.iconst (-1), 1) := by decide +kernel
theorem d_A_stage_43 : decode b_A_stage 43 = .ok (.ireturn, 1) := by decide +kernel
theorem d_A_stage_44 : decode b_A_stage 44 = .ok (.aload_n 0, 1) := by decide +kernel
theorem d_A_stage_45 : decode b_A_stage 45 = .ok (.getfield 17, 3) := by decide +kernel
theorem d_A_stage_48 : decode b_A_stage 48 = .ok (.aload_n 0, 1) := by decide +kernel
theorem d_A_stage_49 : decode b_A_stage 49 = .ok (.getfield 87, 3) := by decide +kernel
theorem d_A_stage_52 : decode b_A_stage 52 = .ok (.new 15, 3) := by decide +kernel
theorem d_A_stage_55 : decode b_A_stage 55 = .ok (.dup, 1) := by decide +kernel
theorem d_A_stage_56 : decode b_A_stage 56 = .ok (.iload_n 1, 1) := by decide +kernel
theorem d_A_stage_57 : decode b_A_stage 57 = .ok (.iload_n 2, 1) := by decide +kernel
theorem d_A_stage_58 : decode b_A_stage 58 = .ok (.iload_n 3, 1) := by decide +kernel
theorem d_A_stage_59 : decode b_A_stage 59 = .ok (.invokespecial 92, 3) := by decide +kernel
theorem d_A_stage_62 : decode b_A_stage 62 = .ok (.aastore, 1) := by decide +kernel
theorem d_A_stage_63 : decode b_A_stage 63 = .ok (.aload_n 0, 1) := by decide +kernel
theorem d_A_stage_64 : decode b_A_stage 64 = .ok (.dup, 1) := by decide +kernel
theorem d_A_stage_65 : decode b_A_stage 65 = .ok (.getfield 87, 3) := by decide +kernel
theorem d_A_stage_68 : decode b_A_stage 68 = .ok (.iconst 1, 1) := by decide +kernel
theorem d_A_stage_69 : decode b_A_stage 69 = .ok (.iadd, 1) := by decide +kernel
theorem d_A_stage_70 : decode b_A_stage 70 = .ok (.putfield 87, 3) := by decide +kernel
theorem d_A_stage_73 : decode b_A_stage 73 = .ok (.aload_n 0, 1) := by decide +kernel
theorem d_A_stage_74 : decode b_A_stage 74 = .ok (.getfield 87, 3) := by decide +kernel
theorem d_A_stage_77 : decode b_A_stage 77 = .ok (.iconst 1, 1) := by decide +kernel
theorem d_A_stage_78 : decode b_A_stage 78 = .ok (.isub, 1) := by decide +kernel
theorem d_A_stage_79 : decode b_A_stage 79 = .ok (.ireturn, 1) := by decide +kernel
theorem d_A_run_0 : decode b_A_run 0 = .ok (.aload_n 0, 1) := by decide +kernel
theorem d_A_run_1 : decode b_A_run 1 = .ok (.iload_n 1, 1) := by decide +kernel
theorem d_A_run_2 : decode b_A_run 2 = .ok (.invokevirtual 57, 3) := by decide +kernel
theorem d_A_run_5 : decode b_A_run 5 = .ok (.astore_n 2, 1) := by decide +kernel
theorem d_A_run_6 : decode b_A_run 6 = .ok (.aload_n 2, 1) := by decide +kernel
theorem d_A_run_7 : decode b_A_run 7 = .ok (.ifnull 17, 3) := by decide +kernel
theorem d_A_run_10 : decode b_A_run 10 = .ok (.aload_n 2, 1) := by decide +kernel
theorem d_A_run_11 : decode b_A_run 11 = .ok (.getfield 61, 3) := by decide +kernel
theorem d_A_run_14 : decode b_A_run 14 = .ok (.ifCond .ne 10, 3) := by decide +kernel
theorem d_A_run_17 : decode b_A_run 17 = .ok (.aload_n 2, 1) := by decide +kernel
theorem d_A_run_18 : decode b_A_run 18 = .ok (.getfield 65, 3) := by decide +kernel
theorem d_A_run_21 : decode b_A_run 21 = .ok (.ifCond .eq 5, 3) := by decide +kernel
theorem d_A_run_24 : decode b_A_run 24 = .ok (.iconst (-1), 1) := by decide +kernel
theorem d_A_run_25 : decode b_A_run 25 = .ok (.ireturn, 1) := by decide +kernel
theorem d_A_run_26 : decode b_A_run 26 = .ok (.iconst 0, 1) := by decide +kernel
theorem d_A_run_27 : decode b_A_run 27 = .ok (.istore_n 3, 1) := by decide +kernel
theorem d_A_run_28 : decode b_A_run 28 = .ok (.iload_n 3, 1) := by decide +kernel
theorem d_A_run_29 : decode b_A_run 29 = .ok (.aload_n 0, 1) := by decide +kernel
theorem d_A_run_30 : decode b_A_run 30 = .ok (.getfield 87, 3) := by decide +kernel
theorem d_A_run_33 : decode b_A_run 33 = .ok (.if_icmp .ge 15, 3) := by decide +kernel
theorem d_A_run_36 : decode b_A_run 36 = .ok (.aload_n 0, 1) := by decide +kernel
theorem d_A_run_37 : decode b_A_run 37 = .ok (.aload_n 2, 1) := by decide +kernel
theorem d_A_run_38 : decode b_A_run 38 = .ok (.iload_n 3, 1) := by decide +kernel
theorem d_A_run_39 : decode b_A_run 39 = .ok (.invokevirtual 95, 3) := by decide +kernel
theorem d_A_run_42 : decode b_A_run 42 = .ok (.iinc 3 1, 3) := by decide +kernel
theorem d_A_run_45 : decode b_A_run 45 = .ok (.goto (-17), 3) := by decide +kernel
theorem d_A_run_48 : decode b_A_run 48 = .ok (.aload_n 2, 1) := by decide +kernel
theorem d_A_run_49 : decode b_A_run 49 = .ok (.iconst 1, 1) := by decide +kernel
theorem d_A_run_50 : decode b_A_run 50 = .ok (.putfield 65, 3) := by decide +kernel
theorem d_A_run_53 : decode b_A_run 53 = .ok (.aload_n 2, 1) := by decide +kernel
theorem d_A_run_54 : decode b_A_run 54 = .ok (.aload_n 0, 1) := by decide +kernel
theorem d_A_run_55 : decode b_A_run 55 = .ok (.getfield 87, 3) := by decide +kernel
theorem d_A_run_58 : decode b_A_run 58 = .ok (.putfield 99, 3) := by decide +kernel
theorem d_A_run_61 : decode b_A_run 61 = .ok (.aload_n 0, 1) := by decide +kernel
theorem d_A_run_62 : decode b_A_run 62 = .ok (.getfield 87, 3) := by decide +kernel
theorem d_A_run_65 : decode b_A_run 65 = .ok (.ireturn, 1) := by decide +kernel
theorem d_A_taken_0 : decode b_A_taken 0 = .ok (.aload_n 0, 1) := by decide +kernel
theorem d_A_taken_1 : decode b_A_taken 1 = .ok (.iload_n 1, 1) := by decide +kernel
theorem d_A_taken_2 : decode b_A_taken 2 = .ok (.invokevirtual 57, 3) := by decide +kernel
theorem d_A_taken_5 : decode b_A_taken 5 = .ok (.astore 4, 2) := by decide +kernel
theorem d_A_taken_7 : decode b_A_taken 7 = .ok (.aload 4, 2) := by decide +kernel
theorem d_A_taken_9 : decode b_A_taken 9 = .ok (.ifnull 10, 3) := by decide +kernel
theorem d_A_taken_12 : decode b_A_taken 12 = .ok (.iload_n 3, 1) := by decide +kernel
theorem d_A_taken_13 : decode b_A_taken 13 = .ok (.invokestatic 71, 3) := by decide +kernel
theorem d_A_taken_16 : decode b_A_taken 16 = .ok (.ifCond .ne 7, 3) := by decide +kernel
theorem d_A_taken_19 : decode b_A_taken 19 = .ok (.ldc2_w 102, 3) := by decide +kernel
theorem d_A_taken_22 : decode b_A_taken 22 = .ok (.lreturn, 1) := by decide +kernel
theorem d_A_taken_23 : decode b_A_taken 23 = .ok (.iload_n 2, 1) := by decide +kernel
theorem d_A_taken_24 : decode b_A_taken 24 = .ok (.ifCond .lt 18, 3) := by decide +kernel
theorem d_A_taken_27 : decode b_A_taken 27 = .ok (.iload_n 2, 1) := by decide +kernel
theorem d_A_taken_28 : decode b_A_taken 28 = .ok (.aload 4, 2) := by decide +kernel
theorem d_A_taken_30 : decode b_A_taken 30 = .ok (.getfield 99, 3) := by decide +kernel
theorem d_A_taken_33 : decode b_A_taken 33 = .ok (.if_icmp .ge 9, 3) := by decide +kernel
theorem d_A_taken_36 : decode b_A_taken 36 = .ok (.iload_n 2, 1) := by decide +kernel
theorem d_A_taken_37 : decode b_A_taken 37 = .ok (.bipush 6, 2) := by decide +kernel
theorem d_A_taken_39 : decode b_A_taken 39 = .ok (.if_icmp .lt 7, 3) := by decide +kernel
theorem d_A_taken_42 : decode b_A_taken 42 = .ok (.ldc2_w 102, 3) := by decide +kernel
theorem d_A_taken_45 : decode b_A_taken 45 = .ok (.lreturn, 1) := by decide +kernel
theorem d_A_taken_46 : decode b_A_taken 46 = .ok (.aload 4, 2) := by decide +kernel
theorem d_A_taken_48 : decode b_A_taken 48 = .ok (.getfield 104, 3) := by decide +kernel
theorem d_A_taken_51 : decode b_A_taken 51 = .ok (.iload_n 2, 1) := by decide +kernel
theorem d_A_taken_52 : decode b_A_taken 52 = .ok (.iconst 4, 1) := by decide +kernel
theorem d_A_taken_53 : decode b_A_taken 53 = .ok (.imul, 1) := by decide +kernel
theorem d_A_taken_54 : decode b_A_taken 54 = .ok (.iload_n 3, 1) := by decide +kernel
theorem d_A_taken_55 : decode b_A_taken 55 = .ok (.iadd, 1) := by decide +kernel
theorem d_A_taken_56 : decode b_A_taken 56 = .ok (.laload, 1) := by decide +kernel
theorem d_A_taken_57 : decode b_A_taken 57 = .ok (.lreturn, 1) := by decide +kernel
theorem d_A_left_0 : decode b_A_left 0 = .ok (.aload_n 0, 1) := by decide +kernel
theorem d_A_left_1 : decode b_A_left 1 = .ok (.iload_n 1, 1) := by decide +kernel
theorem d_A_left_2 : decode b_A_left 2 = .ok (.invokevirtual 57, 3) := by decide +kernel
theorem d_A_left_5 : decode b_A_left 5 = .ok (.astore_n 3, 1) := by decide +kernel
theorem d_A_left_6 : decode b_A_left 6 = .ok (.aload_n 3, 1) := by decide +kernel
theorem d_A_left_7 : decode b_A_left 7 = .ok (.ifnull 10, 3) := by decide +kernel
theorem d_A_left_10 : decode b_A_left 10 = .ok (.iload_n 2, 1) := by decide +kernel
theorem d_A_left_11 : decode b_A_left 11 = .ok (.invokestatic 71, 3) := by decide +kernel
theorem d_A_left_14 : decode b_A_left 14 = .ok (.ifCond .ne 7, 3) := by decide +kernel
theorem d_A_left_17 : decode b_A_left 17 = .ok (.ldc2_w 102, 3) := by decide +kernel
theorem d_A_left_20 : decode b_A_left 20 = .ok (.lreturn, 1) := by decide +kernel
theorem d_A_left_21 : decode b_A_left 21 = .ok (.aload_n 3, 1) := by decide +kernel
theorem d_A_left_22 : decode b_A_left 22 = .ok (.getfield 77, 3) := by decide +kernel
theorem d_A_left_25 : decode b_A_left 25 = .ok (.iload_n 2, 1) := by decide +kernel
theorem d_A_left_26 : decode b_A_left 26 = .ok (.laload, 1) := by decide +kernel
theorem d_A_left_27 : decode b_A_left 27 = .ok (.lreturn, 1) := by decide +kernel
theorem d_A_grams_0 : decode b_A_grams 0 = .ok (.aload_n 0, 1) := by decide +kernel
theorem d_A_grams_1 : decode b_A_grams 1 = .ok (.iload_n 1, 1) := by decide +kernel
theorem d_A_grams_2 : decode b_A_grams 2 = .ok (.invokevirtual 57, 3) := by decide +kernel
theorem d_A_grams_5 : decode b_A_grams 5 = .ok (.astore_n 2, 1) := by decide +kernel
theorem d_A_grams_6 : decode b_A_grams 6 = .ok (.aload_n 2, 1) := by decide +kernel
theorem d_A_grams_7 : decode b_A_grams 7 = .ok (.ifnonnull 9, 3) := by decide +kernel
theorem d_A_grams_10 : decode b_A_grams 10 = .ok (.ldc2_w 102, 3) := by decide +kernel
theorem d_A_grams_13 : decode b_A_grams 13 = .ok (.goto 7, 3) := by decide +kernel
theorem d_A_grams_16 : decode b_A_grams 16 = .ok (.aload_n 2, 1) := by decide +kernel
theorem d_A_grams_17 : decode b_A_grams 17 = .ok (.getfield 81, 3) := by decide +kernel
theorem d_A_grams_20 : decode b_A_grams 20 = .ok (.lreturn, 1) := by decide +kernel
theorem d_A_stock_0 : decode b_A_stock 0 = .ok (.aload_n 0, 1) := by decide +kernel
theorem d_A_stock_1 : decode b_A_stock 1 = .ok (.iload_n 1, 1) := by decide +kernel
theorem d_A_stock_2 : decode b_A_stock 2 = .ok (.invokevirtual 107, 3) := by decide +kernel
theorem d_A_stock_5 : decode b_A_stock 5 = .ok (.astore_n 3, 1) := by decide +kernel
theorem d_A_stock_6 : decode b_A_stock 6 = .ok (.aload_n 3, 1) := by decide +kernel
theorem d_A_stock_7 : decode b_A_stock 7 = .ok (.ifnull 10, 3) := by decide +kernel
theorem d_A_stock_10 : decode b_A_stock 10 = .ok (.iload_n 2, 1) := by decide +kernel
theorem d_A_stock_11 : decode b_A_stock 11 = .ok (.invokestatic 71, 3) := by decide +kernel
theorem d_A_stock_14 : decode b_A_stock 14 = .ok (.ifCond .ne 7, 3) := by decide +kernel
theorem d_A_stock_17 : decode b_A_stock 17 = .ok (.ldc2_w 102, 3) := by decide +kernel
theorem d_A_stock_20 : decode b_A_stock 20 = .ok (.lreturn, 1) := by decide +kernel
theorem d_A_stock_21 : decode b_A_stock 21 = .ok (.aload_n 3, 1) := by decide +kernel
theorem d_A_stock_22 : decode b_A_stock 22 = .ok (.getfield 111, 3) := by decide +kernel
theorem d_A_stock_25 : decode b_A_stock 25 = .ok (.iload_n 2, 1) := by decide +kernel
theorem d_A_stock_26 : decode b_A_stock 26 = .ok (.laload, 1) := by decide +kernel
theorem d_A_stock_27 : decode b_A_stock 27 = .ok (.lreturn, 1) := by decide +kernel
theorem d_A_price_0 : decode b_A_price 0 = .ok (.iload_n 1, 1) := by decide +kernel
theorem d_A_price_1 : decode b_A_price 1 = .ok (.invokestatic 71, 3) := by decide +kernel
theorem d_A_price_4 : decode b_A_price 4 = .ok (.ifCond .eq 26, 3) := by decide +kernel
theorem d_A_price_7 : decode b_A_price 7 = .ok (.iload_n 2, 1) := by decide +kernel
theorem d_A_price_8 : decode b_A_price 8 = .ok (.i2l, 1) := by decide +kernel
theorem d_A_price_9 : decode b_A_price 9 = .ok (.lconst 0, 1) := by decide +kernel
theorem d_A_price_10 : decode b_A_price 10 = .ok (.ldc2_w 85, 3) := by decide +kernel
theorem d_A_price_13 : decode b_A_price 13 = .ok (.invokestatic 40, 3) := by decide +kernel
theorem d_A_price_16 : decode b_A_price 16 = .ok (.ifCond .eq 14, 3) := by decide +kernel
theorem d_A_price_19 : decode b_A_price 19 = .ok (.lload_n 3, 1) := by decide +kernel
theorem d_A_price_20 : decode b_A_price 20 = .ok (.lconst 0, 1) := by decide +kernel
theorem d_A_price_21 : decode b_A_price 21 = .ok (.ldc2_w 75, 3) := by decide +kernel
theorem d_A_price_24 : decode b_A_price 24 = .ok (.invokestatic 40, 3) := by decide +kernel
theorem d_A_price_27 : decode b_A_price 27 = .ok (.ifCond .ne 5, 3) := by decide +kernel
theorem d_A_price_30 : decode b_A_price 30 = .ok (.iconst 0, 1) := by decide +kernel
theorem d_A_price_31 : decode b_A_price 31 = .ok (.ireturn, 1) := by decide +kernel
theorem d_A_price_32 : decode b_A_price 32 = .ok (.aload_n 0, 1) := by decide +kernel
theorem d_A_price_33 : decode b_A_price 33 = .ok (.getfield 30, 3) := by decide +kernel
theorem d_A_price_36 : decode b_A_price 36 = .ok (.iload_n 1, 1) := by decide +kernel
theorem d_A_price_37 : decode b_A_price 37 = .ok (.iload_n 2, 1) := by decide +kernel
theorem d_A_price_38 : decode b_A_price 38 = .ok (.lload_n 3, 1) := by decide +kernel
theorem d_A_price_39 : decode b_A_price 39 = .ok (.invokevirtual 114, 3) := by decide +kernel
theorem d_A_price_42 : decode b_A_price 42 = .ok (.ireturn, 1) := by decide +kernel
theorem d_A_worth_0 : decode b_A_worth 0 = .ok (.aload_n 0, 1) := by decide +kernel
theorem d_A_worth_1 : decode b_A_worth 1 = .ok (.iload_n 1, 1) := by decide +kernel
theorem d_A_worth_2 : decode b_A_worth 2 = .ok (.invokevirtual 57, 3) := by decide +kernel
theorem d_A_worth_5 : decode b_A_worth 5 = .ok (.astore_n 3, 1) := by decide +kernel
theorem d_A_worth_6 : decode b_A_worth 6 = .ok (.aload_n 3, 1) := by decide +kernel
theorem d_A_worth_7 : decode b_A_worth 7 = .ok (.ifnull 7, 3) := by decide +kernel
theorem d_A_worth_10 : decode b_A_worth 10 = .ok (.iload_n 2, 1) := by decide +kernel
theorem d_A_worth_11 : decode b_A_worth 11 = .ok (.ifCond .ge 7, 3) := by decide +kernel
theorem d_A_worth_14 : decode b_A_worth 14 = .ok (.ldc2_w 102, 3) := by decide +kernel
theorem d_A_worth_17 : decode b_A_worth 17 = .ok (.lreturn, 1) := by decide +kernel
theorem d_A_worth_18 : decode b_A_worth 18 = .ok (.aload_n 0, 1) := by decide +kernel
theorem d_A_worth_19 : decode b_A_worth 19 = .ok (.getfield 30, 3) := by decide +kernel
theorem d_A_worth_22 : decode b_A_worth 22 = .ok (.aload_n 3, 1) := by decide +kernel
theorem d_A_worth_23 : decode b_A_worth 23 = .ok (.getfield 77, 3) := by decide +kernel
theorem d_A_worth_26 : decode b_A_worth 26 = .ok (.iload_n 2, 1) := by decide +kernel
theorem d_A_worth_27 : decode b_A_worth 27 = .ok (.invokevirtual 118, 3) := by decide +kernel
theorem d_A_worth_30 : decode b_A_worth 30 = .ok (.lreturn, 1) := by decide +kernel
theorem d_A_sell_0 : decode b_A_sell 0 = .ok (.aload_n 0, 1) := by decide +kernel
theorem d_A_sell_1 : decode b_A_sell 1 = .ok (.iload_n 1, 1) := by decide +kernel
theorem d_A_sell_2 : decode b_A_sell 2 = .ok (.invokevirtual 107, 3) := by decide +kernel
theorem d_A_sell_5 : decode b_A_sell 5 = .ok (.astore_n 2, 1) := by decide +kernel
theorem d_A_sell_6 : decode b_A_sell 6 = .ok (.aload_n 2, 1) := by decide +kernel
theorem d_A_sell_7 : decode b_A_sell 7 = .ok (.ifnonnull 7, 3) := by decide +kernel
theorem d_A_sell_10 : decode b_A_sell 10 = .ok (.ldc2_w 102, 3) := by decide +kernel
theorem d_A_sell_13 : decode b_A_sell 13 = .ok (.lreturn, 1) := by decide +kernel
theorem d_A_sell_14 : decode b_A_sell 14 = .ok (.aload_n 0, 1) := by decide +kernel
theorem d_A_sell_15 : decode b_A_sell 15 = .ok (.getfield 30, 3) := by decide +kernel
theorem d_A_sell_18 : decode b_A_sell 18 = .ok (.aload_n 2, 1) := by decide +kernel
theorem d_A_sell_19 : decode b_A_sell 19 = .ok (.getfield 111, 3) := by decide +kernel
theorem d_A_sell_22 : decode b_A_sell 22 = .ok (.aload_n 0, 1) := by decide +kernel
theorem d_A_sell_23 : decode b_A_sell 23 = .ok (.getfield 47, 3) := by decide +kernel
theorem d_A_sell_26 : decode b_A_sell 26 = .ok (.invokevirtual 118, 3) := by decide +kernel
theorem d_A_sell_29 : decode b_A_sell 29 = .ok (.lstore_n 3, 1) := by decide +kernel
theorem d_A_sell_30 : decode b_A_sell 30 = .ok (.aload_n 2, 1) := by decide +kernel
theorem d_A_sell_31 : decode b_A_sell 31 = .ok (.getfield 111, 3) := by decide +kernel
theorem d_A_sell_34 : decode b_A_sell 34 = .ok (.lconst 0, 1) := by decide +kernel
theorem d_A_sell_35 : decode b_A_sell 35 = .ok (.invokestatic 122, 3) := by decide +kernel
theorem d_A_sell_38 : decode b_A_sell 38 = .ok (.aload_n 0, 1) := by decide +kernel
theorem d_A_sell_39 : decode b_A_sell 39 = .ok (.dup, 1) := by decide +kernel
theorem d_A_sell_40 : decode b_A_sell 40 = .ok (.getfield 128, 3) := by decide +kernel
theorem d_A_sell_43 : decode b_A_sell 43 = .ok (.lload_n 3, 1) := by decide +kernel
theorem d_A_sell_44 : decode b_A_sell 44 = .ok (.ladd, 1) := by decide +kernel
theorem d_A_sell_45 : decode b_A_sell 45 = .ok (.putfield 128, 3) := by decide +kernel
theorem d_A_sell_48 : decode b_A_sell 48 = .ok (.lload_n 3, 1) := by decide +kernel
theorem d_A_sell_49 : decode b_A_sell 49 = .ok (.lreturn, 1) := by decide +kernel
theorem d_A_money_0 : decode b_A_money 0 = .ok (.aload_n 0, 1) := by decide +kernel
theorem d_A_money_1 : decode b_A_money 1 = .ok (.getfield 128, 3) := by decide +kernel
theorem d_A_money_4 : decode b_A_money 4 = .ok (.lreturn, 1) := by decide +kernel
theorem d_A_assay_0 : decode b_A_assay 0 = .ok (.aload_n 0, 1) := by decide +kernel
theorem d_A_assay_1 : decode b_A_assay 1 = .ok (.iload_n 1, 1) := by decide +kernel
theorem d_A_assay_2 : decode b_A_assay 2 = .ok (.invokevirtual 57, 3) := by decide +kernel
theorem d_A_assay_5 : decode b_A_assay 5 = .ok (.astore 5, 2) := by decide +kernel
theorem d_A_assay_7 : decode b_A_assay 7 = .ok (.aload 5, 2) := by decide +kernel
theorem d_A_assay_9 : decode b_A_assay 9 = .ok (.ifnull 18, 3) := by decide +kernel
theorem d_A_assay_12 : decode b_A_assay 12 = .ok (.aload 5, 2) := by decide +kernel
theorem d_A_assay_14 : decode b_A_assay 14 = .ok (.getfield 61, 3) := by decide +kernel
theorem d_A_assay_17 : decode b_A_assay 17 = .ok (.ifCond .ne 10, 3) := by decide +kernel
theorem d_A_assay_20 : decode b_A_assay 20 = .ok (.iload_n 3, 1) := by decide +kernel
theorem d_A_assay_21 : decode b_A_assay 21 = .ok (.invokestatic 71, 3) := by decide +kernel
theorem d_A_assay_24 : decode b_A_assay 24 = .ok (.ifCond .ne 5, 3) := by decide +kernel
theorem d_A_assay_27 : decode b_A_assay 27 = .ok (.iconst 0, 1) := by decide +kernel
theorem d_A_assay_28 : decode b_A_assay 28 = .ok (.ireturn, 1) := by decide +kernel
theorem d_A_assay_29 : decode b_A_assay 29 = .ok (.iload_n 2, 1) := by decide +kernel
theorem d_A_assay_30 : decode b_A_assay 30 = .ok (.i2l, 1) := by decide +kernel
theorem d_A_assay_31 : decode b_A_assay 31 = .ok (.lconst 0, 1) := by decide +kernel
theorem d_A_assay_32 : decode b_A_assay 32 = .ok (.ldc2_w 131, 3) := by decide +kernel
theorem d_A_assay_35 : decode b_A_assay 35 = .ok (.invokestatic 40, 3) := by decide +kernel
theorem d_A_assay_38 : decode b_A_assay 38 = .ok (.ifCond .eq 16, 3) := by decide +kernel
theorem d_A_assay_41 : decode b_A_assay 41 = .ok (.iload 4, 2) := by decide +kernel
theorem d_A_assay_43 : decode b_A_assay 43 = .ok (.i2l, 1) := by decide +kernel
theorem d_A_assay_44 : decode b_A_assay 44 = .ok (.lconst 0, 1) := by decide +kernel
theorem d_A_assay_45 : decode b_A_assay 45 = .ok (.ldc2_w 75, 3) := by decide +kernel
theorem d_A_assay_48 : decode b_A_assay 48 = .ok (.invokestatic 40, 3) := by decide +kernel
theorem d_A_assay_51 : decode b_A_assay 51 = .ok (.ifCond .ne 5, 3) := by decide +kernel
theorem d_A_assay_54 : decode b_A_assay 54 = .ok (.iconst 0, 1) := by decide +kernel
theorem d_A_assay_55 : decode b_A_assay 55 = .ok (.ireturn, 1) := by decide +kernel
theorem d_A_assay_56 : decode b_A_assay 56 = .ok (.aload 5, 2) := by decide +kernel
theorem d_A_assay_58 : decode b_A_assay 58 = .ok (.getfield 133, 3) := by decide +kernel
theorem d_A_assay_61 : decode b_A_assay 61 = .ok (.iload_n 3, 1) := by decide +kernel
theorem d_A_assay_62 : decode b_A_assay 62 = .ok (.iconst 3, 1) := by decide +kernel
theorem d_A_assay_63 : decode b_A_assay 63 = .ok (.imul, 1) := by decide +kernel
theorem d_A_assay_64 : decode b_A_assay 64 = .ok (.iload_n 2, 1) := by decide +kernel
theorem d_A_assay_65 : decode b_A_assay 65 = .ok (.iadd, 1) := by decide +kernel
theorem d_A_assay_66 : decode b_A_assay 66 = .ok (.iload 4, 2) := by decide +kernel
theorem d_A_assay_68 : decode b_A_assay 68 = .ok (.iastore, 1) := by decide +kernel
theorem d_A_assay_69 : decode b_A_assay 69 = .ok (.iconst 1, 1) := by decide +kernel
theorem d_A_assay_70 : decode b_A_assay 70 = .ok (.ireturn, 1) := by decide +kernel
theorem d_A_settled_0 : decode b_A_settled 0 = .ok (.aload_n 0, 1) := by decide +kernel
theorem d_A_settled_1 : decode b_A_settled 1 = .ok (.iload_n 1, 1) := by decide +kernel
theorem d_A_settled_2 : decode b_A_settled 2 = .ok (.invokevirtual 57, 3) := by decide +kernel
theorem d_A_settled_5 : decode b_A_settled 5 = .ok (.astore_n 3, 1) := by decide +kernel
theorem d_A_settled_6 : decode b_A_settled 6 = .ok (.aload_n 3, 1) := by decide +kernel
theorem d_A_settled_7 : decode b_A_settled 7 = .ok (.ifnull 10, 3) := by decide +kernel
theorem d_A_settled_10 : decode b_A_settled 10 = .ok (.iload_n 2, 1) := by decide +kernel
theorem d_A_settled_11 : decode b_A_settled 11 = .ok (.invokestatic 71, 3) := by decide +kernel
theorem d_A_settled_14 : decode b_A_settled 14 = .ok (.ifCond .ne 5, 3) := by decide +kernel
theorem d_A_settled_17 : decode b_A_settled 17 = .ok (.iconst (-1), 1) := by decide +kernel
theorem d_A_settled_18 : decode b_A_settled 18 = .ok (.ireturn, 1) := by decide +kernel
theorem d_A_settled_19 : decode b_A_settled 19 = .ok (.aload_n 3, 1) := by decide +kernel
theorem d_A_settled_20 : decode b_A_settled 20 = .ok (.iload_n 2, 1) := by decide +kernel
theorem d_A_settled_21 : decode b_A_settled 21 = .ok (.invokevirtual 137, 3) := by decide +kernel
theorem d_A_settled_24 : decode b_A_settled 24 = .ok (.ireturn, 1) := by decide +kernel
theorem d_A_disputed_0 : decode b_A_disputed 0 = .ok (.aload_n 0, 1) := by decide +kernel
theorem d_A_disputed_1 : decode b_A_disputed 1 = .ok (.iload_n 1, 1) := by decide +kernel
theorem d_A_disputed_2 : decode b_A_disputed 2 = .ok (.invokevirtual 57, 3) := by decide +kernel
theorem d_A_disputed_5 : decode b_A_disputed 5 = .ok (.astore_n 3, 1) := by decide +kernel
theorem d_A_disputed_6 : decode b_A_disputed 6 = .ok (.aload_n 3, 1) := by decide +kernel
theorem d_A_disputed_7 : decode b_A_disputed 7 = .ok (.ifnull 26, 3) := by decide +kernel
theorem d_A_disputed_10 : decode b_A_disputed 10 = .ok (.iload_n 2, 1) := by decide +kernel
theorem d_A_disputed_11 : decode b_A_disputed 11 = .ok (.invokestatic 71, 3) := by decide +kernel
theorem d_A_disputed_14 : decode b_A_disputed 14 = .ok (.ifCond .eq 19, 3) := by decide +kernel
theorem d_A_disputed_17 : decode b_A_disputed 17 = .ok (.aload_n 3, 1) := by decide +kernel
theorem d_A_disputed_18 : decode b_A_disputed 18 = .ok (.iload_n 2, 1) := by decide +kernel
theorem d_A_disputed_19 : decode b_A_disputed 19 = .ok (.invokevirtual 141, 3) := by decide +kernel
theorem d_A_disputed_22 : decode b_A_disputed 22 = .ok (.aload_n 0, 1) := by decide +kernel
theorem d_A_disputed_23 : decode b_A_disputed 23 = .ok (.getfield 34, 3) := by decide +kernel
theorem d_A_disputed_26 : decode b_A_disputed 26 = .ok (.if_icmp .le 7, 3) := by decide +kernel
theorem d_A_disputed_29 : decode b_A_disputed 29 = .ok (.iconst 1, 1) := by decide +kernel
theorem d_A_disputed_30 : decode b_A_disputed 30 = .ok (.goto 4, 3) := by decide +kernel
theorem d_A_disputed_33 : decode b_A_disputed 33 = .ok (.iconst 0, 1) := by decide +kernel
theorem d_A_disputed_34 : decode b_A_disputed 34 = .ok (.ireturn, 1) := by decide +kernel
theorem d_A_tolerance_0 : decode b_A_tolerance 0 = .ok (.iload_n 1, 1) := by decide +kernel
theorem d_A_tolerance_1 : decode b_A_tolerance 1 = .ok (.i2l, 1) := by decide +kernel
theorem d_A_tolerance_2 : decode b_A_tolerance 2 = .ok (.lconst 0, 1) := by decide +kernel
end
section
theorem d_A_tolerance_3 : decode b_A_tolerance 3 = .ok (.ldc2_w 75, 3) := by decide +kernel
theorem d_A_tolerance_6 : decode b_A_tolerance 6 = .ok (.invokestatic 40, 3) := by decide +kernel
theorem d_A_tolerance_9 : decode b_A_tolerance 9 = .ok (.ifCond .ne 5, 3) := by decide +kernel
theorem d_A_tolerance_12 : decode b_A_tolerance 12 = .ok (.iconst 0, 1) := by decide +kernel
theorem d_A_tolerance_13 : decode b_A_tolerance 13 = .ok (.ireturn, 1) := by decide +kernel
theorem d_A_tolerance_14 : decode b_A_tolerance 14 = .ok (.aload_n 0, 1) := by decide +kernel
theorem d_A_tolerance_15 : decode b_A_tolerance 15 = .ok (.iload_n 1, 1) := by decide +kernel
theorem d_A_tolerance_16 : decode b_A_tolerance 16 = .ok (.putfield 34, 3) := by decide +kernel
theorem d_A_tolerance_19 : decode b_A_tolerance 19 = .ok (.iconst 1, 1) := by decide +kernel
theorem d_A_tolerance_20 : decode b_A_tolerance 20 = .ok (.ireturn, 1) := by decide +kernel
theorem d_A_rule_0 : decode b_A_rule 0 = .ok (.iload_n 1, 1) := by decide +kernel
theorem d_A_rule_1 : decode b_A_rule 1 = .ok (.i2l, 1) := by decide +kernel
theorem d_A_rule_2 : decode b_A_rule 2 = .ok (.lconst 0, 1) := by decide +kernel
theorem d_A_rule_3 : decode b_A_rule 3 = .ok (.ldc2_w 144, 3) := by decide +kernel
theorem d_A_rule_6 : decode b_A_rule 6 = .ok (.invokestatic 40, 3) := by decide +kernel
theorem d_A_rule_9 : decode b_A_rule 9 = .ok (.ifCond .eq 19, 3) := by decide +kernel
theorem d_A_rule_12 : decode b_A_rule 12 = .ok (.iload_n 2, 1) := by decide +kernel
theorem d_A_rule_13 : decode b_A_rule 13 = .ok (.invokestatic 71, 3) := by decide +kernel
theorem d_A_rule_16 : decode b_A_rule 16 = .ok (.ifCond .eq 12, 3) := by decide +kernel
theorem d_A_rule_19 : decode b_A_rule 19 = .ok (.aload_n 0, 1) := by decide +kernel
theorem d_A_rule_20 : decode b_A_rule 20 = .ok (.getfield 146, 3) := by decide +kernel
theorem d_A_rule_23 : decode b_A_rule 23 = .ok (.bipush 8, 2) := by decide +kernel
theorem d_A_rule_25 : decode b_A_rule 25 = .ok (.if_icmp .lt 5, 3) := by decide +kernel
theorem d_A_rule_28 : decode b_A_rule 28 = .ok (.iconst (-1), 1) := by decide +kernel
theorem d_A_rule_29 : decode b_A_rule 29 = .ok (.ireturn, 1) := by decide +kernel
theorem d_A_rule_30 : decode b_A_rule 30 = .ok (.iload_n 3, 1) := by decide +kernel
theorem d_A_rule_31 : decode b_A_rule 31 = .ok (.i2l, 1) := by decide +kernel
theorem d_A_rule_32 : decode b_A_rule 32 = .ok (.lconst 0, 1) := by decide +kernel
theorem d_A_rule_33 : decode b_A_rule 33 = .ok (.ldc2_w 75, 3) := by decide +kernel
theorem d_A_rule_36 : decode b_A_rule 36 = .ok (.invokestatic 40, 3) := by decide +kernel
theorem d_A_rule_39 : decode b_A_rule 39 = .ok (.ifCond .eq 16, 3) := by decide +kernel
theorem d_A_rule_42 : decode b_A_rule 42 = .ok (.iload 4, 2) := by decide +kernel
theorem d_A_rule_44 : decode b_A_rule 44 = .ok (.i2l, 1) := by decide +kernel
theorem d_A_rule_45 : decode b_A_rule 45 = .ok (.lconst 0, 1) := by decide +kernel
theorem d_A_rule_46 : decode b_A_rule 46 = .ok (.ldc2_w 85, 3) := by decide +kernel
theorem d_A_rule_49 : decode b_A_rule 49 = .ok (.invokestatic 40, 3) := by decide +kernel
theorem d_A_rule_52 : decode b_A_rule 52 = .ok (.ifCond .ne 5, 3) := by decide +kernel
theorem d_A_rule_55 : decode b_A_rule 55 = .ok (.iconst (-1), 1) := by decide +kernel
theorem d_A_rule_56 : decode b_A_rule 56 = .ok (.ireturn, 1) := by decide +kernel
theorem d_A_rule_57 : decode b_A_rule 57 = .ok (.aload_n 0, 1) := by decide +kernel
theorem d_A_rule_58 : decode b_A_rule 58 = .ok (.getfield 23, 3) := by decide +kernel
theorem d_A_rule_61 : decode b_A_rule 61 = .ok (.aload_n 0, 1) := by decide +kernel
theorem d_A_rule_62 : decode b_A_rule 62 = .ok (.getfield 146, 3) := by decide +kernel
theorem d_A_rule_65 : decode b_A_rule 65 = .ok (.new 21, 3) := by decide +kernel
theorem d_A_rule_68 : decode b_A_rule 68 = .ok (.dup, 1) := by decide +kernel
theorem d_A_rule_69 : decode b_A_rule 69 = .ok (.iload_n 1, 1) := by decide +kernel
theorem d_A_rule_70 : decode b_A_rule 70 = .ok (.iload_n 2, 1) := by decide +kernel
theorem d_A_rule_71 : decode b_A_rule 71 = .ok (.iload_n 3, 1) := by decide +kernel
theorem d_A_rule_72 : decode b_A_rule 72 = .ok (.iload 4, 2) := by decide +kernel
theorem d_A_rule_74 : decode b_A_rule 74 = .ok (.invokespecial 149, 3) := by decide +kernel
theorem d_A_rule_77 : decode b_A_rule 77 = .ok (.aastore, 1) := by decide +kernel
theorem d_A_rule_78 : decode b_A_rule 78 = .ok (.aload_n 0, 1) := by decide +kernel
theorem d_A_rule_79 : decode b_A_rule 79 = .ok (.dup, 1) := by decide +kernel
theorem d_A_rule_80 : decode b_A_rule 80 = .ok (.getfield 146, 3) := by decide +kernel
theorem d_A_rule_83 : decode b_A_rule 83 = .ok (.iconst 1, 1) := by decide +kernel
theorem d_A_rule_84 : decode b_A_rule 84 = .ok (.iadd, 1) := by decide +kernel
theorem d_A_rule_85 : decode b_A_rule 85 = .ok (.putfield 146, 3) := by decide +kernel
theorem d_A_rule_88 : decode b_A_rule 88 = .ok (.aload_n 0, 1) := by decide +kernel
theorem d_A_rule_89 : decode b_A_rule 89 = .ok (.getfield 146, 3) := by decide +kernel
theorem d_A_rule_92 : decode b_A_rule 92 = .ok (.iconst 1, 1) := by decide +kernel
theorem d_A_rule_93 : decode b_A_rule 93 = .ok (.isub, 1) := by decide +kernel
theorem d_A_rule_94 : decode b_A_rule 94 = .ok (.ireturn, 1) := by decide +kernel
theorem d_A_cls_0 : decode b_A_cls 0 = .ok (.aload_n 0, 1) := by decide +kernel
theorem d_A_cls_1 : decode b_A_cls 1 = .ok (.iload_n 1, 1) := by decide +kernel
theorem d_A_cls_2 : decode b_A_cls 2 = .ok (.invokevirtual 57, 3) := by decide +kernel
theorem d_A_cls_5 : decode b_A_cls 5 = .ok (.astore_n 2, 1) := by decide +kernel
theorem d_A_cls_6 : decode b_A_cls 6 = .ok (.aload_n 2, 1) := by decide +kernel
theorem d_A_cls_7 : decode b_A_cls 7 = .ok (.ifnull 10, 3) := by decide +kernel
theorem d_A_cls_10 : decode b_A_cls 10 = .ok (.aload_n 2, 1) := by decide +kernel
theorem d_A_cls_11 : decode b_A_cls 11 = .ok (.getfield 61, 3) := by decide +kernel
theorem d_A_cls_14 : decode b_A_cls 14 = .ok (.ifCond .eq 5, 3) := by decide +kernel
theorem d_A_cls_17 : decode b_A_cls 17 = .ok (.iconst (-1), 1) := by decide +kernel
theorem d_A_cls_18 : decode b_A_cls 18 = .ok (.ireturn, 1) := by decide +kernel
theorem d_A_cls_19 : decode b_A_cls 19 = .ok (.iconst 0, 1) := by decide +kernel
theorem d_A_cls_20 : decode b_A_cls 20 = .ok (.istore_n 3, 1) := by decide +kernel
theorem d_A_cls_21 : decode b_A_cls 21 = .ok (.iload_n 3, 1) := by decide +kernel
theorem d_A_cls_22 : decode b_A_cls 22 = .ok (.aload_n 0, 1) := by decide +kernel
theorem d_A_cls_23 : decode b_A_cls 23 = .ok (.getfield 146, 3) := by decide +kernel
theorem d_A_cls_26 : decode b_A_cls 26 = .ok (.if_icmp .ge 45, 3) := by decide +kernel
theorem d_A_cls_29 : decode b_A_cls 29 = .ok (.aload_n 0, 1) := by decide +kernel
theorem d_A_cls_30 : decode b_A_cls 30 = .ok (.getfield 23, 3) := by decide +kernel
theorem d_A_cls_33 : decode b_A_cls 33 = .ok (.iload_n 3, 1) := by decide +kernel
theorem d_A_cls_34 : decode b_A_cls 34 = .ok (.aaload, 1) := by decide +kernel
theorem d_A_cls_35 : decode b_A_cls 35 = .ok (.astore 4, 2) := by decide +kernel
theorem d_A_cls_37 : decode b_A_cls 37 = .ok (.aload 4, 2) := by decide +kernel
theorem d_A_cls_39 : decode b_A_cls 39 = .ok (.ifnull 26, 3) := by decide +kernel
theorem d_A_cls_42 : decode b_A_cls 42 = .ok (.aload 4, 2) := by decide +kernel
theorem d_A_cls_44 : decode b_A_cls 44 = .ok (.aload_n 2, 1) := by decide +kernel
theorem d_A_cls_45 : decode b_A_cls 45 = .ok (.aload_n 0, 1) := by decide +kernel
theorem d_A_cls_46 : decode b_A_cls 46 = .ok (.getfield 47, 3) := by decide +kernel
theorem d_A_cls_49 : decode b_A_cls 49 = .ok (.aload_n 0, 1) := by decide +kernel
theorem d_A_cls_50 : decode b_A_cls 50 = .ok (.getfield 34, 3) := by decide +kernel
theorem d_A_cls_53 : decode b_A_cls 53 = .ok (.invokevirtual 152, 3) := by decide +kernel
theorem d_A_cls_56 : decode b_A_cls 56 = .ok (.ifCond .eq 9, 3) := by decide +kernel
theorem d_A_cls_59 : decode b_A_cls 59 = .ok (.aload 4, 2) := by decide +kernel
theorem d_A_cls_61 : decode b_A_cls 61 = .ok (.getfield 156, 3) := by decide +kernel
theorem d_A_cls_64 : decode b_A_cls 64 = .ok (.ireturn, 1) := by decide +kernel
theorem d_A_cls_65 : decode b_A_cls 65 = .ok (.iinc 3 1, 3) := by decide +kernel
theorem d_A_cls_68 : decode b_A_cls 68 = .ok (.goto (-47), 3) := by decide +kernel
theorem d_A_cls_71 : decode b_A_cls 71 = .ok (.bipush 99, 2) := by decide +kernel
theorem d_A_cls_73 : decode b_A_cls 73 = .ok (.ireturn, 1) := by decide +kernel
theorem d_A_mix_0 : decode b_A_mix 0 = .ok (.aload_n 0, 1) := by decide +kernel
theorem d_A_mix_1 : decode b_A_mix 1 = .ok (.iload_n 1, 1) := by decide +kernel
theorem d_A_mix_2 : decode b_A_mix 2 = .ok (.invokevirtual 57, 3) := by decide +kernel
theorem d_A_mix_5 : decode b_A_mix 5 = .ok (.astore_n 3, 1) := by decide +kernel
theorem d_A_mix_6 : decode b_A_mix 6 = .ok (.aload_n 0, 1) := by decide +kernel
theorem d_A_mix_7 : decode b_A_mix 7 = .ok (.iload_n 2, 1) := by decide +kernel
theorem d_A_mix_8 : decode b_A_mix 8 = .ok (.invokevirtual 57, 3) := by decide +kernel
theorem d_A_mix_11 : decode b_A_mix 11 = .ok (.astore 4, 2) := by decide +kernel
theorem d_A_mix_13 : decode b_A_mix 13 = .ok (.aload_n 3, 1) := by decide +kernel
theorem d_A_mix_14 : decode b_A_mix 14 = .ok (.ifnull 22, 3) := by decide +kernel
theorem d_A_mix_17 : decode b_A_mix 17 = .ok (.aload 4, 2) := by decide +kernel
theorem d_A_mix_19 : decode b_A_mix 19 = .ok (.ifnull 17, 3) := by decide +kernel
theorem d_A_mix_22 : decode b_A_mix 22 = .ok (.iload_n 1, 1) := by decide +kernel
theorem d_A_mix_23 : decode b_A_mix 23 = .ok (.iload_n 2, 1) := by decide +kernel
theorem d_A_mix_24 : decode b_A_mix 24 = .ok (.if_icmp .eq 12, 3) := by decide +kernel
theorem d_A_mix_27 : decode b_A_mix 27 = .ok (.aload_n 0, 1) := by decide +kernel
theorem d_A_mix_28 : decode b_A_mix 28 = .ok (.getfield 44, 3) := by decide +kernel
theorem d_A_mix_31 : decode b_A_mix 31 = .ok (.bipush 8, 2) := by decide +kernel
theorem d_A_mix_33 : decode b_A_mix 33 = .ok (.if_icmp .lt 5, 3) := by decide +kernel
theorem d_A_mix_36 : decode b_A_mix 36 = .ok (.iconst (-1), 1) := by decide +kernel
theorem d_A_mix_37 : decode b_A_mix 37 = .ok (.ireturn, 1) := by decide +kernel
theorem d_A_mix_38 : decode b_A_mix 38 = .ok (.aload_n 3, 1) := by decide +kernel
theorem d_A_mix_39 : decode b_A_mix 39 = .ok (.getfield 61, 3) := by decide +kernel
theorem d_A_mix_42 : decode b_A_mix 42 = .ok (.ifCond .ne 23, 3) := by decide +kernel
theorem d_A_mix_45 : decode b_A_mix 45 = .ok (.aload 4, 2) := by decide +kernel
theorem d_A_mix_47 : decode b_A_mix 47 = .ok (.getfield 61, 3) := by decide +kernel
theorem d_A_mix_50 : decode b_A_mix 50 = .ok (.ifCond .ne 15, 3) := by decide +kernel
theorem d_A_mix_53 : decode b_A_mix 53 = .ok (.aload_n 3, 1) := by decide +kernel
theorem d_A_mix_54 : decode b_A_mix 54 = .ok (.getfield 65, 3) := by decide +kernel
theorem d_A_mix_57 : decode b_A_mix 57 = .ok (.aload 4, 2) := by decide +kernel
theorem d_A_mix_59 : decode b_A_mix 59 = .ok (.getfield 65, 3) := by decide +kernel
theorem d_A_mix_62 : decode b_A_mix 62 = .ok (.if_icmp .eq 5, 3) := by decide +kernel
theorem d_A_mix_65 : decode b_A_mix 65 = .ok (.iconst (-1), 1) := by decide +kernel
theorem d_A_mix_66 : decode b_A_mix 66 = .ok (.ireturn, 1) := by decide +kernel
theorem d_A_mix_67 : decode b_A_mix 67 = .ok (.aload_n 3, 1) := by decide +kernel
theorem d_A_mix_68 : decode b_A_mix 68 = .ok (.iconst 1, 1) := by decide +kernel
theorem d_A_mix_69 : decode b_A_mix 69 = .ok (.putfield 61, 3) := by decide +kernel
theorem d_A_mix_72 : decode b_A_mix 72 = .ok (.aload 4, 2) := by decide +kernel
theorem d_A_mix_74 : decode b_A_mix 74 = .ok (.iconst 1, 1) := by decide +kernel
theorem d_A_mix_75 : decode b_A_mix 75 = .ok (.putfield 61, 3) := by decide +kernel
theorem d_A_mix_78 : decode b_A_mix 78 = .ok (.aload_n 0, 1) := by decide +kernel
theorem d_A_mix_79 : decode b_A_mix 79 = .ok (.aload_n 3, 1) := by decide +kernel
theorem d_A_mix_80 : decode b_A_mix 80 = .ok (.aload 4, 2) := by decide +kernel
theorem d_A_mix_82 : decode b_A_mix 82 = .ok (.invokestatic 159, 3) := by decide +kernel
theorem d_A_mix_85 : decode b_A_mix 85 = .ok (.invokevirtual 53, 3) := by decide +kernel
theorem d_A_mix_88 : decode b_A_mix 88 = .ok (.ireturn, 1) := by decide +kernel
theorem d_A_dispute_0 : decode b_A_dispute 0 = .ok (.iconst 0, 1) := by decide +kernel
theorem d_A_dispute_1 : decode b_A_dispute 1 = .ok (.istore_n 2, 1) := by decide +kernel
theorem d_A_dispute_2 : decode b_A_dispute 2 = .ok (.iconst 0, 1) := by decide +kernel
theorem d_A_dispute_3 : decode b_A_dispute 3 = .ok (.istore_n 3, 1) := by decide +kernel
theorem d_A_dispute_4 : decode b_A_dispute 4 = .ok (.iload_n 3, 1) := by decide +kernel
theorem d_A_dispute_5 : decode b_A_dispute 5 = .ok (.aload_n 0, 1) := by decide +kernel
theorem d_A_dispute_6 : decode b_A_dispute 6 = .ok (.getfield 44, 3) := by decide +kernel
theorem d_A_dispute_9 : decode b_A_dispute 9 = .ok (.if_icmp .ge 52, 3) := by decide +kernel
theorem d_A_dispute_12 : decode b_A_dispute 12 = .ok (.aload_n 0, 1) := by decide +kernel
theorem d_A_dispute_13 : decode b_A_dispute 13 = .ok (.getfield 11, 3) := by decide +kernel
theorem d_A_dispute_16 : decode b_A_dispute 16 = .ok (.iload_n 3, 1) := by decide +kernel
theorem d_A_dispute_17 : decode b_A_dispute 17 = .ok (.aaload, 1) := by decide +kernel
theorem d_A_dispute_18 : decode b_A_dispute 18 = .ok (.astore 4, 2) := by decide +kernel
theorem d_A_dispute_20 : decode b_A_dispute 20 = .ok (.aload 4, 2) := by decide +kernel
theorem d_A_dispute_22 : decode b_A_dispute 22 = .ok (.ifnull 33, 3) := by decide +kernel
theorem d_A_dispute_25 : decode b_A_dispute 25 = .ok (.aload 4, 2) := by decide +kernel
theorem d_A_dispute_27 : decode b_A_dispute 27 = .ok (.getfield 61, 3) := by decide +kernel
theorem d_A_dispute_30 : decode b_A_dispute 30 = .ok (.ifCond .ne 25, 3) := by decide +kernel
theorem d_A_dispute_33 : decode b_A_dispute 33 = .ok (.aload 4, 2) := by decide +kernel
theorem d_A_dispute_35 : decode b_A_dispute 35 = .ok (.aload_n 0, 1) := by decide +kernel
theorem d_A_dispute_36 : decode b_A_dispute 36 = .ok (.getfield 34, 3) := by decide +kernel
theorem d_A_dispute_39 : decode b_A_dispute 39 = .ok (.invokevirtual 163, 3) := by decide +kernel
theorem d_A_dispute_42 : decode b_A_dispute 42 = .ok (.ifCond .eq 13, 3) := by decide +kernel
theorem d_A_dispute_45 : decode b_A_dispute 45 = .ok (.iload_n 2, 1) := by decide +kernel
theorem d_A_dispute_46 : decode b_A_dispute 46 = .ok (.iload_n 1, 1) := by decide +kernel
theorem d_A_dispute_47 : decode b_A_dispute 47 = .ok (.if_icmp .ne 5, 3) := by decide +kernel
theorem d_A_dispute_50 : decode b_A_dispute 50 = .ok (.iload_n 3, 1) := by decide +kernel
theorem d_A_dispute_51 : decode b_A_dispute 51 = .ok (.ireturn, 1) := by decide +kernel
theorem d_A_dispute_52 : decode b_A_dispute 52 = .ok (.iinc 2 1, 3) := by decide +kernel
theorem d_A_dispute_55 : decode b_A_dispute 55 = .ok (.iinc 3 1, 3) := by decide +kernel
theorem d_A_dispute_58 : decode b_A_dispute 58 = .ok (.goto (-54), 3) := by decide +kernel
theorem d_A_dispute_61 : decode b_A_dispute 61 = .ok (.iconst (-1), 1) := by decide +kernel
theorem d_A_dispute_62 : decode b_A_dispute 62 = .ok (.ireturn, 1) := by decide +kernel
theorem d_A_isWithin_0 : decode b_A_isWithin 0 = .ok (.lload_n 0, 1) := by decide +kernel
theorem d_A_isWithin_1 : decode b_A_isWithin 1 = .ok (.lload_n 2, 1) := by decide +kernel
theorem d_A_isWithin_2 : decode b_A_isWithin 2 = .ok (.lcmp, 1) := by decide +kernel
theorem d_A_isWithin_3 : decode b_A_isWithin 3 = .ok (.ifCond .lt 14, 3) := by decide +kernel
theorem d_A_isWithin_6 : decode b_A_isWithin 6 = .ok (.lload_n 0, 1) := by decide +kernel
theorem d_A_isWithin_7 : decode b_A_isWithin 7 = .ok (.lload 4, 2) := by decide +kernel
theorem d_A_isWithin_9 : decode b_A_isWithin 9 = .ok (.lcmp, 1) := by decide +kernel
theorem d_A_isWithin_10 : decode b_A_isWithin 10 = .ok (.ifCond .gt 7, 3) := by decide +kernel
theorem d_A_isWithin_13 : decode b_A_isWithin 13 = .ok (.iconst 1, 1) := by decide +kernel
theorem d_A_isWithin_14 : decode b_A_isWithin 14 = .ok (.goto 4, 3) := by decide +kernel
theorem d_A_isWithin_17 : decode b_A_isWithin 17 = .ok (.iconst 0, 1) := by decide +kernel
theorem d_A_isWithin_18 : decode b_A_isWithin 18 = .ok (.ireturn, 1) := by decide +kernel
theorem d_A_isMetal_0 : decode b_A_isMetal 0 = .ok (.iload_n 0, 1) := by decide +kernel
theorem d_A_isMetal_1 : decode b_A_isMetal 1 = .ok (.ifCond .lt 12, 3) := by decide +kernel
theorem d_A_isMetal_4 : decode b_A_isMetal 4 = .ok (.iload_n 0, 1) := by decide +kernel
theorem d_A_isMetal_5 : decode b_A_isMetal 5 = .ok (.iconst 4, 1) := by decide +kernel
theorem d_A_isMetal_6 : decode b_A_isMetal 6 = .ok (.if_icmp .ge 7, 3) := by decide +kernel
theorem d_A_isMetal_9 : decode b_A_isMetal 9 = .ok (.iconst 1, 1) := by decide +kernel
theorem d_A_isMetal_10 : decode b_A_isMetal 10 = .ok (.goto 4, 3) := by decide +kernel
theorem d_A_isMetal_13 : decode b_A_isMetal 13 = .ok (.iconst 0, 1) := by decide +kernel
theorem d_A_isMetal_14 : decode b_A_isMetal 14 = .ok (.ireturn, 1) := by decide +kernel
theorem d_A_batchAt_0 : decode b_A_batchAt 0 = .ok (.iload_n 1, 1) := by decide +kernel
theorem d_A_batchAt_1 : decode b_A_batchAt 1 = .ok (.ifCond .lt 20, 3) := by decide +kernel
theorem d_A_batchAt_4 : decode b_A_batchAt 4 = .ok (.iload_n 1, 1) := by decide +kernel
theorem d_A_batchAt_5 : decode b_A_batchAt 5 = .ok (.aload_n 0, 1) := by decide +kernel
theorem d_A_batchAt_6 : decode b_A_batchAt 6 = .ok (.getfield 44, 3) := by decide +kernel
theorem d_A_batchAt_9 : decode b_A_batchAt 9 = .ok (.if_icmp .ge 12, 3) := by decide +kernel
theorem d_A_batchAt_12 : decode b_A_batchAt 12 = .ok (.aload_n 0, 1) := by decide +kernel
theorem d_A_batchAt_13 : decode b_A_batchAt 13 = .ok (.getfield 11, 3) := by decide +kernel
theorem d_A_batchAt_16 : decode b_A_batchAt 16 = .ok (.iload_n 1, 1) := by decide +kernel
theorem d_A_batchAt_17 : decode b_A_batchAt 17 = .ok (.aaload, 1) := by decide +kernel
theorem d_A_batchAt_18 : decode b_A_batchAt 18 = .ok (.goto 4, 3) := by decide +kernel
theorem d_A_batchAt_21 : decode b_A_batchAt 21 = .ok (.aconst_null, 1) := by decide +kernel
theorem d_A_batchAt_22 : decode b_A_batchAt 22 = .ok (.areturn, 1) := by decide +kernel
theorem d_A_stageAt_0 : decode b_A_stageAt 0 = .ok (.iload_n 1, 1) := by decide +kernel
theorem d_A_stageAt_1 : decode b_A_stageAt 1 = .ok (.ifCond .lt 20, 3) := by decide +kernel
theorem d_A_stageAt_4 : decode b_A_stageAt 4 = .ok (.iload_n 1, 1) := by decide +kernel
theorem d_A_stageAt_5 : decode b_A_stageAt 5 = .ok (.aload_n 0, 1) := by decide +kernel
theorem d_A_stageAt_6 : decode b_A_stageAt 6 = .ok (.getfield 87, 3) := by decide +kernel
theorem d_A_stageAt_9 : decode b_A_stageAt 9 = .ok (.if_icmp .ge 12, 3) := by decide +kernel
theorem d_A_stageAt_12 : decode b_A_stageAt 12 = .ok (.aload_n 0, 1) := by decide +kernel
theorem d_A_stageAt_13 : decode b_A_stageAt 13 = .ok (.getfield 17, 3) := by decide +kernel
theorem d_A_stageAt_16 : decode b_A_stageAt 16 = .ok (.iload_n 1, 1) := by decide +kernel
theorem d_A_stageAt_17 : decode b_A_stageAt 17 = .ok (.aaload, 1) := by decide +kernel
theorem d_A_stageAt_18 : decode b_A_stageAt 18 = .ok (.goto 4, 3) := by decide +kernel
theorem d_A_stageAt_21 : decode b_A_stageAt 21 = .ok (.aconst_null, 1) := by decide +kernel
theorem d_A_stageAt_22 : decode b_A_stageAt 22 = .ok (.areturn, 1) := by decide +kernel
theorem d_A_keepBatch_0 : decode b_A_keepBatch 0 = .ok (.aload_n 0, 1) := by decide +kernel
theorem d_A_keepBatch_1 : decode b_A_keepBatch 1 = .ok (.getfield 44, 3) := by decide +kernel
theorem d_A_keepBatch_4 : decode b_A_keepBatch 4 = .ok (.bipush 8, 2) := by decide +kernel
theorem d_A_keepBatch_6 : decode b_A_keepBatch 6 = .ok (.if_icmp .lt 5, 3) := by decide +kernel
theorem d_A_keepBatch_9 : decode b_A_keepBatch 9 = .ok (.iconst (-1), 1) := by decide +kernel
theorem d_A_keepBatch_10 : decode b_A_keepBatch 10 = .ok (.ireturn, 1) := by decide +kernel
theorem d_A_keepBatch_11 : decode b_A_keepBatch 11 = .ok (.aload_n 0, 1) := by decide +kernel
theorem d_A_keepBatch_12 : decode b_A_keepBatch 12 = .ok (.getfield 11, 3) := by decide +kernel
theorem d_A_keepBatch_15 : decode b_A_keepBatch 15 = .ok (.aload_n 0, 1) := by decide +kernel
theorem d_A_keepBatch_16 : decode b_A_keepBatch 16 = .ok (.getfield 44, 3) := by decide +kernel
theorem d_A_keepBatch_19 : decode b_A_keepBatch 19 = .ok (.aload_n 1, 1) := by decide +kernel
theorem d_A_keepBatch_20 : decode b_A_keepBatch 20 = .ok (.aastore, 1) := by decide +kernel
theorem d_A_keepBatch_21 : decode b_A_keepBatch 21 = .ok (.aload_n 0, 1) := by decide +kernel
theorem d_A_keepBatch_22 : decode b_A_keepBatch 22 = .ok (.dup, 1) := by decide +kernel
theorem d_A_keepBatch_23 : decode b_A_keepBatch 23 = .ok (.getfield 44, 3) := by decide +kernel
theorem d_A_keepBatch_26 : decode b_A_keepBatch 26 = .ok (.iconst 1, 1) := by decide +kernel
theorem d_A_keepBatch_27 : decode b_A_keepBatch 27 = .ok (.iadd, 1) := by decide +kernel
theorem d_A_keepBatch_28 : decode b_A_keepBatch 28 = .ok (.putfield 44, 3) := by decide +kernel
theorem d_A_keepBatch_31 : decode b_A_keepBatch 31 = .ok (.aload_n 0, 1) := by decide +kernel
theorem d_A_keepBatch_32 : decode b_A_keepBatch 32 = .ok (.getfield 44, 3) := by decide +kernel
theorem d_A_keepBatch_35 : decode b_A_keepBatch 35 = .ok (.iconst 1, 1) := by decide +kernel
theorem d_A_keepBatch_36 : decode b_A_keepBatch 36 = .ok (.isub, 1) := by decide +kernel
theorem d_A_keepBatch_37 : decode b_A_keepBatch 37 = .ok (.ireturn, 1) := by decide +kernel
theorem d_A_passThrough_0 : decode b_A_passThrough 0 = .ok (.aload_n 0, 1) := by decide +kernel
theorem d_A_passThrough_1 : decode b_A_passThrough 1 = .ok (.iload_n 2, 1) := by decide +kernel
theorem d_A_passThrough_2 : decode b_A_passThrough 2 = .ok (.invokevirtual 107, 3) := by decide +kernel
theorem d_A_passThrough_5 : decode b_A_passThrough 5 = .ok (.astore_n 3, 1) := by decide +kernel
theorem d_A_passThrough_6 : decode b_A_passThrough 6 = .ok (.aload_n 3, 1) := by decide +kernel
theorem d_A_passThrough_7 : decode b_A_passThrough 7 = .ok (.ifnonnull 4, 3) := by decide +kernel
theorem d_A_passThrough_10 : decode b_A_passThrough 10 = .ok (.return_, 1) := by decide +kernel
theorem d_A_passThrough_11 : decode b_A_passThrough 11 = .ok (.lconst 0, 1) := by decide +kernel
theorem d_A_passThrough_12 : decode b_A_passThrough 12 = .ok (.lstore 4, 2) := by decide +kernel
theorem d_A_passThrough_14 : decode b_A_passThrough 14 = .ok (.iconst 0, 1) := by decide +kernel
theorem d_A_passThrough_15 : decode b_A_passThrough 15 = .ok (.istore 6, 2) := by decide +kernel
theorem d_A_passThrough_17 : decode b_A_passThrough 17 = .ok (.iload 6, 2) := by decide +kernel
theorem d_A_passThrough_19 : decode b_A_passThrough 19 = .ok (.iconst 4, 1) := by decide +kernel
theorem d_A_passThrough_20 : decode b_A_passThrough 20 = .ok (.if_icmp .ge 74, 3) := by decide +kernel
theorem d_A_passThrough_23 : decode b_A_passThrough 23 = .ok (.aload_n 1, 1) := by decide +kernel
theorem d_A_passThrough_24 : decode b_A_passThrough 24 = .ok (.getfield 77, 3) := by decide +kernel
theorem d_A_passThrough_27 : decode b_A_passThrough 27 = .ok (.iload 6, 2) := by decide +kernel
theorem d_A_passThrough_29 : decode b_A_passThrough 29 = .ok (.laload, 1) := by decide +kernel
theorem d_A_passThrough_30 : decode b_A_passThrough 30 = .ok (.aload_n 3, 1) := by decide +kernel
theorem d_A_passThrough_31 : decode b_A_passThrough 31 = .ok (.iload 6, 2) := by decide +kernel
theorem d_A_passThrough_33 : decode b_A_passThrough 33 = .ok (.invokevirtual 166, 3) := by decide +kernel
theorem d_A_passThrough_36 : decode b_A_passThrough 36 = .ok (.i2l, 1) := by decide +kernel
theorem d_A_passThrough_37 : decode b_A_passThrough 37 = .ok (.lmul, 1) := by decide +kernel
theorem d_A_passThrough_38 : decode b_A_passThrough 38 = .ok (.ldc2_w 90, 3) := by decide +kernel
theorem d_A_passThrough_41 : decode b_A_passThrough 41 = .ok (.ldiv, 1) := by decide +kernel
theorem d_A_passThrough_42 : decode b_A_passThrough 42 = .ok (.lstore 7, 2) := by decide +kernel
theorem d_A_passThrough_44 : decode b_A_passThrough 44 = .ok (.aload_n 1, 1) := by decide +kernel
theorem d_A_passThrough_45 : decode b_A_passThrough 45 = .ok (.getfield 77, 3) := by decide +kernel
theorem d_A_passThrough_48 : decode b_A_passThrough 48 = .ok (.iload 6, 2) := by decide +kernel
theorem d_A_passThrough_50 : decode b_A_passThrough 50 = .ok (.dup2, 1) := by decide +kernel
theorem d_A_passThrough_51 : decode b_A_passThrough 51 = .ok (.laload, 1) := by decide +kernel
theorem d_A_passThrough_52 : decode b_A_passThrough 52 = .ok (.lload 7, 2) := by decide +kernel
theorem d_A_passThrough_54 : decode b_A_passThrough 54 = .ok (.lsub, 1) := by decide +kernel
theorem d_A_passThrough_55 : decode b_A_passThrough 55 = .ok (.lastore, 1) := by decide +kernel
theorem d_A_passThrough_56 : decode b_A_passThrough 56 = .ok (.aload_n 1, 1) := by decide +kernel
theorem d_A_passThrough_57 : decode b_A_passThrough 57 = .ok (.getfield 104, 3) := by decide +kernel
theorem d_A_passThrough_60 : decode b_A_passThrough 60 = .ok (.iload_n 2, 1) := by decide +kernel
theorem d_A_passThrough_61 : decode b_A_passThrough 61 = .ok (.iconst 4, 1) := by decide +kernel
theorem d_A_passThrough_62 : decode b_A_passThrough 62 = .ok (.imul, 1) := by decide +kernel
theorem d_A_passThrough_63 : decode b_A_passThrough 63 = .ok (.iload 6, 2) := by decide +kernel
theorem d_A_passThrough_65 : decode b_A_passThrough 65 = .ok (.iadd, 1) := by decide +kernel
theorem d_A_passThrough_66 : decode b_A_passThrough 66 = .ok (.lload 7, 2) := by decide +kernel
theorem d_A_passThrough_68 : decode b_A_passThrough 68 = .ok (.lastore, 1) := by decide +kernel
theorem d_A_passThrough_69 : decode b_A_passThrough 69 = .ok (.aload_n 3, 1) := by decide +kernel
theorem d_A_passThrough_70 : decode b_A_passThrough 70 = .ok (.getfield 111, 3) := by decide +kernel
theorem d_A_passThrough_73 : decode b_A_passThrough 73 = .ok (.iload 6, 2) := by decide +kernel
theorem d_A_passThrough_75 : decode b_A_passThrough 75 = .ok (.dup2, 1) := by decide +kernel
theorem d_A_passThrough_76 : decode b_A_passThrough 76 = .ok (.laload, 1) := by decide +kernel
theorem d_A_passThrough_77 : decode b_A_passThrough 77 = .ok (.lload 7, 2) := by decide +kernel
theorem d_A_passThrough_79 : decode b_A_passThrough 79 = .ok (.ladd, 1) := by decide +kernel
theorem d_A_passThrough_80 : decode b_A_passThrough 80 = .ok (.lastore, 1) := by decide +kernel
theorem d_A_passThrough_81 : decode b_A_passThrough 81 = .ok (.lload 4, 2) := by decide +kernel
theorem d_A_passThrough_83 : decode b_A_passThrough 83 = .ok (.lload 7, 2) := by decide +kernel
theorem d_A_passThrough_85 : decode b_A_passThrough 85 = .ok (.ladd, 1) := by decide +kernel
theorem d_A_passThrough_86 : decode b_A_passThrough 86 = .ok (.lstore 4, 2) := by decide +kernel
theorem d_A_passThrough_88 : decode b_A_passThrough 88 = .ok (.iinc 6 1, 3) := by decide +kernel
theorem d_A_passThrough_91 : decode b_A_passThrough 91 = .ok (.goto (-74), 3) := by decide +kernel
theorem d_A_passThrough_94 : decode b_A_passThrough 94 = .ok (.aload_n 1, 1) := by decide +kernel
theorem d_A_passThrough_95 : decode b_A_passThrough 95 = .ok (.lconst 0, 1) := by decide +kernel
theorem d_A_passThrough_96 : decode b_A_passThrough 96 = .ok (.aload_n 1, 1) := by decide +kernel
theorem d_A_passThrough_97 : decode b_A_passThrough 97 = .ok (.getfield 81, 3) := by decide +kernel
theorem d_A_passThrough_100 : decode b_A_passThrough 100 = .ok (.lload 4, 2) := by decide +kernel
theorem d_A_passThrough_102 : decode b_A_passThrough 102 = .ok (.ldc2_w 75, 3) := by decide +kernel
theorem d_A_passThrough_105 : decode b_A_passThrough 105 = .ok (.ldiv, 1) := by decide +kernel
theorem d_A_passThrough_106 : decode b_A_passThrough 106 = .ok (.lsub, 1) := by decide +kernel
theorem d_A_passThrough_107 : decode b_A_passThrough 107 = .ok (.invokestatic 169, 3) := by decide +kernel
theorem d_A_passThrough_110 : decode b_A_passThrough 110 = .ok (.putfield 81, 3) := by decide +kernel
theorem d_A_passThrough_113 : decode b_A_passThrough 113 = .ok (.return_, 1) := by decide +kernel
theorem d_A_mixtureOf_0 : decode b_A_mixtureOf 0 = .ok (.new 9, 3) := by decide +kernel
theorem d_A_mixtureOf_3 : decode b_A_mixtureOf 3 = .ok (.dup, 1) := by decide +kernel
theorem d_A_mixtureOf_4 : decode b_A_mixtureOf 4 = .ok (.aload_n 0, 1) := by decide +kernel
theorem d_A_mixtureOf_5 : decode b_A_mixtureOf 5 = .ok (.getfield 81, 3) := by decide +kernel
theorem d_A_mixtureOf_8 : decode b_A_mixtureOf 8 = .ok (.aload_n 1, 1) := by decide +kernel
theorem d_A_mixtureOf_9 : decode b_A_mixtureOf 9 = .ok (.getfield 81, 3) := by decide +kernel
theorem d_A_mixtureOf_12 : decode b_A_mixtureOf 12 = .ok (.ladd, 1) := by decide +kernel
theorem d_A_mixtureOf_13 : decode b_A_mixtureOf 13 = .ok (.aload_n 0, 1) := by decide +kernel
theorem d_A_mixtureOf_14 : decode b_A_mixtureOf 14 = .ok (.getfield 175, 3) := by decide +kernel
theorem d_A_mixtureOf_17 : decode b_A_mixtureOf 17 = .ok (.aload_n 1, 1) := by decide +kernel
theorem d_A_mixtureOf_18 : decode b_A_mixtureOf 18 = .ok (.getfield 175, 3) := by decide +kernel
theorem d_A_mixtureOf_21 : decode b_A_mixtureOf 21 = .ok (.invokestatic 178, 3) := by decide +kernel
theorem d_A_mixtureOf_24 : decode b_A_mixtureOf 24 = .ok (.iconst 1, 1) := by decide +kernel
theorem d_A_mixtureOf_25 : decode b_A_mixtureOf 25 = .ok (.invokespecial 50, 3) := by decide +kernel
theorem d_A_mixtureOf_28 : decode b_A_mixtureOf 28 = .ok (.astore_n 2, 1) := by decide +kernel
theorem d_A_mixtureOf_29 : decode b_A_mixtureOf 29 = .ok (.iconst 0, 1) := by decide +kernel
theorem d_A_mixtureOf_30 : decode b_A_mixtureOf 30 = .ok (.istore_n 3, 1) := by decide +kernel
theorem d_A_mixtureOf_31 : decode b_A_mixtureOf 31 = .ok (.iload_n 3, 1) := by decide +kernel
theorem d_A_mixtureOf_32 : decode b_A_mixtureOf 32 = .ok (.iconst 4, 1) := by decide +kernel
theorem d_A_mixtureOf_33 : decode b_A_mixtureOf 33 = .ok (.if_icmp .ge 28, 3) := by decide +kernel
theorem d_A_mixtureOf_36 : decode b_A_mixtureOf 36 = .ok (.aload_n 2, 1) := by decide +kernel
theorem d_A_mixtureOf_37 : decode b_A_mixtureOf 37 = .ok (.getfield 77, 3) := by decide +kernel
theorem d_A_mixtureOf_40 : decode b_A_mixtureOf 40 = .ok (.iload_n 3, 1) := by decide +kernel
theorem d_A_mixtureOf_41 : decode b_A_mixtureOf 41 = .ok (.aload_n 0, 1) := by decide +kernel
theorem d_A_mixtureOf_42 : decode b_A_mixtureOf 42 = .ok (.getfield 77, 3) := by decide +kernel
theorem d_A_mixtureOf_45 : decode b_A_mixtureOf 45 = .ok (.iload_n 3, 1) := by decide +kernel
theorem d_A_mixtureOf_46 : decode b_A_mixtureOf 46 = .ok (.laload, 1) := by decide +kernel
theorem d_A_mixtureOf_47 : decode b_A_mixtureOf 47 = .ok (.aload_n 1, 1) := by decide +kernel
theorem d_A_mixtureOf_48 : decode b_A_mixtureOf 48 = .ok (.getfield 77, 3) := by decide +kernel
theorem d_A_mixtureOf_51 : decode b_A_mixtureOf 51 = .ok (.iload_n 3, 1) := by decide +kernel
theorem d_A_mixtureOf_52 : decode b_A_mixtureOf 52 = .ok (.laload, 1) := by decide +kernel
theorem d_A_mixtureOf_53 : decode b_A_mixtureOf 53 = .ok (.ladd, 1) := by decide +kernel
theorem d_A_mixtureOf_54 : decode b_A_mixtureOf 54 = .ok (.lastore, 1) := by decide +kernel
theorem d_A_mixtureOf_55 : decode b_A_mixtureOf 55 = .ok (.iinc 3 1, 3) := by decide +kernel
theorem d_A_mixtureOf_58 : decode b_A_mixtureOf 58 = .ok (.goto (-27), 3) := by decide +kernel
theorem d_A_mixtureOf_61 : decode b_A_mixtureOf 61 = .ok (.aload_n 2, 1) := by decide +kernel
theorem d_A_mixtureOf_62 : decode b_A_mixtureOf 62 = .ok (.aload_n 0, 1) := by decide +kernel
theorem d_A_mixtureOf_63 : decode b_A_mixtureOf 63 = .ok (.getfield 65, 3) := by decide +kernel
theorem d_A_mixtureOf_66 : decode b_A_mixtureOf 66 = .ok (.ifCond .eq 14, 3) := by decide +kernel
theorem d_A_mixtureOf_69 : decode b_A_mixtureOf 69 = .ok (.aload_n 1, 1) := by decide +kernel
theorem d_A_mixtureOf_70 : decode b_A_mixtureOf 70 = .ok (.getfield 65, 3) := by decide +kernel
theorem d_A_mixtureOf_73 : decode b_A_mixtureOf 73 = .ok (.ifCond .eq 7, 3) := by decide +kernel
theorem d_A_mixtureOf_76 : decode b_A_mixtureOf 76 = .ok (.iconst 1, 1) := by decide +kernel
theorem d_A_mixtureOf_77 : decode b_A_mixtureOf 77 = .ok (.goto 4, 3) := by decide +kernel
theorem d_A_mixtureOf_80 : decode b_A_mixtureOf 80 = .ok (.iconst 0, 1) := by decide +kernel
theorem d_A_mixtureOf_81 : decode b_A_mixtureOf 81 = .ok (.putfield 65, 3) := by decide +kernel
theorem d_A_mixtureOf_84 : decode b_A_mixtureOf 84 = .ok (.aload_n 2, 1) := by decide +kernel
theorem d_A_mixtureOf_85 : decode b_A_mixtureOf 85 = .ok (.areturn, 1) := by decide +kernel
end
section
theorem d_M_init_0 : decode b_M_init 0 = .ok (.aload_n 0, 1) := by decide +kernel
theorem d_M_init_1 : decode b_M_init 1 = .ok (.invokespecial 1, 3) := by decide +kernel
theorem d_M_init_4 : decode b_M_init 4 = .ok (.aload_n 0, 1) := by decide +kernel
theorem d_M_init_5 : decode b_M_init 5 = .ok (.bipush 8, 2) := by decide +kernel
theorem d_M_init_7 : decode b_M_init 7 = .ok (.newarray .long, 2) := by decide +kernel
theorem d_M_init_9 : decode b_M_init 9 = .ok (.putfield 7, 3) := by decide +kernel
theorem d_M_init_12 : decode b_M_init 12 = .ok (.aload_n 0, 1) := by decide +kernel
theorem d_M_init_13 : decode b_M_init 13 = .ok (.bipush 8, 2) := by decide +kernel
theorem d_M_init_15 : decode b_M_init 15 = .ok (.newarray .int, 2) := by decide +kernel
theorem d_M_init_17 : decode b_M_init 17 = .ok (.putfield 13, 3) := by decide +kernel
theorem d_M_init_20 : decode b_M_init 20 = .ok (.aload_n 0, 1) := by decide +kernel
theorem d_M_init_21 : decode b_M_init 21 = .ok (.bipush 8, 2) := by decide +kernel
theorem d_M_init_23 : decode b_M_init 23 = .ok (.newarray .boolean, 2) := by decide +kernel
theorem d_M_init_25 : decode b_M_init 25 = .ok (.putfield 17, 3) := by decide +kernel
theorem d_M_init_28 : decode b_M_init 28 = .ok (.aload_n 0, 1) := by decide +kernel
theorem d_M_init_29 : decode b_M_init 29 = .ok (.bipush 8, 2) := by decide +kernel
theorem d_M_init_31 : decode b_M_init 31 = .ok (.newarray .boolean, 2) := by decide +kernel
theorem d_M_init_33 : decode b_M_init 33 = .ok (.putfield 21, 3) := by decide +kernel
theorem d_M_init_36 : decode b_M_init 36 = .ok (.aload_n 0, 1) := by decide +kernel
theorem d_M_init_37 : decode b_M_init 37 = .ok (.bipush 8, 2) := by decide +kernel
theorem d_M_init_39 : decode b_M_init 39 = .ok (.newarray .boolean, 2) := by decide +kernel
theorem d_M_init_41 : decode b_M_init 41 = .ok (.putfield 24, 3) := by decide +kernel
theorem d_M_init_44 : decode b_M_init 44 = .ok (.aload_n 0, 1) := by decide +kernel
theorem d_M_init_45 : decode b_M_init 45 = .ok (.bipush 8, 2) := by decide +kernel
theorem d_M_init_47 : decode b_M_init 47 = .ok (.newarray .int, 2) := by decide +kernel
theorem d_M_init_49 : decode b_M_init 49 = .ok (.putfield 27, 3) := by decide +kernel
theorem d_M_init_52 : decode b_M_init 52 = .ok (.aload_n 0, 1) := by decide +kernel
theorem d_M_init_53 : decode b_M_init 53 = .ok (.bipush 32, 2) := by decide +kernel
theorem d_M_init_55 : decode b_M_init 55 = .ok (.newarray .long, 2) := by decide +kernel
theorem d_M_init_57 : decode b_M_init 57 = .ok (.putfield 30, 3) := by decide +kernel
theorem d_M_init_60 : decode b_M_init 60 = .ok (.aload_n 0, 1) := by decide +kernel
theorem d_M_init_61 : decode b_M_init 61 = .ok (.sipush 192, 3) := by decide +kernel
theorem d_M_init_64 : decode b_M_init 64 = .ok (.newarray .long, 2) := by decide +kernel
theorem d_M_init_66 : decode b_M_init 66 = .ok (.putfield 33, 3) := by decide +kernel
theorem d_M_init_69 : decode b_M_init 69 = .ok (.aload_n 0, 1) := by decide +kernel
theorem d_M_init_70 : decode b_M_init 70 = .ok (.bipush 6, 2) := by decide +kernel
theorem d_M_init_72 : decode b_M_init 72 = .ok (.newarray .int, 2) := by decide +kernel
theorem d_M_init_74 : decode b_M_init 74 = .ok (.putfield 36, 3) := by decide +kernel
theorem d_M_init_77 : decode b_M_init 77 = .ok (.aload_n 0, 1) := by decide +kernel
theorem d_M_init_78 : decode b_M_init 78 = .ok (.bipush 6, 2) := by decide +kernel
theorem d_M_init_80 : decode b_M_init 80 = .ok (.newarray .int, 2) := by decide +kernel
theorem d_M_init_82 : decode b_M_init 82 = .ok (.putfield 39, 3) := by decide +kernel
theorem d_M_init_85 : decode b_M_init 85 = .ok (.aload_n 0, 1) := by decide +kernel
theorem d_M_init_86 : decode b_M_init 86 = .ok (.bipush 6, 2) := by decide +kernel
theorem d_M_init_88 : decode b_M_init 88 = .ok (.newarray .int, 2) := by decide +kernel
theorem d_M_init_90 : decode b_M_init 90 = .ok (.putfield 42, 3) := by decide +kernel
theorem d_M_init_93 : decode b_M_init 93 = .ok (.aload_n 0, 1) := by decide +kernel
theorem d_M_init_94 : decode b_M_init 94 = .ok (.bipush 24, 2) := by decide +kernel
theorem d_M_init_96 : decode b_M_init 96 = .ok (.newarray .long, 2) := by decide +kernel
theorem d_M_init_98 : decode b_M_init 98 = .ok (.putfield 45, 3) := by decide +kernel
theorem d_M_init_101 : decode b_M_init 101 = .ok (.aload_n 0, 1) := by decide +kernel
theorem d_M_init_102 : decode b_M_init 102 = .ok (.iconst 4, 1) := by decide +kernel
theorem d_M_init_103 : decode b_M_init 103 = .ok (.newarray .int, 2) := by decide +kernel
theorem d_M_init_105 : decode b_M_init 105 = .ok (.putfield 48, 3) := by decide +kernel
theorem d_M_init_108 : decode b_M_init 108 = .ok (.aload_n 0, 1) := by decide +kernel
theorem d_M_init_109 : decode b_M_init 109 = .ok (.bipush 24, 2) := by decide +kernel
theorem d_M_init_111 : decode b_M_init 111 = .ok (.newarray .int, 2) := by decide +kernel
theorem d_M_init_113 : decode b_M_init 113 = .ok (.putfield 51, 3) := by decide +kernel
theorem d_M_init_116 : decode b_M_init 116 = .ok (.aload_n 0, 1) := by decide +kernel
theorem d_M_init_117 : decode b_M_init 117 = .ok (.bipush 24, 2) := by decide +kernel
theorem d_M_init_119 : decode b_M_init 119 = .ok (.newarray .long, 2) := by decide +kernel
theorem d_M_init_121 : decode b_M_init 121 = .ok (.putfield 54, 3) := by decide +kernel
theorem d_M_init_124 : decode b_M_init 124 = .ok (.aload_n 0, 1) := by decide +kernel
theorem d_M_init_125 : decode b_M_init 125 = .ok (.bipush 96, 2) := by decide +kernel
theorem d_M_init_127 : decode b_M_init 127 = .ok (.newarray .int, 2) := by decide +kernel
theorem d_M_init_129 : decode b_M_init 129 = .ok (.putfield 57, 3) := by decide +kernel
theorem d_M_init_132 : decode b_M_init 132 = .ok (.aload_n 0, 1) := by decide +kernel
theorem d_M_init_133 : decode b_M_init 133 = .ok (.bipush 50, 2) := by decide +kernel
theorem d_M_init_135 : decode b_M_init 135 = .ok (.putfield 60, 3) := by decide +kernel
theorem d_M_init_138 : decode b_M_init 138 = .ok (.aload_n 0, 1) := by decide +kernel
theorem d_M_init_139 : decode b_M_init 139 = .ok (.bipush 8, 2) := by decide +kernel
theorem d_M_init_141 : decode b_M_init 141 = .ok (.newarray .int, 2) := by decide +kernel
theorem d_M_init_143 : decode b_M_init 143 = .ok (.putfield 64, 3) := by decide +kernel
theorem d_M_init_146 : decode b_M_init 146 = .ok (.aload_n 0, 1) := by decide +kernel
theorem d_M_init_147 : decode b_M_init 147 = .ok (.bipush 8, 2) := by decide +kernel
theorem d_M_init_149 : decode b_M_init 149 = .ok (.newarray .int, 2) := by decide +kernel
theorem d_M_init_151 : decode b_M_init 151 = .ok (.putfield 67, 3) := by decide +kernel
theorem d_M_init_154 : decode b_M_init 154 = .ok (.aload_n 0, 1) := by decide +kernel
theorem d_M_init_155 : decode b_M_init 155 = .ok (.bipush 8, 2) := by decide +kernel
theorem d_M_init_157 : decode b_M_init 157 = .ok (.newarray .int, 2) := by decide +kernel
theorem d_M_init_159 : decode b_M_init 159 = .ok (.putfield 70, 3) := by decide +kernel
theorem d_M_init_162 : decode b_M_init 162 = .ok (.aload_n 0, 1) := by decide +kernel
theorem d_M_init_163 : decode b_M_init 163 = .ok (.bipush 8, 2) := by decide +kernel
theorem d_M_init_165 : decode b_M_init 165 = .ok (.newarray .int, 2) := by decide +kernel
theorem d_M_init_167 : decode b_M_init 167 = .ok (.putfield 73, 3) := by decide +kernel
theorem d_M_init_170 : decode b_M_init 170 = .ok (.return_, 1) := by decide +kernel
theorem d_M_isIn_0 : decode b_M_isIn 0 = .ok (.lload_n 0, 1) := by decide +kernel
theorem d_M_isIn_1 : decode b_M_isIn 1 = .ok (.lload_n 2, 1) := by decide +kernel
theorem d_M_isIn_2 : decode b_M_isIn 2 = .ok (.lcmp, 1) := by decide +kernel
theorem d_M_isIn_3 : decode b_M_isIn 3 = .ok (.ifCond .lt 14, 3) := by decide +kernel
theorem d_M_isIn_6 : decode b_M_isIn 6 = .ok (.lload_n 0, 1) := by decide +kernel
theorem d_M_isIn_7 : decode b_M_isIn 7 = .ok (.lload 4, 2) := by decide +kernel
theorem d_M_isIn_9 : decode b_M_isIn 9 = .ok (.lcmp, 1) := by decide +kernel
theorem d_M_isIn_10 : decode b_M_isIn 10 = .ok (.ifCond .gt 7, 3) := by decide +kernel
theorem d_M_isIn_13 : decode b_M_isIn 13 = .ok (.iconst 1, 1) := by decide +kernel
theorem d_M_isIn_14 : decode b_M_isIn 14 = .ok (.goto 4, 3) := by decide +kernel
theorem d_M_isIn_17 : decode b_M_isIn 17 = .ok (.iconst 0, 1) := by decide +kernel
theorem d_M_isIn_18 : decode b_M_isIn 18 = .ok (.ireturn, 1) := by decide +kernel
theorem d_M_isBatch_0 : decode b_M_isBatch 0 = .ok (.iload_n 1, 1) := by decide +kernel
theorem d_M_isBatch_1 : decode b_M_isBatch 1 = .ok (.ifCond .lt 15, 3) := by decide +kernel
theorem d_M_isBatch_4 : decode b_M_isBatch 4 = .ok (.iload_n 1, 1) := by decide +kernel
theorem d_M_isBatch_5 : decode b_M_isBatch 5 = .ok (.aload_n 0, 1) := by decide +kernel
theorem d_M_isBatch_6 : decode b_M_isBatch 6 = .ok (.getfield 76, 3) := by decide +kernel
theorem d_M_isBatch_9 : decode b_M_isBatch 9 = .ok (.if_icmp .ge 7, 3) := by decide +kernel
theorem d_M_isBatch_12 : decode b_M_isBatch 12 = .ok (.iconst 1, 1) := by decide +kernel
theorem d_M_isBatch_13 : decode b_M_isBatch 13 = .ok (.goto 4, 3) := by decide +kernel
theorem d_M_isBatch_16 : decode b_M_isBatch 16 = .ok (.iconst 0, 1) := by decide +kernel
theorem d_M_isBatch_17 : decode b_M_isBatch 17 = .ok (.ireturn, 1) := by decide +kernel
theorem d_M_isStage_0 : decode b_M_isStage 0 = .ok (.iload_n 1, 1) := by decide +kernel
theorem d_M_isStage_1 : decode b_M_isStage 1 = .ok (.ifCond .lt 15, 3) := by decide +kernel
theorem d_M_isStage_4 : decode b_M_isStage 4 = .ok (.iload_n 1, 1) := by decide +kernel
theorem d_M_isStage_5 : decode b_M_isStage 5 = .ok (.aload_n 0, 1) := by decide +kernel
theorem d_M_isStage_6 : decode b_M_isStage 6 = .ok (.getfield 79, 3) := by decide +kernel
theorem d_M_isStage_9 : decode b_M_isStage 9 = .ok (.if_icmp .ge 7, 3) := by decide +kernel
theorem d_M_isStage_12 : decode b_M_isStage 12 = .ok (.iconst 1, 1) := by decide +kernel
theorem d_M_isStage_13 : decode b_M_isStage 13 = .ok (.goto 4, 3) := by decide +kernel
theorem d_M_isStage_16 : decode b_M_isStage 16 = .ok (.iconst 0, 1) := by decide +kernel
theorem d_M_isStage_17 : decode b_M_isStage 17 = .ok (.ireturn, 1) := by decide +kernel
theorem d_M_isMetal_0 : decode b_M_isMetal 0 = .ok (.iload_n 0, 1) := by decide +kernel
theorem d_M_isMetal_1 : decode b_M_isMetal 1 = .ok (.ifCond .lt 12, 3) := by decide +kernel
theorem d_M_isMetal_4 : decode b_M_isMetal 4 = .ok (.iload_n 0, 1) := by decide +kernel
theorem d_M_isMetal_5 : decode b_M_isMetal 5 = .ok (.iconst 4, 1) := by decide +kernel
theorem d_M_isMetal_6 : decode b_M_isMetal 6 = .ok (.if_icmp .ge 7, 3) := by decide +kernel
theorem d_M_isMetal_9 : decode b_M_isMetal 9 = .ok (.iconst 1, 1) := by decide +kernel
theorem d_M_isMetal_10 : decode b_M_isMetal 10 = .ok (.goto 4, 3) := by decide +kernel
theorem d_M_isMetal_13 : decode b_M_isMetal 13 = .ok (.iconst 0, 1) := by decide +kernel
theorem d_M_isMetal_14 : decode b_M_isMetal 14 = .ok (.ireturn, 1) := by decide +kernel
theorem d_M_add_0 : decode b_M_add 0 = .ok (.aload_n 0, 1) := by decide +kernel
theorem d_M_add_1 : decode b_M_add 1 = .ok (.getfield 7, 3) := by decide +kernel
theorem d_M_add_4 : decode b_M_add 4 = .ok (.aload_n 0, 1) := by decide +kernel
theorem d_M_add_5 : decode b_M_add 5 = .ok (.getfield 76, 3) := by decide +kernel
theorem d_M_add_8 : decode b_M_add 8 = .ok (.lload_n 1, 1) := by decide +kernel
theorem d_M_add_9 : decode b_M_add 9 = .ok (.lastore, 1) := by decide +kernel
theorem d_M_add_10 : decode b_M_add 10 = .ok (.aload_n 0, 1) := by decide +kernel
theorem d_M_add_11 : decode b_M_add 11 = .ok (.getfield 13, 3) := by decide +kernel
theorem d_M_add_14 : decode b_M_add 14 = .ok (.aload_n 0, 1) := by decide +kernel
theorem d_M_add_15 : decode b_M_add 15 = .ok (.getfield 76, 3) := by decide +kernel
theorem d_M_add_18 : decode b_M_add 18 = .ok (.iload_n 3, 1) := by decide +kernel
theorem d_M_add_19 : decode b_M_add 19 = .ok (.iastore, 1) := by decide +kernel
theorem d_M_add_20 : decode b_M_add 20 = .ok (.aload_n 0, 1) := by decide +kernel
theorem d_M_add_21 : decode b_M_add 21 = .ok (.getfield 27, 3) := by decide +kernel
theorem d_M_add_24 : decode b_M_add 24 = .ok (.aload_n 0, 1) := by decide +kernel
theorem d_M_add_25 : decode b_M_add 25 = .ok (.getfield 76, 3) := by decide +kernel
theorem d_M_add_28 : decode b_M_add 28 = .ok (.iconst (-1), 1) := by decide +kernel
theorem d_M_add_29 : decode b_M_add 29 = .ok (.iastore, 1) := by decide +kernel
theorem d_M_add_30 : decode b_M_add 30 = .ok (.iconst 0, 1) := by decide +kernel
theorem d_M_add_31 : decode b_M_add 31 = .ok (.istore 4, 2) := by decide +kernel
theorem d_M_add_33 : decode b_M_add 33 = .ok (.iload 4, 2) := by decide +kernel
theorem d_M_add_35 : decode b_M_add 35 = .ok (.bipush 12, 2) := by decide +kernel
theorem d_M_add_37 : decode b_M_add 37 = .ok (.if_icmp .ge 25, 3) := by decide +kernel
theorem d_M_add_40 : decode b_M_add 40 = .ok (.aload_n 0, 1) := by decide +kernel
theorem d_M_add_41 : decode b_M_add 41 = .ok (.getfield 57, 3) := by decide +kernel
theorem d_M_add_44 : decode b_M_add 44 = .ok (.bipush 12, 2) := by decide +kernel
theorem d_M_add_46 : decode b_M_add 46 = .ok (.aload_n 0, 1) := by decide +kernel
theorem d_M_add_47 : decode b_M_add 47 = .ok (.getfield 76, 3) := by decide +kernel
theorem d_M_add_50 : decode b_M_add 50 = .ok (.imul, 1) := by decide +kernel
theorem d_M_add_51 : decode b_M_add 51 = .ok (.iload 4, 2) := by decide +kernel
theorem d_M_add_53 : decode b_M_add 53 = .ok (.iadd, 1) := by decide +kernel
theorem d_M_add_54 : decode b_M_add 54 = .ok (.iconst (-1), 1) := by decide +kernel
theorem d_M_add_55 : decode b_M_add 55 = .ok (.iastore, 1) := by decide +kernel
theorem d_M_add_56 : decode b_M_add 56 = .ok (.iinc 4 1, 3) := by decide +kernel
theorem d_M_add_59 : decode b_M_add 59 = .ok (.goto (-26), 3) := by decide +kernel
theorem d_M_add_62 : decode b_M_add 62 = .ok (.aload_n 0, 1) := by decide +kernel
theorem d_M_add_63 : decode b_M_add 63 = .ok (.dup, 1) := by decide +kernel
theorem d_M_add_64 : decode b_M_add 64 = .ok (.getfield 76, 3) := by decide +kernel
theorem d_M_add_67 : decode b_M_add 67 = .ok (.iconst 1, 1) := by decide +kernel
theorem d_M_add_68 : decode b_M_add 68 = .ok (.iadd, 1) := by decide +kernel
theorem d_M_add_69 : decode b_M_add 69 = .ok (.putfield 76, 3) := by decide +kernel
theorem d_M_add_72 : decode b_M_add 72 = .ok (.aload_n 0, 1) := by decide +kernel
theorem d_M_add_73 : decode b_M_add 73 = .ok (.getfield 76, 3) := by decide +kernel
theorem d_M_add_76 : decode b_M_add 76 = .ok (.iconst 1, 1) := by decide +kernel
theorem d_M_add_77 : decode b_M_add 77 = .ok (.isub, 1) := by decide +kernel
theorem d_M_add_78 : decode b_M_add 78 = .ok (.ireturn, 1) := by decide +kernel
theorem d_M_batch_0 : decode b_M_batch 0 = .ok (.aload_n 0, 1) := by decide +kernel
theorem d_M_batch_1 : decode b_M_batch 1 = .ok (.getfield 76, 3) := by decide +kernel
theorem d_M_batch_4 : decode b_M_batch 4 = .ok (.bipush 8, 2) := by decide +kernel
theorem d_M_batch_6 : decode b_M_batch 6 = .ok (.if_icmp .eq 14, 3) := by decide +kernel
theorem d_M_batch_9 : decode b_M_batch 9 = .ok (.lload_n 1, 1) := by decide +kernel
theorem d_M_batch_10 : decode b_M_batch 10 = .ok (.lconst 1, 1) := by decide +kernel
theorem d_M_batch_11 : decode b_M_batch 11 = .ok (.ldc2_w 82, 3) := by decide +kernel
theorem d_M_batch_14 : decode b_M_batch 14 = .ok (.invokestatic 84, 3) := by decide +kernel
theorem d_M_batch_17 : decode b_M_batch 17 = .ok (.ifCond .ne 7, 3) := by decide +kernel
theorem d_M_batch_20 : decode b_M_batch 20 = .ok (.iconst (-1), 1) := by decide +kernel
theorem d_M_batch_21 : decode b_M_batch 21 = .ok (.goto 12, 3) := by decide +kernel
theorem d_M_batch_24 : decode b_M_batch 24 = .ok (.aload_n 0, 1) := by decide +kernel
theorem d_M_batch_25 : decode b_M_batch 25 = .ok (.lload_n 1, 1) := by decide +kernel
theorem d_M_batch_26 : decode b_M_batch 26 = .ok (.aload_n 0, 1) := by decide +kernel
theorem d_M_batch_27 : decode b_M_batch 27 = .ok (.getfield 88, 3) := by decide +kernel
theorem d_M_batch_30 : decode b_M_batch 30 = .ok (.invokevirtual 91, 3) := by decide +kernel
theorem d_M_batch_33 : decode b_M_batch 33 = .ok (.ireturn, 1) := by decide +kernel
theorem d_M_parts_0 : decode b_M_parts 0 = .ok (.aload_n 0, 1) := by decide +kernel
theorem d_M_parts_1 : decode b_M_parts 1 = .ok (.iload_n 1, 1) := by decide +kernel
theorem d_M_parts_2 : decode b_M_parts 2 = .ok (.invokevirtual 95, 3) := by decide +kernel
theorem d_M_parts_5 : decode b_M_parts 5 = .ok (.ifCond .eq 49, 3) := by decide +kernel
theorem d_M_parts_8 : decode b_M_parts 8 = .ok (.iload_n 2, 1) := by decide +kernel
theorem d_M_parts_9 : decode b_M_parts 9 = .ok (.invokestatic 99, 3) := by decide +kernel
theorem d_M_parts_12 : decode b_M_parts 12 = .ok (.ifCond .eq 42, 3) := by decide +kernel
theorem d_M_parts_15 : decode b_M_parts 15 = .ok (.iload_n 3, 1) := by decide +kernel
theorem d_M_parts_16 : decode b_M_parts 16 = .ok (.i2l, 1) := by decide +kernel
theorem d_M_parts_17 : decode b_M_parts 17 = .ok (.lconst 0, 1) := by decide +kernel
theorem d_M_parts_18 : decode b_M_parts 18 = .ok (.ldc2_w 102, 3) := by decide +kernel
theorem d_M_parts_21 : decode b_M_parts 21 = .ok (.invokestatic 84, 3) := by decide +kernel
theorem d_M_parts_24 : decode b_M_parts 24 = .ok (.ifCond .eq 30, 3) := by decide +kernel
theorem d_M_parts_27 : decode b_M_parts 27 = .ok (.aload_n 0, 1) := by decide +kernel
theorem d_M_parts_28 : decode b_M_parts 28 = .ok (.getfield 17, 3) := by decide +kernel
theorem d_M_parts_31 : decode b_M_parts 31 = .ok (.iload_n 1, 1) := by decide +kernel
theorem d_M_parts_32 : decode b_M_parts 32 = .ok (.baload, 1) := by decide +kernel
theorem d_M_parts_33 : decode b_M_parts 33 = .ok (.ifCond .ne 21, 3) := by decide +kernel
theorem d_M_parts_36 : decode b_M_parts 36 = .ok (.aload_n 0, 1) := by decide +kernel
theorem d_M_parts_37 : decode b_M_parts 37 = .ok (.getfield 24, 3) := by decide +kernel
theorem d_M_parts_40 : decode b_M_parts 40 = .ok (.iload_n 1, 1) := by decide +kernel
theorem d_M_parts_41 : decode b_M_parts 41 = .ok (.baload, 1) := by decide +kernel
theorem d_M_parts_42 : decode b_M_parts 42 = .ok (.ifCond .ne 12, 3) := by decide +kernel
theorem d_M_parts_45 : decode b_M_parts 45 = .ok (.aload_n 0, 1) := by decide +kernel
theorem d_M_parts_46 : decode b_M_parts 46 = .ok (.getfield 21, 3) := by decide +kernel
theorem d_M_parts_49 : decode b_M_parts 49 = .ok (.iload_n 1, 1) := by decide +kernel
theorem d_M_parts_50 : decode b_M_parts 50 = .ok (.baload, 1) := by decide +kernel
theorem d_M_parts_51 : decode b_M_parts 51 = .ok (.ifCond .eq 5, 3) := by decide +kernel
theorem d_M_parts_54 : decode b_M_parts 54 = .ok (.iconst 0, 1) := by decide +kernel
theorem d_M_parts_55 : decode b_M_parts 55 = .ok (.ireturn, 1) := by decide +kernel
theorem d_M_parts_56 : decode b_M_parts 56 = .ok (.aload_n 0, 1) := by decide +kernel
theorem d_M_parts_57 : decode b_M_parts 57 = .ok (.getfield 30, 3) := by decide +kernel
theorem d_M_parts_60 : decode b_M_parts 60 = .ok (.iconst 4, 1) := by decide +kernel
theorem d_M_parts_61 : decode b_M_parts 61 = .ok (.iload_n 1, 1) := by decide +kernel
theorem d_M_parts_62 : decode b_M_parts 62 = .ok (.imul, 1) := by decide +kernel
theorem d_M_parts_63 : decode b_M_parts 63 = .ok (.iload_n 2, 1) := by decide +kernel
theorem d_M_parts_64 : decode b_M_parts 64 = .ok (.iadd, 1) := by decide +kernel
theorem d_M_parts_65 : decode b_M_parts 65 = .ok (.aload_n 0, 1) := by decide +kernel
theorem d_M_parts_66 : decode b_M_parts 66 = .ok (.getfield 7, 3) := by decide +kernel
theorem d_M_parts_69 : decode b_M_parts 69 = .ok (.iload_n 1, 1) := by decide +kernel
theorem d_M_parts_70 : decode b_M_parts 70 = .ok (.laload, 1) := by decide +kernel
theorem d_M_parts_71 : decode b_M_parts 71 = .ok (.iload_n 3, 1) := by decide +kernel
theorem d_M_parts_72 : decode b_M_parts 72 = .ok (.i2l, 1) := by decide +kernel
theorem d_M_parts_73 : decode b_M_parts 73 = .ok (.lmul, 1) := by decide +kernel
theorem d_M_parts_74 : decode b_M_parts 74 = .ok (.lastore, 1) := by decide +kernel
theorem d_M_parts_75 : decode b_M_parts 75 = .ok (.iconst 1, 1) := by decide +kernel
theorem d_M_parts_76 : decode b_M_parts 76 = .ok (.ireturn, 1) := by decide +kernel
theorem d_M_today_0 : decode b_M_today 0 = .ok (.iload_n 1, 1) := by decide +kernel
theorem d_M_today_1 : decode b_M_today 1 = .ok (.i2l, 1) := by decide +kernel
theorem d_M_today_2 : decode b_M_today 2 = .ok (.aload_n 0, 1) := by decide +kernel
theorem d_M_today_3 : decode b_M_today 3 = .ok (.getfield 88, 3) := by decide +kernel
theorem d_M_today_6 : decode b_M_today 6 = .ok (.i2l, 1) := by decide +kernel
theorem d_M_today_7 : decode b_M_today 7 = .ok (.ldc2_w 104, 3) := by decide +kernel
theorem d_M_today_10 : decode b_M_today 10 = .ok (.invokestatic 84, 3) := by decide +kernel
theorem d_M_today_13 : decode b_M_today 13 = .ok (.ifCond .ne 5, 3) := by decide +kernel
theorem d_M_today_16 : decode b_M_today 16 = .ok (.iconst 0, 1) := by decide +kernel
theorem d_M_today_17 : decode b_M_today 17 = .ok (.ireturn, 1) := by decide +kernel
theorem d_M_today_18 : decode b_M_today 18 = .ok (.aload_n 0, 1) := by decide +kernel
theorem d_M_today_19 : decode b_M_today 19 = .ok (.iload_n 1, 1) := by decide +kernel
theorem d_M_today_20 : decode b_M_today 20 = .ok (.putfield 88, 3) := by decide +kernel
theorem d_M_today_23 : decode b_M_today 23 = .ok (.iconst 1, 1) := by decide +kernel
theorem d_M_today_24 : decode b_M_today 24 = .ok (.ireturn, 1) := by decide +kernel
theorem d_M_left_0 : decode b_M_left 0 = .ok (.aload_n 0, 1) := by decide +kernel
theorem d_M_left_1 : decode b_M_left 1 = .ok (.iload_n 1, 1) := by decide +kernel
theorem d_M_left_2 : decode b_M_left 2 = .ok (.invokevirtual 95, 3) := by decide +kernel
theorem d_M_left_5 : decode b_M_left 5 = .ok (.ifCond .eq 23, 3) := by decide +kernel
theorem d_M_left_8 : decode b_M_left 8 = .ok (.iload_n 2, 1) := by decide +kernel
theorem d_M_left_9 : decode b_M_left 9 = .ok (.invokestatic 99, 3) := by decide +kernel
theorem d_M_left_12 : decode b_M_left 12 = .ok (.ifCond .eq 16, 3) := by decide +kernel
theorem d_M_left_15 : decode b_M_left 15 = .ok (.aload_n 0, 1) := by decide +kernel
theorem d_M_left_16 : decode b_M_left 16 = .ok (.getfield 30, 3) := by decide +kernel
theorem d_M_left_19 : decode b_M_left 19 = .ok (.iconst 4, 1) := by decide +kernel
theorem d_M_left_20 : decode b_M_left 20 = .ok (.iload_n 1, 1) := by decide +kernel
theorem d_M_left_21 : decode b_M_left 21 = .ok (.imul, 1) := by decide +kernel
theorem d_M_left_22 : decode b_M_left 22 = .ok (.iload_n 2, 1) := by decide +kernel
theorem d_M_left_23 : decode b_M_left 23 = .ok (.iadd, 1) := by decide +kernel
theorem d_M_left_24 : decode b_M_left 24 = .ok (.laload, 1) := by decide +kernel
theorem d_M_left_25 : decode b_M_left 25 = .ok (.goto 6, 3) := by decide +kernel
theorem d_M_left_28 : decode b_M_left 28 = .ok (.ldc2_w 106, 3) := by decide +kernel
theorem d_M_left_31 : decode b_M_left 31 = .ok (.lreturn, 1) := by decide +kernel
theorem d_M_grams_0 : decode b_M_grams 0 = .ok (.aload_n 0, 1) := by decide +kernel
theorem d_M_grams_1 : decode b_M_grams 1 = .ok (.iload_n 1, 1) := by decide +kernel
theorem d_M_grams_2 : decode b_M_grams 2 = .ok (.invokevirtual 95, 3) := by decide +kernel
theorem d_M_grams_5 : decode b_M_grams 5 = .ok (.ifCond .eq 12, 3) := by decide +kernel
theorem d_M_grams_8 : decode b_M_grams 8 = .ok (.aload_n 0, 1) := by decide +kernel
theorem d_M_grams_9 : decode b_M_grams 9 = .ok (.getfield 7, 3) := by decide +kernel
theorem d_M_grams_12 : decode b_M_grams 12 = .ok (.iload_n 1, 1) := by decide +kernel
theorem d_M_grams_13 : decode b_M_grams 13 = .ok (.laload, 1) := by decide +kernel
theorem d_M_grams_14 : decode b_M_grams 14 = .ok (.goto 6, 3) := by decide +kernel
theorem d_M_grams_17 : decode b_M_grams 17 = .ok (.ldc2_w 106, 3) := by decide +kernel
theorem d_M_grams_20 : decode b_M_grams 20 = .ok (.lreturn, 1) := by decide +kernel
theorem d_M_stage_0 : decode b_M_stage 0 = .ok (.aload_n 0, 1) := by decide +kernel
theorem d_M_stage_1 : decode b_M_stage 1 = .ok (.getfield 79, 3) := by decide +kernel
theorem d_M_stage_4 : decode b_M_stage 4 = .ok (.bipush 6, 2) := by decide +kernel
theorem d_M_stage_6 : decode b_M_stage 6 = .ok (.if_icmp .eq 34, 3) := by decide +kernel
theorem d_M_stage_9 : decode b_M_stage 9 = .ok (.iload_n 1, 1) := by decide +kernel
theorem d_M_stage_10 : decode b_M_stage 10 = .ok (.invokestatic 99, 3) := by decide +kernel
theorem d_M_stage_13 : decode b_M_stage 13 = .ok (.ifCond .eq 27, 3) := by decide +kernel
theorem d_M_stage_16 : decode b_M_stage 16 = .ok (.iload_n 2, 1) := by decide +kernel
theorem d_M_stage_17 : decode b_M_stage 17 = .ok (.i2l, 1) := by decide +kernel
theorem d_M_stage_18 : decode b_M_stage 18 = .ok (.lconst 0, 1) := by decide +kernel
theorem d_M_stage_19 : decode b_M_stage 19 = .ok (.ldc2_w 108, 3) := by decide +kernel
theorem d_M_stage_22 : decode b_M_stage 22 = .ok (.invokestatic 84, 3) := by decide +kernel
theorem d_M_stage_25 : decode b_M_stage 25 = .ok (.ifCond .eq 15, 3) := by decide +kernel
theorem d_M_stage_28 : decode b_M_stage 28 = .ok (.iload_n 3, 1) := by decide +kernel
theorem d_M_stage_29 : decode b_M_stage 29 = .ok (.i2l, 1) := by decide +kernel
theorem d_M_stage_30 : decode b_M_stage 30 = .ok (.lconst 0, 1) := by decide +kernel
theorem d_M_stage_31 : decode b_M_stage 31 = .ok (.ldc2_w 108, 3) := by decide +kernel
theorem d_M_stage_34 : decode b_M_stage 34 = .ok (.invokestatic 84, 3) := by decide +kernel
theorem d_M_stage_37 : decode b_M_stage 37 = .ok (.ifCond .ne 5, 3) := by decide +kernel
theorem d_M_stage_40 : decode b_M_stage 40 = .ok (.iconst (-1), 1) := by decide +kernel
theorem d_M_stage_41 : decode b_M_stage 41 = .ok (.ireturn, 1) := by decide +kernel
theorem d_M_stage_42 : decode b_M_stage 42 = .ok (.aload_n 0, 1) := by decide +kernel
theorem d_M_stage_43 : decode b_M_stage 43 = .ok (.getfield 36, 3) := by decide +kernel
theorem d_M_stage_46 : decode b_M_stage 46 = .ok (.aload_n 0, 1) := by decide +kernel
theorem d_M_stage_47 : decode b_M_stage 47 = .ok (.getfield 79, 3) := by decide +kernel
theorem d_M_stage_50 : decode b_M_stage 50 = .ok (.iload_n 1, 1) := by decide +kernel
theorem d_M_stage_51 : decode b_M_stage 51 = .ok (.iastore, 1) := by decide +kernel
theorem d_M_stage_52 : decode b_M_stage 52 = .ok (.aload_n 0, 1) := by decide +kernel
theorem d_M_stage_53 : decode b_M_stage 53 = .ok (.getfield 39, 3) := by decide +kernel
theorem d_M_stage_56 : decode b_M_stage 56 = .ok (.aload_n 0, 1) := by decide +kernel
theorem d_M_stage_57 : decode b_M_stage 57 = .ok (.getfield 79, 3) := by decide +kernel
theorem d_M_stage_60 : decode b_M_stage 60 = .ok (.iload_n 2, 1) := by decide +kernel
theorem d_M_stage_61 : decode b_M_stage 61 = .ok (.iastore, 1) := by decide +kernel
theorem d_M_stage_62 : decode b_M_stage 62 = .ok (.aload_n 0, 1) := by decide +kernel
theorem d_M_stage_63 : decode b_M_stage 63 = .ok (.getfield 42, 3) := by decide +kernel
theorem d_M_stage_66 : decode b_M_stage 66 = .ok (.aload_n 0, 1) := by decide +kernel
theorem d_M_stage_67 : decode b_M_stage 67 = .ok (.getfield 79, 3) := by decide +kernel
theorem d_M_stage_70 : decode b_M_stage 70 = .ok (.iload_n 3, 1) := by decide +kernel
theorem d_M_stage_71 : decode b_M_stage 71 = .ok (.iastore, 1) := by decide +kernel
theorem d_M_stage_72 : decode b_M_stage 72 = .ok (.aload_n 0, 1) := by decide +kernel
theorem d_M_stage_73 : decode b_M_stage 73 = .ok (.dup, 1) := by decide +kernel
theorem d_M_stage_74 : decode b_M_stage 74 = .ok (.getfield 79, 3) := by decide +kernel
theorem d_M_stage_77 : decode b_M_stage 77 = .ok (.iconst 1, 1) := by decide +kernel
theorem d_M_stage_78 : decode b_M_stage 78 = .ok (.iadd, 1) := by decide +kernel
theorem d_M_stage_79 : decode b_M_stage 79 = .ok (.putfield 79, 3) := by decide +kernel
theorem d_M_stage_82 : decode b_M_stage 82 = .ok (.aload_n 0, 1) := by decide +kernel
theorem d_M_stage_83 : decode b_M_stage 83 = .ok (.getfield 79, 3) := by decide +kernel
theorem d_M_stage_86 : decode b_M_stage 86 = .ok (.iconst 1, 1) := by decide +kernel
theorem d_M_stage_87 : decode b_M_stage 87 = .ok (.isub, 1) := by decide +kernel
theorem d_M_stage_88 : decode b_M_stage 88 = .ok (.ireturn, 1) := by decide +kernel
theorem d_M_run_0 : decode b_M_run 0 = .ok (.aload_n 0, 1) := by decide +kernel
theorem d_M_run_1 : decode b_M_run 1 = .ok (.iload_n 1, 1) := by decide +kernel
theorem d_M_run_2 : decode b_M_run 2 = .ok (.invokevirtual 95, 3) := by decide +kernel
theorem d_M_run_5 : decode b_M_run 5 = .ok (.ifCond .eq 21, 3) := by decide +kernel
theorem d_M_run_8 : decode b_M_run 8 = .ok (.aload_n 0, 1) := by decide +kernel
theorem d_M_run_9 : decode b_M_run 9 = .ok (.getfield 17, 3) := by decide +kernel
theorem d_M_run_12 : decode b_M_run 12 = .ok (.iload_n 1, 1) := by decide +kernel
theorem d_M_run_13 : decode b_M_run 13 = .ok (.baload, 1) := by decide +kernel
theorem d_M_run_14 : decode b_M_run 14 = .ok (.ifCond .ne 12, 3) := by decide +kernel
theorem d_M_run_17 : decode b_M_run 17 = .ok (.aload_n 0, 1) := by decide +kernel
theorem d_M_run_18 : decode b_M_run 18 = .ok (.getfield 24, 3) := by decide +kernel
theorem d_M_run_21 : decode b_M_run 21 = .ok (.iload_n 1, 1) := by decide +kernel
theorem d_M_run_22 : decode b_M_run 22 = .ok (.baload, 1) := by decide +kernel
theorem d_M_run_23 : decode b_M_run 23 = .ok (.ifCond .eq 5, 3) := by decide +kernel
theorem d_M_run_26 : decode b_M_run 26 = .ok (.iconst (-1), 1) := by decide +kernel
theorem d_M_run_27 : decode b_M_run 27 = .ok (.ireturn, 1) := by decide +kernel
theorem d_M_run_28 : decode b_M_run 28 = .ok (.iconst 0, 1) := by decide +kernel
theorem d_M_run_29 : decode b_M_run 29 = .ok (.istore_n 2, 1) := by decide +kernel
theorem d_M_run_30 : decode b_M_run 30 = .ok (.iload_n 2, 1) := by decide +kernel
theorem d_M_run_31 : decode b_M_run 31 = .ok (.aload_n 0, 1) := by decide +kernel
theorem d_M_run_32 : decode b_M_run 32 = .ok (.getfield 79, 3) := by decide +kernel
theorem d_M_run_35 : decode b_M_run 35 = .ok (.if_icmp .ge 168, 3) := by decide +kernel
theorem d_M_run_38 : decode b_M_run 38 = .ok (.lconst 0, 1) := by decide +kernel
theorem d_M_run_39 : decode b_M_run 39 = .ok (.lstore_n 3, 1) := by decide +kernel
theorem d_M_run_40 : decode b_M_run 40 = .ok (.iconst 0, 1) := by decide +kernel
theorem d_M_run_41 : decode b_M_run 41 = .ok (.istore 5, 2) := by decide +kernel
theorem d_M_run_43 : decode b_M_run 43 = .ok (.iload 5, 2) := by decide +kernel
theorem d_M_run_45 : decode b_M_run 45 = .ok (.iconst 4, 1) := by decide +kernel
theorem d_M_run_46 : decode b_M_run 46 = .ok (.if_icmp .ge 113, 3) := by decide +kernel
theorem d_M_run_49 : decode b_M_run 49 = .ok (.iload 5, 2) := by decide +kernel
theorem d_M_run_51 : decode b_M_run 51 = .ok (.aload_n 0, 1) := by decide +kernel
theorem d_M_run_52 : decode b_M_run 52 = .ok (.getfield 36, 3) := by decide +kernel
theorem d_M_run_55 : decode b_M_run 55 = .ok (.iload_n 2, 1) := by decide +kernel
theorem d_M_run_56 : decode b_M_run 56 = .ok (.iaload, 1) := by decide +kernel
theorem d_M_run_57 : decode b_M_run 57 = .ok (.if_icmp .ne 12, 3) := by decide +kernel
theorem d_M_run_60 : decode b_M_run 60 = .ok (.aload_n 0, 1) := by decide +kernel
theorem d_M_run_61 : decode b_M_run 61 = .ok (.getfield 39, 3) := by decide +kernel
theorem d_M_run_64 : decode b_M_run 64 = .ok (.iload_n 2, 1) := by decide +kernel
theorem d_M_run_65 : decode b_M_run 65 = .ok (.iaload, 1) := by decide +kernel
theorem d_M_run_66 : decode b_M_run 66 = .ok (.goto 9, 3) := by decide +kernel
theorem d_M_run_69 : decode b_M_run 69 = .ok (.aload_n 0, 1) := by decide +kernel
theorem d_M_run_70 : decode b_M_run 70 = .ok (.getfield 42, 3) := by decide +kernel
theorem d_M_run_73 : decode b_M_run 73 = .ok (.iload_n 2, 1) := by decide +kernel
theorem d_M_run_74 : decode b_M_run 74 = .ok (.iaload, 1) := by decide +kernel
theorem d_M_run_75 : decode b_M_run 75 = .ok (.istore 6, 2) := by decide +kernel
theorem d_M_run_77 : decode b_M_run 77 = .ok (.aload_n 0, 1) := by decide +kernel
theorem d_M_run_78 : decode b_M_run 78 = .ok (.getfield 30, 3) := by decide +kernel
theorem d_M_run_81 : decode b_M_run 81 = .ok (.iconst 4, 1) := by decide +kernel
theorem d_M_run_82 : decode b_M_run 82 = .ok (.iload_n 1, 1) := by decide +kernel
theorem d_M_run_83 : decode b_M_run 83 = .ok (.imul, 1) := by decide +kernel
theorem d_M_run_84 : decode b_M_run 84 = .ok (.iload 5, 2) := by decide +kernel
theorem d_M_run_86 : decode b_M_run 86 = .ok (.iadd, 1) := by decide +kernel
theorem d_M_run_87 : decode b_M_run 87 = .ok (.laload, 1) := by decide +kernel
theorem d_M_run_88 : decode b_M_run 88 = .ok (.iload 6, 2) := by decide +kernel
theorem d_M_run_90 : decode b_M_run 90 = .ok (.i2l, 1) := by decide +kernel
theorem d_M_run_91 : decode b_M_run 91 = .ok (.lmul, 1) := by decide +kernel
theorem d_M_run_92 : decode b_M_run 92 = .ok (.ldc2_w 108, 3) := by decide +kernel
theorem d_M_run_95 : decode b_M_run 95 = .ok (.ldiv, 1) := by decide +kernel
theorem d_M_run_96 : decode b_M_run 96 = .ok (.lstore 7, 2) := by decide +kernel
theorem d_M_run_98 : decode b_M_run 98 = .ok (.aload_n 0, 1) := by decide +kernel
theorem d_M_run_99 : decode b_M_run 99 = .ok (.getfield 30, 3) := by decide +kernel
theorem d_M_run_102 : decode b_M_run 102 = .ok (.iconst 4, 1) := by decide +kernel
theorem d_M_run_103 : decode b_M_run 103 = .ok (.iload_n 1, 1) := by decide +kernel
theorem d_M_run_104 : decode b_M_run 104 = .ok (.imul, 1) := by decide +kernel
theorem d_M_run_105 : decode b_M_run 105 = .ok (.iload 5, 2) := by decide +kernel
theorem d_M_run_107 : decode b_M_run 107 = .ok (.iadd, 1) := by decide +kernel
theorem d_M_run_108 : decode b_M_run 108 = .ok (.dup2, 1) := by decide +kernel
theorem d_M_run_109 : decode b_M_run 109 = .ok (.laload, 1) := by decide +kernel
theorem d_M_run_110 : decode b_M_run 110 = .ok (.lload 7, 2) := by decide +kernel
end
section
theorem d_M_run_112 : decode b_M_run 112 = .ok (.lsub, 1) := by decide +kernel
theorem d_M_run_113 : decode b_M_run 113 = .ok (.lastore, 1) := by decide +kernel
theorem d_M_run_114 : decode b_M_run 114 = .ok (.aload_n 0, 1) := by decide +kernel
theorem d_M_run_115 : decode b_M_run 115 = .ok (.getfield 33, 3) := by decide +kernel
theorem d_M_run_118 : decode b_M_run 118 = .ok (.bipush 24, 2) := by decide +kernel
theorem d_M_run_120 : decode b_M_run 120 = .ok (.iload_n 1, 1) := by decide +kernel
theorem d_M_run_121 : decode b_M_run 121 = .ok (.imul, 1) := by decide +kernel
theorem d_M_run_122 : decode b_M_run 122 = .ok (.iconst 4, 1) := by decide +kernel
theorem d_M_run_123 : decode b_M_run 123 = .ok (.iload_n 2, 1) := by decide +kernel
theorem d_M_run_124 : decode b_M_run 124 = .ok (.imul, 1) := by decide +kernel
theorem d_M_run_125 : decode b_M_run 125 = .ok (.iadd, 1) := by decide +kernel
theorem d_M_run_126 : decode b_M_run 126 = .ok (.iload 5, 2) := by decide +kernel
theorem d_M_run_128 : decode b_M_run 128 = .ok (.iadd, 1) := by decide +kernel
theorem d_M_run_129 : decode b_M_run 129 = .ok (.lload 7, 2) := by decide +kernel
theorem d_M_run_131 : decode b_M_run 131 = .ok (.lastore, 1) := by decide +kernel
theorem d_M_run_132 : decode b_M_run 132 = .ok (.aload_n 0, 1) := by decide +kernel
theorem d_M_run_133 : decode b_M_run 133 = .ok (.getfield 45, 3) := by decide +kernel
theorem d_M_run_136 : decode b_M_run 136 = .ok (.iconst 4, 1) := by decide +kernel
theorem d_M_run_137 : decode b_M_run 137 = .ok (.iload_n 2, 1) := by decide +kernel
theorem d_M_run_138 : decode b_M_run 138 = .ok (.imul, 1) := by decide +kernel
theorem d_M_run_139 : decode b_M_run 139 = .ok (.iload 5, 2) := by decide +kernel
theorem d_M_run_141 : decode b_M_run 141 = .ok (.iadd, 1) := by decide +kernel
theorem d_M_run_142 : decode b_M_run 142 = .ok (.dup2, 1) := by decide +kernel
theorem d_M_run_143 : decode b_M_run 143 = .ok (.laload, 1) := by decide +kernel
theorem d_M_run_144 : decode b_M_run 144 = .ok (.lload 7, 2) := by decide +kernel
theorem d_M_run_146 : decode b_M_run 146 = .ok (.ladd, 1) := by decide +kernel
theorem d_M_run_147 : decode b_M_run 147 = .ok (.lastore, 1) := by decide +kernel
theorem d_M_run_148 : decode b_M_run 148 = .ok (.lload_n 3, 1) := by decide +kernel
theorem d_M_run_149 : decode b_M_run 149 = .ok (.lload 7, 2) := by decide +kernel
theorem d_M_run_151 : decode b_M_run 151 = .ok (.ladd, 1) := by decide +kernel
theorem d_M_run_152 : decode b_M_run 152 = .ok (.lstore_n 3, 1) := by decide +kernel
theorem d_M_run_153 : decode b_M_run 153 = .ok (.iinc 5 1, 3) := by decide +kernel
theorem d_M_run_156 : decode b_M_run 156 = .ok (.goto (-113), 3) := by decide +kernel
theorem d_M_run_159 : decode b_M_run 159 = .ok (.lload_n 3, 1) := by decide +kernel
theorem d_M_run_160 : decode b_M_run 160 = .ok (.ldc2_w 102, 3) := by decide +kernel
theorem d_M_run_163 : decode b_M_run 163 = .ok (.ldiv, 1) := by decide +kernel
theorem d_M_run_164 : decode b_M_run 164 = .ok (.lstore 5, 2) := by decide +kernel
theorem d_M_run_166 : decode b_M_run 166 = .ok (.aload_n 0, 1) := by decide +kernel
theorem d_M_run_167 : decode b_M_run 167 = .ok (.getfield 7, 3) := by decide +kernel
theorem d_M_run_170 : decode b_M_run 170 = .ok (.iload_n 1, 1) := by decide +kernel
theorem d_M_run_171 : decode b_M_run 171 = .ok (.lload 5, 2) := by decide +kernel
theorem d_M_run_173 : decode b_M_run 173 = .ok (.aload_n 0, 1) := by decide +kernel
theorem d_M_run_174 : decode b_M_run 174 = .ok (.getfield 7, 3) := by decide +kernel
theorem d_M_run_177 : decode b_M_run 177 = .ok (.iload_n 1, 1) := by decide +kernel
theorem d_M_run_178 : decode b_M_run 178 = .ok (.laload, 1) := by decide +kernel
theorem d_M_run_179 : decode b_M_run 179 = .ok (.lcmp, 1) := by decide +kernel
theorem d_M_run_180 : decode b_M_run 180 = .ok (.ifCond .le 7, 3) := by decide +kernel
theorem d_M_run_183 : decode b_M_run 183 = .ok (.lconst 0, 1) := by decide +kernel
theorem d_M_run_184 : decode b_M_run 184 = .ok (.goto 12, 3) := by decide +kernel
theorem d_M_run_187 : decode b_M_run 187 = .ok (.aload_n 0, 1) := by decide +kernel
theorem d_M_run_188 : decode b_M_run 188 = .ok (.getfield 7, 3) := by decide +kernel
theorem d_M_run_191 : decode b_M_run 191 = .ok (.iload_n 1, 1) := by decide +kernel
theorem d_M_run_192 : decode b_M_run 192 = .ok (.laload, 1) := by decide +kernel
theorem d_M_run_193 : decode b_M_run 193 = .ok (.lload 5, 2) := by decide +kernel
theorem d_M_run_195 : decode b_M_run 195 = .ok (.lsub, 1) := by decide +kernel
theorem d_M_run_196 : decode b_M_run 196 = .ok (.lastore, 1) := by decide +kernel
theorem d_M_run_197 : decode b_M_run 197 = .ok (.iinc 2 1, 3) := by decide +kernel
theorem d_M_run_200 : decode b_M_run 200 = .ok (.goto (-170), 3) := by decide +kernel
theorem d_M_run_203 : decode b_M_run 203 = .ok (.aload_n 0, 1) := by decide +kernel
theorem d_M_run_204 : decode b_M_run 204 = .ok (.getfield 24, 3) := by decide +kernel
theorem d_M_run_207 : decode b_M_run 207 = .ok (.iload_n 1, 1) := by decide +kernel
theorem d_M_run_208 : decode b_M_run 208 = .ok (.iconst 1, 1) := by decide +kernel
theorem d_M_run_209 : decode b_M_run 209 = .ok (.bastore, 1) := by decide +kernel
theorem d_M_run_210 : decode b_M_run 210 = .ok (.aload_n 0, 1) := by decide +kernel
theorem d_M_run_211 : decode b_M_run 211 = .ok (.getfield 27, 3) := by decide +kernel
theorem d_M_run_214 : decode b_M_run 214 = .ok (.iload_n 1, 1) := by decide +kernel
theorem d_M_run_215 : decode b_M_run 215 = .ok (.aload_n 0, 1) := by decide +kernel
theorem d_M_run_216 : decode b_M_run 216 = .ok (.getfield 79, 3) := by decide +kernel
theorem d_M_run_219 : decode b_M_run 219 = .ok (.iastore, 1) := by decide +kernel
theorem d_M_run_220 : decode b_M_run 220 = .ok (.aload_n 0, 1) := by decide +kernel
theorem d_M_run_221 : decode b_M_run 221 = .ok (.getfield 79, 3) := by decide +kernel
theorem d_M_run_224 : decode b_M_run 224 = .ok (.ireturn, 1) := by decide +kernel
theorem d_M_taken_0 : decode b_M_taken 0 = .ok (.aload_n 0, 1) := by decide +kernel
theorem d_M_taken_1 : decode b_M_taken 1 = .ok (.iload_n 1, 1) := by decide +kernel
theorem d_M_taken_2 : decode b_M_taken 2 = .ok (.invokevirtual 95, 3) := by decide +kernel
theorem d_M_taken_5 : decode b_M_taken 5 = .ok (.ifCond .eq 42, 3) := by decide +kernel
theorem d_M_taken_8 : decode b_M_taken 8 = .ok (.iload_n 3, 1) := by decide +kernel
theorem d_M_taken_9 : decode b_M_taken 9 = .ok (.invokestatic 99, 3) := by decide +kernel
theorem d_M_taken_12 : decode b_M_taken 12 = .ok (.ifCond .eq 35, 3) := by decide +kernel
theorem d_M_taken_15 : decode b_M_taken 15 = .ok (.iload_n 2, 1) := by decide +kernel
theorem d_M_taken_16 : decode b_M_taken 16 = .ok (.ifCond .lt 31, 3) := by decide +kernel
theorem d_M_taken_19 : decode b_M_taken 19 = .ok (.iload_n 2, 1) := by decide +kernel
theorem d_M_taken_20 : decode b_M_taken 20 = .ok (.aload_n 0, 1) := by decide +kernel
theorem d_M_taken_21 : decode b_M_taken 21 = .ok (.getfield 27, 3) := by decide +kernel
theorem d_M_taken_24 : decode b_M_taken 24 = .ok (.iload_n 1, 1) := by decide +kernel
theorem d_M_taken_25 : decode b_M_taken 25 = .ok (.iaload, 1) := by decide +kernel
theorem d_M_taken_26 : decode b_M_taken 26 = .ok (.if_icmp .ge 21, 3) := by decide +kernel
theorem d_M_taken_29 : decode b_M_taken 29 = .ok (.aload_n 0, 1) := by decide +kernel
theorem d_M_taken_30 : decode b_M_taken 30 = .ok (.getfield 33, 3) := by decide +kernel
theorem d_M_taken_33 : decode b_M_taken 33 = .ok (.bipush 24, 2) := by decide +kernel
theorem d_M_taken_35 : decode b_M_taken 35 = .ok (.iload_n 1, 1) := by decide +kernel
theorem d_M_taken_36 : decode b_M_taken 36 = .ok (.imul, 1) := by decide +kernel
theorem d_M_taken_37 : decode b_M_taken 37 = .ok (.iconst 4, 1) := by decide +kernel
theorem d_M_taken_38 : decode b_M_taken 38 = .ok (.iload_n 2, 1) := by decide +kernel
theorem d_M_taken_39 : decode b_M_taken 39 = .ok (.imul, 1) := by decide +kernel
theorem d_M_taken_40 : decode b_M_taken 40 = .ok (.iadd, 1) := by decide +kernel
theorem d_M_taken_41 : decode b_M_taken 41 = .ok (.iload_n 3, 1) := by decide +kernel
theorem d_M_taken_42 : decode b_M_taken 42 = .ok (.iadd, 1) := by decide +kernel
theorem d_M_taken_43 : decode b_M_taken 43 = .ok (.laload, 1) := by decide +kernel
theorem d_M_taken_44 : decode b_M_taken 44 = .ok (.goto 6, 3) := by decide +kernel
theorem d_M_taken_47 : decode b_M_taken 47 = .ok (.ldc2_w 106, 3) := by decide +kernel
theorem d_M_taken_50 : decode b_M_taken 50 = .ok (.lreturn, 1) := by decide +kernel
theorem d_M_stock_0 : decode b_M_stock 0 = .ok (.aload_n 0, 1) := by decide +kernel
theorem d_M_stock_1 : decode b_M_stock 1 = .ok (.iload_n 1, 1) := by decide +kernel
theorem d_M_stock_2 : decode b_M_stock 2 = .ok (.invokevirtual 110, 3) := by decide +kernel
theorem d_M_stock_5 : decode b_M_stock 5 = .ok (.ifCond .eq 23, 3) := by decide +kernel
theorem d_M_stock_8 : decode b_M_stock 8 = .ok (.iload_n 2, 1) := by decide +kernel
theorem d_M_stock_9 : decode b_M_stock 9 = .ok (.invokestatic 99, 3) := by decide +kernel
theorem d_M_stock_12 : decode b_M_stock 12 = .ok (.ifCond .eq 16, 3) := by decide +kernel
theorem d_M_stock_15 : decode b_M_stock 15 = .ok (.aload_n 0, 1) := by decide +kernel
theorem d_M_stock_16 : decode b_M_stock 16 = .ok (.getfield 45, 3) := by decide +kernel
theorem d_M_stock_19 : decode b_M_stock 19 = .ok (.iconst 4, 1) := by decide +kernel
theorem d_M_stock_20 : decode b_M_stock 20 = .ok (.iload_n 1, 1) := by decide +kernel
theorem d_M_stock_21 : decode b_M_stock 21 = .ok (.imul, 1) := by decide +kernel
theorem d_M_stock_22 : decode b_M_stock 22 = .ok (.iload_n 2, 1) := by decide +kernel
theorem d_M_stock_23 : decode b_M_stock 23 = .ok (.iadd, 1) := by decide +kernel
theorem d_M_stock_24 : decode b_M_stock 24 = .ok (.laload, 1) := by decide +kernel
theorem d_M_stock_25 : decode b_M_stock 25 = .ok (.goto 6, 3) := by decide +kernel
theorem d_M_stock_28 : decode b_M_stock 28 = .ok (.ldc2_w 106, 3) := by decide +kernel
theorem d_M_stock_31 : decode b_M_stock 31 = .ok (.lreturn, 1) := by decide +kernel
theorem d_M_price_0 : decode b_M_price 0 = .ok (.iload_n 1, 1) := by decide +kernel
theorem d_M_price_1 : decode b_M_price 1 = .ok (.invokestatic 99, 3) := by decide +kernel
theorem d_M_price_4 : decode b_M_price 4 = .ok (.ifCond .eq 37, 3) := by decide +kernel
theorem d_M_price_7 : decode b_M_price 7 = .ok (.aload_n 0, 1) := by decide +kernel
theorem d_M_price_8 : decode b_M_price 8 = .ok (.getfield 48, 3) := by decide +kernel
theorem d_M_price_11 : decode b_M_price 11 = .ok (.iload_n 1, 1) := by decide +kernel
theorem d_M_price_12 : decode b_M_price 12 = .ok (.iaload, 1) := by decide +kernel
theorem d_M_price_13 : decode b_M_price 13 = .ok (.bipush 6, 2) := by decide +kernel
theorem d_M_price_15 : decode b_M_price 15 = .ok (.if_icmp .eq 26, 3) := by decide +kernel
theorem d_M_price_18 : decode b_M_price 18 = .ok (.iload_n 2, 1) := by decide +kernel
theorem d_M_price_19 : decode b_M_price 19 = .ok (.i2l, 1) := by decide +kernel
theorem d_M_price_20 : decode b_M_price 20 = .ok (.lconst 0, 1) := by decide +kernel
theorem d_M_price_21 : decode b_M_price 21 = .ok (.ldc2_w 104, 3) := by decide +kernel
theorem d_M_price_24 : decode b_M_price 24 = .ok (.invokestatic 84, 3) := by decide +kernel
theorem d_M_price_27 : decode b_M_price 27 = .ok (.ifCond .eq 14, 3) := by decide +kernel
theorem d_M_price_30 : decode b_M_price 30 = .ok (.lload_n 3, 1) := by decide +kernel
theorem d_M_price_31 : decode b_M_price 31 = .ok (.lconst 0, 1) := by decide +kernel
theorem d_M_price_32 : decode b_M_price 32 = .ok (.ldc2_w 102, 3) := by decide +kernel
theorem d_M_price_35 : decode b_M_price 35 = .ok (.invokestatic 84, 3) := by decide +kernel
theorem d_M_price_38 : decode b_M_price 38 = .ok (.ifCond .ne 5, 3) := by decide +kernel
theorem d_M_price_41 : decode b_M_price 41 = .ok (.iconst 0, 1) := by decide +kernel
theorem d_M_price_42 : decode b_M_price 42 = .ok (.ireturn, 1) := by decide +kernel
theorem d_M_price_43 : decode b_M_price 43 = .ok (.bipush 6, 2) := by decide +kernel
theorem d_M_price_45 : decode b_M_price 45 = .ok (.iload_n 1, 1) := by decide +kernel
theorem d_M_price_46 : decode b_M_price 46 = .ok (.imul, 1) := by decide +kernel
theorem d_M_price_47 : decode b_M_price 47 = .ok (.aload_n 0, 1) := by decide +kernel
theorem d_M_price_48 : decode b_M_price 48 = .ok (.getfield 48, 3) := by decide +kernel
theorem d_M_price_51 : decode b_M_price 51 = .ok (.iload_n 1, 1) := by decide +kernel
theorem d_M_price_52 : decode b_M_price 52 = .ok (.iaload, 1) := by decide +kernel
theorem d_M_price_53 : decode b_M_price 53 = .ok (.iadd, 1) := by decide +kernel
theorem d_M_price_54 : decode b_M_price 54 = .ok (.istore 5, 2) := by decide +kernel
theorem d_M_price_56 : decode b_M_price 56 = .ok (.aload_n 0, 1) := by decide +kernel
theorem d_M_price_57 : decode b_M_price 57 = .ok (.getfield 48, 3) := by decide +kernel
theorem d_M_price_60 : decode b_M_price 60 = .ok (.iload_n 1, 1) := by decide +kernel
theorem d_M_price_61 : decode b_M_price 61 = .ok (.iaload, 1) := by decide +kernel
theorem d_M_price_62 : decode b_M_price 62 = .ok (.ifCond .le 18, 3) := by decide +kernel
theorem d_M_price_65 : decode b_M_price 65 = .ok (.iload_n 2, 1) := by decide +kernel
theorem d_M_price_66 : decode b_M_price 66 = .ok (.aload_n 0, 1) := by decide +kernel
theorem d_M_price_67 : decode b_M_price 67 = .ok (.getfield 51, 3) := by decide +kernel
theorem d_M_price_70 : decode b_M_price 70 = .ok (.iload 5, 2) := by decide +kernel
theorem d_M_price_72 : decode b_M_price 72 = .ok (.iconst 1, 1) := by decide +kernel
theorem d_M_price_73 : decode b_M_price 73 = .ok (.isub, 1) := by decide +kernel
theorem d_M_price_74 : decode b_M_price 74 = .ok (.iaload, 1) := by decide +kernel
theorem d_M_price_75 : decode b_M_price 75 = .ok (.if_icmp .gt 5, 3) := by decide +kernel
theorem d_M_price_78 : decode b_M_price 78 = .ok (.iconst 0, 1) := by decide +kernel
theorem d_M_price_79 : decode b_M_price 79 = .ok (.ireturn, 1) := by decide +kernel
theorem d_M_price_80 : decode b_M_price 80 = .ok (.aload_n 0, 1) := by decide +kernel
theorem d_M_price_81 : decode b_M_price 81 = .ok (.getfield 51, 3) := by decide +kernel
theorem d_M_price_84 : decode b_M_price 84 = .ok (.iload 5, 2) := by decide +kernel
theorem d_M_price_86 : decode b_M_price 86 = .ok (.iload_n 2, 1) := by decide +kernel
theorem d_M_price_87 : decode b_M_price 87 = .ok (.iastore, 1) := by decide +kernel
theorem d_M_price_88 : decode b_M_price 88 = .ok (.aload_n 0, 1) := by decide +kernel
theorem d_M_price_89 : decode b_M_price 89 = .ok (.getfield 54, 3) := by decide +kernel
theorem d_M_price_92 : decode b_M_price 92 = .ok (.iload 5, 2) := by decide +kernel
theorem d_M_price_94 : decode b_M_price 94 = .ok (.lload_n 3, 1) := by decide +kernel
theorem d_M_price_95 : decode b_M_price 95 = .ok (.lastore, 1) := by decide +kernel
theorem d_M_price_96 : decode b_M_price 96 = .ok (.aload_n 0, 1) := by decide +kernel
theorem d_M_price_97 : decode b_M_price 97 = .ok (.getfield 48, 3) := by decide +kernel
theorem d_M_price_100 : decode b_M_price 100 = .ok (.iload_n 1, 1) := by decide +kernel
theorem d_M_price_101 : decode b_M_price 101 = .ok (.dup2, 1) := by decide +kernel
theorem d_M_price_102 : decode b_M_price 102 = .ok (.iaload, 1) := by decide +kernel
theorem d_M_price_103 : decode b_M_price 103 = .ok (.iconst 1, 1) := by decide +kernel
theorem d_M_price_104 : decode b_M_price 104 = .ok (.iadd, 1) := by decide +kernel
theorem d_M_price_105 : decode b_M_price 105 = .ok (.iastore, 1) := by decide +kernel
theorem d_M_price_106 : decode b_M_price 106 = .ok (.iconst 1, 1) := by decide +kernel
theorem d_M_price_107 : decode b_M_price 107 = .ok (.ireturn, 1) := by decide +kernel
theorem d_M_priceOn_0 : decode b_M_priceOn 0 = .ok (.lconst 0, 1) := by decide +kernel
theorem d_M_priceOn_1 : decode b_M_priceOn 1 = .ok (.lstore_n 3, 1) := by decide +kernel
theorem d_M_priceOn_2 : decode b_M_priceOn 2 = .ok (.iconst 0, 1) := by decide +kernel
theorem d_M_priceOn_3 : decode b_M_priceOn 3 = .ok (.istore 5, 2) := by decide +kernel
theorem d_M_priceOn_5 : decode b_M_priceOn 5 = .ok (.iload 5, 2) := by decide +kernel
theorem d_M_priceOn_7 : decode b_M_priceOn 7 = .ok (.aload_n 0, 1) := by decide +kernel
theorem d_M_priceOn_8 : decode b_M_priceOn 8 = .ok (.getfield 48, 3) := by decide +kernel
theorem d_M_priceOn_11 : decode b_M_priceOn 11 = .ok (.iload_n 1, 1) := by decide +kernel
theorem d_M_priceOn_12 : decode b_M_priceOn 12 = .ok (.iaload, 1) := by decide +kernel
theorem d_M_priceOn_13 : decode b_M_priceOn 13 = .ok (.if_icmp .ge 42, 3) := by decide +kernel
theorem d_M_priceOn_16 : decode b_M_priceOn 16 = .ok (.aload_n 0, 1) := by decide +kernel
theorem d_M_priceOn_17 : decode b_M_priceOn 17 = .ok (.getfield 51, 3) := by decide +kernel
theorem d_M_priceOn_20 : decode b_M_priceOn 20 = .ok (.bipush 6, 2) := by decide +kernel
theorem d_M_priceOn_22 : decode b_M_priceOn 22 = .ok (.iload_n 1, 1) := by decide +kernel
theorem d_M_priceOn_23 : decode b_M_priceOn 23 = .ok (.imul, 1) := by decide +kernel
theorem d_M_priceOn_24 : decode b_M_priceOn 24 = .ok (.iload 5, 2) := by decide +kernel
theorem d_M_priceOn_26 : decode b_M_priceOn 26 = .ok (.iadd, 1) := by decide +kernel
theorem d_M_priceOn_27 : decode b_M_priceOn 27 = .ok (.iaload, 1) := by decide +kernel
theorem d_M_priceOn_28 : decode b_M_priceOn 28 = .ok (.iload_n 2, 1) := by decide +kernel
theorem d_M_priceOn_29 : decode b_M_priceOn 29 = .ok (.if_icmp .gt 18, 3) := by decide +kernel
theorem d_M_priceOn_32 : decode b_M_priceOn 32 = .ok (.aload_n 0, 1) := by decide +kernel
theorem d_M_priceOn_33 : decode b_M_priceOn 33 = .ok (.getfield 54, 3) := by decide +kernel
theorem d_M_priceOn_36 : decode b_M_priceOn 36 = .ok (.bipush 6, 2) := by decide +kernel
theorem d_M_priceOn_38 : decode b_M_priceOn 38 = .ok (.iload_n 1, 1) := by decide +kernel
theorem d_M_priceOn_39 : decode b_M_priceOn 39 = .ok (.imul, 1) := by decide +kernel
theorem d_M_priceOn_40 : decode b_M_priceOn 40 = .ok (.iload 5, 2) := by decide +kernel
theorem d_M_priceOn_42 : decode b_M_priceOn 42 = .ok (.iadd, 1) := by decide +kernel
theorem d_M_priceOn_43 : decode b_M_priceOn 43 = .ok (.laload, 1) := by decide +kernel
theorem d_M_priceOn_44 : decode b_M_priceOn 44 = .ok (.goto 4, 3) := by decide +kernel
theorem d_M_priceOn_47 : decode b_M_priceOn 47 = .ok (.lload_n 3, 1) := by decide +kernel
theorem d_M_priceOn_48 : decode b_M_priceOn 48 = .ok (.lstore_n 3, 1) := by decide +kernel
theorem d_M_priceOn_49 : decode b_M_priceOn 49 = .ok (.iinc 5 1, 3) := by decide +kernel
theorem d_M_priceOn_52 : decode b_M_priceOn 52 = .ok (.goto (-47), 3) := by decide +kernel
theorem d_M_priceOn_55 : decode b_M_priceOn 55 = .ok (.lload_n 3, 1) := by decide +kernel
theorem d_M_priceOn_56 : decode b_M_priceOn 56 = .ok (.lreturn, 1) := by decide +kernel
theorem d_M_worthOf_0 : decode b_M_worthOf 0 = .ok (.lconst 0, 1) := by decide +kernel
theorem d_M_worthOf_1 : decode b_M_worthOf 1 = .ok (.lstore 4, 2) := by decide +kernel
theorem d_M_worthOf_3 : decode b_M_worthOf 3 = .ok (.lconst 0, 1) := by decide +kernel
theorem d_M_worthOf_4 : decode b_M_worthOf 4 = .ok (.lstore 6, 2) := by decide +kernel
theorem d_M_worthOf_6 : decode b_M_worthOf 6 = .ok (.iconst 0, 1) := by decide +kernel
theorem d_M_worthOf_7 : decode b_M_worthOf 7 = .ok (.istore 8, 2) := by decide +kernel
theorem d_M_worthOf_9 : decode b_M_worthOf 9 = .ok (.iload 8, 2) := by decide +kernel
theorem d_M_worthOf_11 : decode b_M_worthOf 11 = .ok (.iconst 4, 1) := by decide +kernel
theorem d_M_worthOf_12 : decode b_M_worthOf 12 = .ok (.if_icmp .ge 55, 3) := by decide +kernel
theorem d_M_worthOf_15 : decode b_M_worthOf 15 = .ok (.lload 4, 2) := by decide +kernel
theorem d_M_worthOf_17 : decode b_M_worthOf 17 = .ok (.aload_n 1, 1) := by decide +kernel
theorem d_M_worthOf_18 : decode b_M_worthOf 18 = .ok (.iload_n 2, 1) := by decide +kernel
theorem d_M_worthOf_19 : decode b_M_worthOf 19 = .ok (.iload 8, 2) := by decide +kernel
theorem d_M_worthOf_21 : decode b_M_worthOf 21 = .ok (.iadd, 1) := by decide +kernel
theorem d_M_worthOf_22 : decode b_M_worthOf 22 = .ok (.laload, 1) := by decide +kernel
theorem d_M_worthOf_23 : decode b_M_worthOf 23 = .ok (.ldc2_w 102, 3) := by decide +kernel
theorem d_M_worthOf_26 : decode b_M_worthOf 26 = .ok (.ldiv, 1) := by decide +kernel
theorem d_M_worthOf_27 : decode b_M_worthOf 27 = .ok (.aload_n 0, 1) := by decide +kernel
theorem d_M_worthOf_28 : decode b_M_worthOf 28 = .ok (.iload 8, 2) := by decide +kernel
theorem d_M_worthOf_30 : decode b_M_worthOf 30 = .ok (.iload_n 3, 1) := by decide +kernel
theorem d_M_worthOf_31 : decode b_M_worthOf 31 = .ok (.invokevirtual 113, 3) := by decide +kernel
theorem d_M_worthOf_34 : decode b_M_worthOf 34 = .ok (.lmul, 1) := by decide +kernel
theorem d_M_worthOf_35 : decode b_M_worthOf 35 = .ok (.ladd, 1) := by decide +kernel
theorem d_M_worthOf_36 : decode b_M_worthOf 36 = .ok (.lstore 4, 2) := by decide +kernel
theorem d_M_worthOf_38 : decode b_M_worthOf 38 = .ok (.lload 6, 2) := by decide +kernel
theorem d_M_worthOf_40 : decode b_M_worthOf 40 = .ok (.aload_n 1, 1) := by decide +kernel
theorem d_M_worthOf_41 : decode b_M_worthOf 41 = .ok (.iload_n 2, 1) := by decide +kernel
theorem d_M_worthOf_42 : decode b_M_worthOf 42 = .ok (.iload 8, 2) := by decide +kernel
theorem d_M_worthOf_44 : decode b_M_worthOf 44 = .ok (.iadd, 1) := by decide +kernel
theorem d_M_worthOf_45 : decode b_M_worthOf 45 = .ok (.laload, 1) := by decide +kernel
theorem d_M_worthOf_46 : decode b_M_worthOf 46 = .ok (.ldc2_w 102, 3) := by decide +kernel
theorem d_M_worthOf_49 : decode b_M_worthOf 49 = .ok (.lrem, 1) := by decide +kernel
theorem d_M_worthOf_50 : decode b_M_worthOf 50 = .ok (.aload_n 0, 1) := by decide +kernel
theorem d_M_worthOf_51 : decode b_M_worthOf 51 = .ok (.iload 8, 2) := by decide +kernel
theorem d_M_worthOf_53 : decode b_M_worthOf 53 = .ok (.iload_n 3, 1) := by decide +kernel
theorem d_M_worthOf_54 : decode b_M_worthOf 54 = .ok (.invokevirtual 113, 3) := by decide +kernel
theorem d_M_worthOf_57 : decode b_M_worthOf 57 = .ok (.lmul, 1) := by decide +kernel
theorem d_M_worthOf_58 : decode b_M_worthOf 58 = .ok (.ladd, 1) := by decide +kernel
theorem d_M_worthOf_59 : decode b_M_worthOf 59 = .ok (.lstore 6, 2) := by decide +kernel
theorem d_M_worthOf_61 : decode b_M_worthOf 61 = .ok (.iinc 8 1, 3) := by decide +kernel
theorem d_M_worthOf_64 : decode b_M_worthOf 64 = .ok (.goto (-55), 3) := by decide +kernel
theorem d_M_worthOf_67 : decode b_M_worthOf 67 = .ok (.lload 4, 2) := by decide +kernel
theorem d_M_worthOf_69 : decode b_M_worthOf 69 = .ok (.lload 6, 2) := by decide +kernel
theorem d_M_worthOf_71 : decode b_M_worthOf 71 = .ok (.ldc2_w 102, 3) := by decide +kernel
theorem d_M_worthOf_74 : decode b_M_worthOf 74 = .ok (.ldiv, 1) := by decide +kernel
theorem d_M_worthOf_75 : decode b_M_worthOf 75 = .ok (.ladd, 1) := by decide +kernel
theorem d_M_worthOf_76 : decode b_M_worthOf 76 = .ok (.lreturn, 1) := by decide +kernel
theorem d_M_worth_0 : decode b_M_worth 0 = .ok (.aload_n 0, 1) := by decide +kernel
theorem d_M_worth_1 : decode b_M_worth 1 = .ok (.iload_n 1, 1) := by decide +kernel
theorem d_M_worth_2 : decode b_M_worth 2 = .ok (.invokevirtual 95, 3) := by decide +kernel
theorem d_M_worth_5 : decode b_M_worth 5 = .ok (.ifCond .eq 22, 3) := by decide +kernel
theorem d_M_worth_8 : decode b_M_worth 8 = .ok (.iload_n 2, 1) := by decide +kernel
theorem d_M_worth_9 : decode b_M_worth 9 = .ok (.ifCond .lt 18, 3) := by decide +kernel
theorem d_M_worth_12 : decode b_M_worth 12 = .ok (.aload_n 0, 1) := by decide +kernel
theorem d_M_worth_13 : decode b_M_worth 13 = .ok (.aload_n 0, 1) := by decide +kernel
theorem d_M_worth_14 : decode b_M_worth 14 = .ok (.getfield 30, 3) := by decide +kernel
theorem d_M_worth_17 : decode b_M_worth 17 = .ok (.iconst 4, 1) := by decide +kernel
theorem d_M_worth_18 : decode b_M_worth 18 = .ok (.iload_n 1, 1) := by decide +kernel
theorem d_M_worth_19 : decode b_M_worth 19 = .ok (.imul, 1) := by decide +kernel
theorem d_M_worth_20 : decode b_M_worth 20 = .ok (.iload_n 2, 1) := by decide +kernel
theorem d_M_worth_21 : decode b_M_worth 21 = .ok (.invokevirtual 117, 3) := by decide +kernel
theorem d_M_worth_24 : decode b_M_worth 24 = .ok (.goto 6, 3) := by decide +kernel
theorem d_M_worth_27 : decode b_M_worth 27 = .ok (.ldc2_w 106, 3) := by decide +kernel
theorem d_M_worth_30 : decode b_M_worth 30 = .ok (.lreturn, 1) := by decide +kernel
theorem d_M_sell_0 : decode b_M_sell 0 = .ok (.aload_n 0, 1) := by decide +kernel
theorem d_M_sell_1 : decode b_M_sell 1 = .ok (.iload_n 1, 1) := by decide +kernel
theorem d_M_sell_2 : decode b_M_sell 2 = .ok (.invokevirtual 110, 3) := by decide +kernel
theorem d_M_sell_5 : decode b_M_sell 5 = .ok (.ifCond .ne 7, 3) := by decide +kernel
theorem d_M_sell_8 : decode b_M_sell 8 = .ok (.ldc2_w 106, 3) := by decide +kernel
theorem d_M_sell_11 : decode b_M_sell 11 = .ok (.lreturn, 1) := by decide +kernel
theorem d_M_sell_12 : decode b_M_sell 12 = .ok (.aload_n 0, 1) := by decide +kernel
theorem d_M_sell_13 : decode b_M_sell 13 = .ok (.aload_n 0, 1) := by decide +kernel
theorem d_M_sell_14 : decode b_M_sell 14 = .ok (.getfield 45, 3) := by decide +kernel
theorem d_M_sell_17 : decode b_M_sell 17 = .ok (.iconst 4, 1) := by decide +kernel
theorem d_M_sell_18 : decode b_M_sell 18 = .ok (.iload_n 1, 1) := by decide +kernel
theorem d_M_sell_19 : decode b_M_sell 19 = .ok (.imul, 1) := by decide +kernel
theorem d_M_sell_20 : decode b_M_sell 20 = .ok (.aload_n 0, 1) := by decide +kernel
theorem d_M_sell_21 : decode b_M_sell 21 = .ok (.getfield 88, 3) := by decide +kernel
theorem d_M_sell_24 : decode b_M_sell 24 = .ok (.invokevirtual 117, 3) := by decide +kernel
theorem d_M_sell_27 : decode b_M_sell 27 = .ok (.lstore_n 2, 1) := by decide +kernel
theorem d_M_sell_28 : decode b_M_sell 28 = .ok (.aload_n 0, 1) := by decide +kernel
theorem d_M_sell_29 : decode b_M_sell 29 = .ok (.dup, 1) := by decide +kernel
theorem d_M_sell_30 : decode b_M_sell 30 = .ok (.getfield 121, 3) := by decide +kernel
theorem d_M_sell_33 : decode b_M_sell 33 = .ok (.lload_n 2, 1) := by decide +kernel
theorem d_M_sell_34 : decode b_M_sell 34 = .ok (.ladd, 1) := by decide +kernel
theorem d_M_sell_35 : decode b_M_sell 35 = .ok (.putfield 121, 3) := by decide +kernel
theorem d_M_sell_38 : decode b_M_sell 38 = .ok (.iconst 0, 1) := by decide +kernel
theorem d_M_sell_39 : decode b_M_sell 39 = .ok (.istore 4, 2) := by decide +kernel
theorem d_M_sell_41 : decode b_M_sell 41 = .ok (.iload 4, 2) := by decide +kernel
theorem d_M_sell_43 : decode b_M_sell 43 = .ok (.iconst 4, 1) := by decide +kernel
theorem d_M_sell_44 : decode b_M_sell 44 = .ok (.if_icmp .ge 21, 3) := by decide +kernel
theorem d_M_sell_47 : decode b_M_sell 47 = .ok (.aload_n 0, 1) := by decide +kernel
theorem d_M_sell_48 : decode b_M_sell 48 = .ok (.getfield 45, 3) := by decide +kernel
theorem d_M_sell_51 : decode b_M_sell 51 = .ok (.iconst 4, 1) := by decide +kernel
theorem d_M_sell_52 : decode b_M_sell 52 = .ok (.iload_n 1, 1) := by decide +kernel
theorem d_M_sell_53 : decode b_M_sell 53 = .ok (.imul, 1) := by decide +kernel
theorem d_M_sell_54 : decode b_M_sell 54 = .ok (.iload 4, 2) := by decide +kernel
theorem d_M_sell_56 : decode b_M_sell 56 = .ok (.iadd, 1) := by decide +kernel
theorem d_M_sell_57 : decode b_M_sell 57 = .ok (.lconst 0, 1) := by decide +kernel
theorem d_M_sell_58 : decode b_M_sell 58 = .ok (.lastore, 1) := by decide +kernel
theorem d_M_sell_59 : decode b_M_sell 59 = .ok (.iinc 4 1, 3) := by decide +kernel
theorem d_M_sell_62 : decode b_M_sell 62 = .ok (.goto (-21), 3) := by decide +kernel
theorem d_M_sell_65 : decode b_M_sell 65 = .ok (.lload_n 2, 1) := by decide +kernel
theorem d_M_sell_66 : decode b_M_sell 66 = .ok (.lreturn, 1) := by decide +kernel
theorem d_M_money_0 : decode b_M_money 0 = .ok (.aload_n 0, 1) := by decide +kernel
theorem d_M_money_1 : decode b_M_money 1 = .ok (.getfield 121, 3) := by decide +kernel
theorem d_M_money_4 : decode b_M_money 4 = .ok (.lreturn, 1) := by decide +kernel
theorem d_M_assay_0 : decode b_M_assay 0 = .ok (.aload_n 0, 1) := by decide +kernel
theorem d_M_assay_1 : decode b_M_assay 1 = .ok (.iload_n 1, 1) := by decide +kernel
theorem d_M_assay_2 : decode b_M_assay 2 = .ok (.invokevirtual 95, 3) := by decide +kernel
theorem d_M_assay_5 : decode b_M_assay 5 = .ok (.ifCond .eq 44, 3) := by decide +kernel
theorem d_M_assay_8 : decode b_M_assay 8 = .ok (.iload_n 2, 1) := by decide +kernel
theorem d_M_assay_9 : decode b_M_assay 9 = .ok (.i2l, 1) := by decide +kernel
theorem d_M_assay_10 : decode b_M_assay 10 = .ok (.lconst 0, 1) := by decide +kernel
theorem d_M_assay_11 : decode b_M_assay 11 = .ok (.ldc2_w 125, 3) := by decide +kernel
theorem d_M_assay_14 : decode b_M_assay 14 = .ok (.invokestatic 84, 3) := by decide +kernel
theorem d_M_assay_17 : decode b_M_assay 17 = .ok (.ifCond .eq 32, 3) := by decide +kernel
theorem d_M_assay_20 : decode b_M_assay 20 = .ok (.iload_n 3, 1) := by decide +kernel
theorem d_M_assay_21 : decode b_M_assay 21 = .ok (.invokestatic 99, 3) := by decide +kernel
theorem d_M_assay_24 : decode b_M_assay 24 = .ok (.ifCond .eq 25, 3) := by decide +kernel
theorem d_M_assay_27 : decode b_M_assay 27 = .ok (.iload 4, 2) := by decide +kernel
theorem d_M_assay_29 : decode b_M_assay 29 = .ok (.i2l, 1) := by decide +kernel
theorem d_M_assay_30 : decode b_M_assay 30 = .ok (.lconst 0, 1) := by decide +kernel
theorem d_M_assay_31 : decode b_M_assay 31 = .ok (.ldc2_w 102, 3) := by decide +kernel
theorem d_M_assay_34 : decode b_M_assay 34 = .ok (.invokestatic 84, 3) := by decide +kernel
theorem d_M_assay_37 : decode b_M_assay 37 = .ok (.ifCond .eq 12, 3) := by decide +kernel
theorem d_M_assay_40 : decode b_M_assay 40 = .ok (.aload_n 0, 1) := by decide +kernel
theorem d_M_assay_41 : decode b_M_assay 41 = .ok (.getfield 17, 3) := by decide +kernel
theorem d_M_assay_44 : decode b_M_assay 44 = .ok (.iload_n 1, 1) := by decide +kernel
theorem d_M_assay_45 : decode b_M_assay 45 = .ok (.baload, 1) := by decide +kernel
theorem d_M_assay_46 : decode b_M_assay 46 = .ok (.ifCond .eq 5, 3) := by decide +kernel
theorem d_M_assay_49 : decode b_M_assay 49 = .ok (.iconst 0, 1) := by decide +kernel
theorem d_M_assay_50 : decode b_M_assay 50 = .ok (.ireturn, 1) := by decide +kernel
theorem d_M_assay_51 : decode b_M_assay 51 = .ok (.aload_n 0, 1) := by decide +kernel
theorem d_M_assay_52 : decode b_M_assay 52 = .ok (.getfield 57, 3) := by decide +kernel
theorem d_M_assay_55 : decode b_M_assay 55 = .ok (.bipush 12, 2) := by decide +kernel
theorem d_M_assay_57 : decode b_M_assay 57 = .ok (.iload_n 1, 1) := by decide +kernel
theorem d_M_assay_58 : decode b_M_assay 58 = .ok (.imul, 1) := by decide +kernel
theorem d_M_assay_59 : decode b_M_assay 59 = .ok (.iconst 3, 1) := by decide +kernel
theorem d_M_assay_60 : decode b_M_assay 60 = .ok (.iload_n 3, 1) := by decide +kernel
theorem d_M_assay_61 : decode b_M_assay 61 = .ok (.imul, 1) := by decide +kernel
theorem d_M_assay_62 : decode b_M_assay 62 = .ok (.iadd, 1) := by decide +kernel
theorem d_M_assay_63 : decode b_M_assay 63 = .ok (.iload_n 2, 1) := by decide +kernel
theorem d_M_assay_64 : decode b_M_assay 64 = .ok (.iadd, 1) := by decide +kernel
theorem d_M_assay_65 : decode b_M_assay 65 = .ok (.iload 4, 2) := by decide +kernel
theorem d_M_assay_67 : decode b_M_assay 67 = .ok (.iastore, 1) := by decide +kernel
theorem d_M_assay_68 : decode b_M_assay 68 = .ok (.iconst 1, 1) := by decide +kernel
theorem d_M_assay_69 : decode b_M_assay 69 = .ok (.ireturn, 1) := by decide +kernel
theorem d_M_least_0 : decode b_M_least 0 = .ok (.iload_n 0, 1) := by decide +kernel
theorem d_M_least_1 : decode b_M_least 1 = .ok (.iload_n 1, 1) := by decide +kernel
theorem d_M_least_2 : decode b_M_least 2 = .ok (.if_icmp .ge 7, 3) := by decide +kernel
theorem d_M_least_5 : decode b_M_least 5 = .ok (.iload_n 0, 1) := by decide +kernel
theorem d_M_least_6 : decode b_M_least 6 = .ok (.goto 4, 3) := by decide +kernel
theorem d_M_least_9 : decode b_M_least 9 = .ok (.iload_n 1, 1) := by decide +kernel
theorem d_M_least_10 : decode b_M_least 10 = .ok (.ireturn, 1) := by decide +kernel
theorem d_M_greatest_0 : decode b_M_greatest 0 = .ok (.iload_n 0, 1) := by decide +kernel
theorem d_M_greatest_1 : decode b_M_greatest 1 = .ok (.iload_n 1, 1) := by decide +kernel
theorem d_M_greatest_2 : decode b_M_greatest 2 = .ok (.if_icmp .le 7, 3) := by decide +kernel
theorem d_M_greatest_5 : decode b_M_greatest 5 = .ok (.iload_n 0, 1) := by decide +kernel
theorem d_M_greatest_6 : decode b_M_greatest 6 = .ok (.goto 4, 3) := by decide +kernel
theorem d_M_greatest_9 : decode b_M_greatest 9 = .ok (.iload_n 1, 1) := by decide +kernel
theorem d_M_greatest_10 : decode b_M_greatest 10 = .ok (.ireturn, 1) := by decide +kernel
theorem d_M_told_0 : decode b_M_told 0 = .ok (.bipush 12, 2) := by decide +kernel
theorem d_M_told_2 : decode b_M_told 2 = .ok (.iload_n 1, 1) := by decide +kernel
theorem d_M_told_3 : decode b_M_told 3 = .ok (.imul, 1) := by decide +kernel
theorem d_M_told_4 : decode b_M_told 4 = .ok (.iconst 3, 1) := by decide +kernel
theorem d_M_told_5 : decode b_M_told 5 = .ok (.iload_n 2, 1) := by decide +kernel
theorem d_M_told_6 : decode b_M_told 6 = .ok (.imul, 1) := by decide +kernel
theorem d_M_told_7 : decode b_M_told 7 = .ok (.iadd, 1) := by decide +kernel
theorem d_M_told_8 : decode b_M_told 8 = .ok (.istore 4, 2) := by decide +kernel
theorem d_M_told_10 : decode b_M_told 10 = .ok (.aload_n 0, 1) := by decide +kernel
theorem d_M_told_11 : decode b_M_told 11 = .ok (.getfield 57, 3) := by decide +kernel
theorem d_M_told_14 : decode b_M_told 14 = .ok (.iload 4, 2) := by decide +kernel
theorem d_M_told_16 : decode b_M_told 16 = .ok (.iaload, 1) := by decide +kernel
theorem d_M_told_17 : decode b_M_told 17 = .ok (.istore 5, 2) := by decide +kernel
theorem d_M_told_19 : decode b_M_told 19 = .ok (.aload_n 0, 1) := by decide +kernel
theorem d_M_told_20 : decode b_M_told 20 = .ok (.getfield 57, 3) := by decide +kernel
theorem d_M_told_23 : decode b_M_told 23 = .ok (.iload 4, 2) := by decide +kernel
theorem d_M_told_25 : decode b_M_told 25 = .ok (.iconst 1, 1) := by decide +kernel
end
section
theorem d_M_told_26 : decode b_M_told 26 = .ok (.iadd, 1) := by decide +kernel
theorem d_M_told_27 : decode b_M_told 27 = .ok (.iaload, 1) := by decide +kernel
theorem d_M_told_28 : decode b_M_told 28 = .ok (.istore 6, 2) := by decide +kernel
theorem d_M_told_30 : decode b_M_told 30 = .ok (.aload_n 0, 1) := by decide +kernel
theorem d_M_told_31 : decode b_M_told 31 = .ok (.getfield 57, 3) := by decide +kernel
theorem d_M_told_34 : decode b_M_told 34 = .ok (.iload 4, 2) := by decide +kernel
theorem d_M_told_36 : decode b_M_told 36 = .ok (.iconst 2, 1) := by decide +kernel
theorem d_M_told_37 : decode b_M_told 37 = .ok (.iadd, 1) := by decide +kernel
theorem d_M_told_38 : decode b_M_told 38 = .ok (.iaload, 1) := by decide +kernel
theorem d_M_told_39 : decode b_M_told 39 = .ok (.istore 7, 2) := by decide +kernel
theorem d_M_told_41 : decode b_M_told 41 = .ok (.iload 5, 2) := by decide +kernel
theorem d_M_told_43 : decode b_M_told 43 = .ok (.ifCond .lt 13, 3) := by decide +kernel
theorem d_M_told_46 : decode b_M_told 46 = .ok (.iload 6, 2) := by decide +kernel
theorem d_M_told_48 : decode b_M_told 48 = .ok (.ifCond .lt 8, 3) := by decide +kernel
theorem d_M_told_51 : decode b_M_told 51 = .ok (.iload 7, 2) := by decide +kernel
theorem d_M_told_53 : decode b_M_told 53 = .ok (.ifCond .ge 5, 3) := by decide +kernel
theorem d_M_told_56 : decode b_M_told 56 = .ok (.iconst (-1), 1) := by decide +kernel
theorem d_M_told_57 : decode b_M_told 57 = .ok (.ireturn, 1) := by decide +kernel
theorem d_M_told_58 : decode b_M_told 58 = .ok (.iload 5, 2) := by decide +kernel
theorem d_M_told_60 : decode b_M_told 60 = .ok (.iload 6, 2) := by decide +kernel
theorem d_M_told_62 : decode b_M_told 62 = .ok (.iload 7, 2) := by decide +kernel
theorem d_M_told_64 : decode b_M_told 64 = .ok (.invokestatic 127, 3) := by decide +kernel
theorem d_M_told_67 : decode b_M_told 67 = .ok (.invokestatic 127, 3) := by decide +kernel
theorem d_M_told_70 : decode b_M_told 70 = .ok (.istore 8, 2) := by decide +kernel
theorem d_M_told_72 : decode b_M_told 72 = .ok (.iload 5, 2) := by decide +kernel
theorem d_M_told_74 : decode b_M_told 74 = .ok (.iload 6, 2) := by decide +kernel
theorem d_M_told_76 : decode b_M_told 76 = .ok (.iload 7, 2) := by decide +kernel
theorem d_M_told_78 : decode b_M_told 78 = .ok (.invokestatic 131, 3) := by decide +kernel
theorem d_M_told_81 : decode b_M_told 81 = .ok (.invokestatic 131, 3) := by decide +kernel
theorem d_M_told_84 : decode b_M_told 84 = .ok (.istore 9, 2) := by decide +kernel
theorem d_M_told_86 : decode b_M_told 86 = .ok (.iload_n 3, 1) := by decide +kernel
theorem d_M_told_87 : decode b_M_told 87 = .ok (.ifCond .ne 8, 3) := by decide +kernel
theorem d_M_told_90 : decode b_M_told 90 = .ok (.iload 8, 2) := by decide +kernel
theorem d_M_told_92 : decode b_M_told 92 = .ok (.goto 27, 3) := by decide +kernel
theorem d_M_told_95 : decode b_M_told 95 = .ok (.iload_n 3, 1) := by decide +kernel
theorem d_M_told_96 : decode b_M_told 96 = .ok (.iconst 2, 1) := by decide +kernel
theorem d_M_told_97 : decode b_M_told 97 = .ok (.if_icmp .ne 8, 3) := by decide +kernel
theorem d_M_told_100 : decode b_M_told 100 = .ok (.iload 9, 2) := by decide +kernel
theorem d_M_told_102 : decode b_M_told 102 = .ok (.goto 17, 3) := by decide +kernel
theorem d_M_told_105 : decode b_M_told 105 = .ok (.iload 5, 2) := by decide +kernel
theorem d_M_told_107 : decode b_M_told 107 = .ok (.iload 6, 2) := by decide +kernel
theorem d_M_told_109 : decode b_M_told 109 = .ok (.iadd, 1) := by decide +kernel
theorem d_M_told_110 : decode b_M_told 110 = .ok (.iload 7, 2) := by decide +kernel
theorem d_M_told_112 : decode b_M_told 112 = .ok (.iadd, 1) := by decide +kernel
theorem d_M_told_113 : decode b_M_told 113 = .ok (.iload 8, 2) := by decide +kernel
theorem d_M_told_115 : decode b_M_told 115 = .ok (.isub, 1) := by decide +kernel
theorem d_M_told_116 : decode b_M_told 116 = .ok (.iload 9, 2) := by decide +kernel
theorem d_M_told_118 : decode b_M_told 118 = .ok (.isub, 1) := by decide +kernel
theorem d_M_told_119 : decode b_M_told 119 = .ok (.ireturn, 1) := by decide +kernel
theorem d_M_settled_0 : decode b_M_settled 0 = .ok (.aload_n 0, 1) := by decide +kernel
theorem d_M_settled_1 : decode b_M_settled 1 = .ok (.iload_n 1, 1) := by decide +kernel
theorem d_M_settled_2 : decode b_M_settled 2 = .ok (.invokevirtual 95, 3) := by decide +kernel
theorem d_M_settled_5 : decode b_M_settled 5 = .ok (.ifCond .eq 20, 3) := by decide +kernel
theorem d_M_settled_8 : decode b_M_settled 8 = .ok (.iload_n 2, 1) := by decide +kernel
theorem d_M_settled_9 : decode b_M_settled 9 = .ok (.invokestatic 99, 3) := by decide +kernel
theorem d_M_settled_12 : decode b_M_settled 12 = .ok (.ifCond .eq 13, 3) := by decide +kernel
theorem d_M_settled_15 : decode b_M_settled 15 = .ok (.aload_n 0, 1) := by decide +kernel
theorem d_M_settled_16 : decode b_M_settled 16 = .ok (.iload_n 1, 1) := by decide +kernel
theorem d_M_settled_17 : decode b_M_settled 17 = .ok (.iload_n 2, 1) := by decide +kernel
theorem d_M_settled_18 : decode b_M_settled 18 = .ok (.iconst 1, 1) := by decide +kernel
theorem d_M_settled_19 : decode b_M_settled 19 = .ok (.invokevirtual 134, 3) := by decide +kernel
theorem d_M_settled_22 : decode b_M_settled 22 = .ok (.goto 4, 3) := by decide +kernel
theorem d_M_settled_25 : decode b_M_settled 25 = .ok (.iconst (-1), 1) := by decide +kernel
theorem d_M_settled_26 : decode b_M_settled 26 = .ok (.ireturn, 1) := by decide +kernel
theorem d_M_disputed_0 : decode b_M_disputed 0 = .ok (.aload_n 0, 1) := by decide +kernel
theorem d_M_disputed_1 : decode b_M_disputed 1 = .ok (.iload_n 1, 1) := by decide +kernel
theorem d_M_disputed_2 : decode b_M_disputed 2 = .ok (.invokevirtual 95, 3) := by decide +kernel
theorem d_M_disputed_5 : decode b_M_disputed 5 = .ok (.ifCond .eq 36, 3) := by decide +kernel
theorem d_M_disputed_8 : decode b_M_disputed 8 = .ok (.iload_n 2, 1) := by decide +kernel
theorem d_M_disputed_9 : decode b_M_disputed 9 = .ok (.invokestatic 99, 3) := by decide +kernel
theorem d_M_disputed_12 : decode b_M_disputed 12 = .ok (.ifCond .eq 29, 3) := by decide +kernel
theorem d_M_disputed_15 : decode b_M_disputed 15 = .ok (.aload_n 0, 1) := by decide +kernel
theorem d_M_disputed_16 : decode b_M_disputed 16 = .ok (.iload_n 1, 1) := by decide +kernel
theorem d_M_disputed_17 : decode b_M_disputed 17 = .ok (.iload_n 2, 1) := by decide +kernel
theorem d_M_disputed_18 : decode b_M_disputed 18 = .ok (.iconst 2, 1) := by decide +kernel
theorem d_M_disputed_19 : decode b_M_disputed 19 = .ok (.invokevirtual 134, 3) := by decide +kernel
theorem d_M_disputed_22 : decode b_M_disputed 22 = .ok (.aload_n 0, 1) := by decide +kernel
theorem d_M_disputed_23 : decode b_M_disputed 23 = .ok (.iload_n 1, 1) := by decide +kernel
theorem d_M_disputed_24 : decode b_M_disputed 24 = .ok (.iload_n 2, 1) := by decide +kernel
theorem d_M_disputed_25 : decode b_M_disputed 25 = .ok (.iconst 0, 1) := by decide +kernel
theorem d_M_disputed_26 : decode b_M_disputed 26 = .ok (.invokevirtual 134, 3) := by decide +kernel
theorem d_M_disputed_29 : decode b_M_disputed 29 = .ok (.isub, 1) := by decide +kernel
theorem d_M_disputed_30 : decode b_M_disputed 30 = .ok (.aload_n 0, 1) := by decide +kernel
theorem d_M_disputed_31 : decode b_M_disputed 31 = .ok (.getfield 60, 3) := by decide +kernel
theorem d_M_disputed_34 : decode b_M_disputed 34 = .ok (.if_icmp .le 7, 3) := by decide +kernel
theorem d_M_disputed_37 : decode b_M_disputed 37 = .ok (.iconst 1, 1) := by decide +kernel
theorem d_M_disputed_38 : decode b_M_disputed 38 = .ok (.goto 4, 3) := by decide +kernel
theorem d_M_disputed_41 : decode b_M_disputed 41 = .ok (.iconst 0, 1) := by decide +kernel
theorem d_M_disputed_42 : decode b_M_disputed 42 = .ok (.ireturn, 1) := by decide +kernel
theorem d_M_tolerance_0 : decode b_M_tolerance 0 = .ok (.iload_n 1, 1) := by decide +kernel
theorem d_M_tolerance_1 : decode b_M_tolerance 1 = .ok (.i2l, 1) := by decide +kernel
theorem d_M_tolerance_2 : decode b_M_tolerance 2 = .ok (.lconst 0, 1) := by decide +kernel
theorem d_M_tolerance_3 : decode b_M_tolerance 3 = .ok (.ldc2_w 102, 3) := by decide +kernel
theorem d_M_tolerance_6 : decode b_M_tolerance 6 = .ok (.invokestatic 84, 3) := by decide +kernel
theorem d_M_tolerance_9 : decode b_M_tolerance 9 = .ok (.ifCond .ne 5, 3) := by decide +kernel
theorem d_M_tolerance_12 : decode b_M_tolerance 12 = .ok (.iconst 0, 1) := by decide +kernel
theorem d_M_tolerance_13 : decode b_M_tolerance 13 = .ok (.ireturn, 1) := by decide +kernel
theorem d_M_tolerance_14 : decode b_M_tolerance 14 = .ok (.aload_n 0, 1) := by decide +kernel
theorem d_M_tolerance_15 : decode b_M_tolerance 15 = .ok (.iload_n 1, 1) := by decide +kernel
theorem d_M_tolerance_16 : decode b_M_tolerance 16 = .ok (.putfield 60, 3) := by decide +kernel
theorem d_M_tolerance_19 : decode b_M_tolerance 19 = .ok (.iconst 1, 1) := by decide +kernel
theorem d_M_tolerance_20 : decode b_M_tolerance 20 = .ok (.ireturn, 1) := by decide +kernel
theorem d_M_rule_0 : decode b_M_rule 0 = .ok (.aload_n 0, 1) := by decide +kernel
theorem d_M_rule_1 : decode b_M_rule 1 = .ok (.getfield 138, 3) := by decide +kernel
theorem d_M_rule_4 : decode b_M_rule 4 = .ok (.bipush 8, 2) := by decide +kernel
theorem d_M_rule_6 : decode b_M_rule 6 = .ok (.if_icmp .eq 47, 3) := by decide +kernel
theorem d_M_rule_9 : decode b_M_rule 9 = .ok (.iload_n 1, 1) := by decide +kernel
theorem d_M_rule_10 : decode b_M_rule 10 = .ok (.i2l, 1) := by decide +kernel
theorem d_M_rule_11 : decode b_M_rule 11 = .ok (.lconst 0, 1) := by decide +kernel
theorem d_M_rule_12 : decode b_M_rule 12 = .ok (.ldc2_w 141, 3) := by decide +kernel
theorem d_M_rule_15 : decode b_M_rule 15 = .ok (.invokestatic 84, 3) := by decide +kernel
theorem d_M_rule_18 : decode b_M_rule 18 = .ok (.ifCond .eq 35, 3) := by decide +kernel
theorem d_M_rule_21 : decode b_M_rule 21 = .ok (.iload_n 2, 1) := by decide +kernel
theorem d_M_rule_22 : decode b_M_rule 22 = .ok (.invokestatic 99, 3) := by decide +kernel
theorem d_M_rule_25 : decode b_M_rule 25 = .ok (.ifCond .eq 28, 3) := by decide +kernel
theorem d_M_rule_28 : decode b_M_rule 28 = .ok (.iload_n 3, 1) := by decide +kernel
theorem d_M_rule_29 : decode b_M_rule 29 = .ok (.i2l, 1) := by decide +kernel
theorem d_M_rule_30 : decode b_M_rule 30 = .ok (.lconst 0, 1) := by decide +kernel
theorem d_M_rule_31 : decode b_M_rule 31 = .ok (.ldc2_w 102, 3) := by decide +kernel
theorem d_M_rule_34 : decode b_M_rule 34 = .ok (.invokestatic 84, 3) := by decide +kernel
theorem d_M_rule_37 : decode b_M_rule 37 = .ok (.ifCond .eq 16, 3) := by decide +kernel
theorem d_M_rule_40 : decode b_M_rule 40 = .ok (.iload 4, 2) := by decide +kernel
theorem d_M_rule_42 : decode b_M_rule 42 = .ok (.i2l, 1) := by decide +kernel
theorem d_M_rule_43 : decode b_M_rule 43 = .ok (.lconst 0, 1) := by decide +kernel
theorem d_M_rule_44 : decode b_M_rule 44 = .ok (.ldc2_w 104, 3) := by decide +kernel
theorem d_M_rule_47 : decode b_M_rule 47 = .ok (.invokestatic 84, 3) := by decide +kernel
theorem d_M_rule_50 : decode b_M_rule 50 = .ok (.ifCond .ne 5, 3) := by decide +kernel
theorem d_M_rule_53 : decode b_M_rule 53 = .ok (.iconst (-1), 1) := by decide +kernel
theorem d_M_rule_54 : decode b_M_rule 54 = .ok (.ireturn, 1) := by decide +kernel
theorem d_M_rule_55 : decode b_M_rule 55 = .ok (.aload_n 0, 1) := by decide +kernel
theorem d_M_rule_56 : decode b_M_rule 56 = .ok (.getfield 64, 3) := by decide +kernel
theorem d_M_rule_59 : decode b_M_rule 59 = .ok (.aload_n 0, 1) := by decide +kernel
theorem d_M_rule_60 : decode b_M_rule 60 = .ok (.getfield 138, 3) := by decide +kernel
theorem d_M_rule_63 : decode b_M_rule 63 = .ok (.iload_n 1, 1) := by decide +kernel
theorem d_M_rule_64 : decode b_M_rule 64 = .ok (.iastore, 1) := by decide +kernel
theorem d_M_rule_65 : decode b_M_rule 65 = .ok (.aload_n 0, 1) := by decide +kernel
theorem d_M_rule_66 : decode b_M_rule 66 = .ok (.getfield 67, 3) := by decide +kernel
theorem d_M_rule_69 : decode b_M_rule 69 = .ok (.aload_n 0, 1) := by decide +kernel
theorem d_M_rule_70 : decode b_M_rule 70 = .ok (.getfield 138, 3) := by decide +kernel
theorem d_M_rule_73 : decode b_M_rule 73 = .ok (.iload_n 2, 1) := by decide +kernel
theorem d_M_rule_74 : decode b_M_rule 74 = .ok (.iastore, 1) := by decide +kernel
theorem d_M_rule_75 : decode b_M_rule 75 = .ok (.aload_n 0, 1) := by decide +kernel
theorem d_M_rule_76 : decode b_M_rule 76 = .ok (.getfield 70, 3) := by decide +kernel
theorem d_M_rule_79 : decode b_M_rule 79 = .ok (.aload_n 0, 1) := by decide +kernel
theorem d_M_rule_80 : decode b_M_rule 80 = .ok (.getfield 138, 3) := by decide +kernel
theorem d_M_rule_83 : decode b_M_rule 83 = .ok (.iload_n 3, 1) := by decide +kernel
theorem d_M_rule_84 : decode b_M_rule 84 = .ok (.iastore, 1) := by decide +kernel
theorem d_M_rule_85 : decode b_M_rule 85 = .ok (.aload_n 0, 1) := by decide +kernel
theorem d_M_rule_86 : decode b_M_rule 86 = .ok (.getfield 73, 3) := by decide +kernel
theorem d_M_rule_89 : decode b_M_rule 89 = .ok (.aload_n 0, 1) := by decide +kernel
theorem d_M_rule_90 : decode b_M_rule 90 = .ok (.getfield 138, 3) := by decide +kernel
theorem d_M_rule_93 : decode b_M_rule 93 = .ok (.iload 4, 2) := by decide +kernel
theorem d_M_rule_95 : decode b_M_rule 95 = .ok (.iastore, 1) := by decide +kernel
theorem d_M_rule_96 : decode b_M_rule 96 = .ok (.aload_n 0, 1) := by decide +kernel
theorem d_M_rule_97 : decode b_M_rule 97 = .ok (.dup, 1) := by decide +kernel
theorem d_M_rule_98 : decode b_M_rule 98 = .ok (.getfield 138, 3) := by decide +kernel
theorem d_M_rule_101 : decode b_M_rule 101 = .ok (.iconst 1, 1) := by decide +kernel
theorem d_M_rule_102 : decode b_M_rule 102 = .ok (.iadd, 1) := by decide +kernel
theorem d_M_rule_103 : decode b_M_rule 103 = .ok (.putfield 138, 3) := by decide +kernel
theorem d_M_rule_106 : decode b_M_rule 106 = .ok (.aload_n 0, 1) := by decide +kernel
theorem d_M_rule_107 : decode b_M_rule 107 = .ok (.getfield 138, 3) := by decide +kernel
theorem d_M_rule_110 : decode b_M_rule 110 = .ok (.iconst 1, 1) := by decide +kernel
theorem d_M_rule_111 : decode b_M_rule 111 = .ok (.isub, 1) := by decide +kernel
theorem d_M_rule_112 : decode b_M_rule 112 = .ok (.ireturn, 1) := by decide +kernel
theorem d_M_cls_0 : decode b_M_cls 0 = .ok (.aload_n 0, 1) := by decide +kernel
theorem d_M_cls_1 : decode b_M_cls 1 = .ok (.iload_n 1, 1) := by decide +kernel
theorem d_M_cls_2 : decode b_M_cls 2 = .ok (.invokevirtual 95, 3) := by decide +kernel
theorem d_M_cls_5 : decode b_M_cls 5 = .ok (.ifCond .eq 12, 3) := by decide +kernel
theorem d_M_cls_8 : decode b_M_cls 8 = .ok (.aload_n 0, 1) := by decide +kernel
theorem d_M_cls_9 : decode b_M_cls 9 = .ok (.getfield 17, 3) := by decide +kernel
theorem d_M_cls_12 : decode b_M_cls 12 = .ok (.iload_n 1, 1) := by decide +kernel
theorem d_M_cls_13 : decode b_M_cls 13 = .ok (.baload, 1) := by decide +kernel
theorem d_M_cls_14 : decode b_M_cls 14 = .ok (.ifCond .eq 5, 3) := by decide +kernel
theorem d_M_cls_17 : decode b_M_cls 17 = .ok (.iconst (-1), 1) := by decide +kernel
theorem d_M_cls_18 : decode b_M_cls 18 = .ok (.ireturn, 1) := by decide +kernel
theorem d_M_cls_19 : decode b_M_cls 19 = .ok (.iconst 0, 1) := by decide +kernel
theorem d_M_cls_20 : decode b_M_cls 20 = .ok (.istore_n 2, 1) := by decide +kernel
theorem d_M_cls_21 : decode b_M_cls 21 = .ok (.iload_n 2, 1) := by decide +kernel
theorem d_M_cls_22 : decode b_M_cls 22 = .ok (.aload_n 0, 1) := by decide +kernel
theorem d_M_cls_23 : decode b_M_cls 23 = .ok (.getfield 138, 3) := by decide +kernel
theorem d_M_cls_26 : decode b_M_cls 26 = .ok (.if_icmp .ge 77, 3) := by decide +kernel
theorem d_M_cls_29 : decode b_M_cls 29 = .ok (.aload_n 0, 1) := by decide +kernel
theorem d_M_cls_30 : decode b_M_cls 30 = .ok (.iload_n 1, 1) := by decide +kernel
theorem d_M_cls_31 : decode b_M_cls 31 = .ok (.aload_n 0, 1) := by decide +kernel
theorem d_M_cls_32 : decode b_M_cls 32 = .ok (.getfield 67, 3) := by decide +kernel
theorem d_M_cls_35 : decode b_M_cls 35 = .ok (.iload_n 2, 1) := by decide +kernel
theorem d_M_cls_36 : decode b_M_cls 36 = .ok (.iaload, 1) := by decide +kernel
theorem d_M_cls_37 : decode b_M_cls 37 = .ok (.iconst 1, 1) := by decide +kernel
theorem d_M_cls_38 : decode b_M_cls 38 = .ok (.invokevirtual 134, 3) := by decide +kernel
theorem d_M_cls_41 : decode b_M_cls 41 = .ok (.istore_n 3, 1) := by decide +kernel
theorem d_M_cls_42 : decode b_M_cls 42 = .ok (.iload_n 3, 1) := by decide +kernel
theorem d_M_cls_43 : decode b_M_cls 43 = .ok (.ifCond .lt 54, 3) := by decide +kernel
theorem d_M_cls_46 : decode b_M_cls 46 = .ok (.aload_n 0, 1) := by decide +kernel
theorem d_M_cls_47 : decode b_M_cls 47 = .ok (.iload_n 1, 1) := by decide +kernel
theorem d_M_cls_48 : decode b_M_cls 48 = .ok (.aload_n 0, 1) := by decide +kernel
theorem d_M_cls_49 : decode b_M_cls 49 = .ok (.getfield 67, 3) := by decide +kernel
theorem d_M_cls_52 : decode b_M_cls 52 = .ok (.iload_n 2, 1) := by decide +kernel
theorem d_M_cls_53 : decode b_M_cls 53 = .ok (.iaload, 1) := by decide +kernel
theorem d_M_cls_54 : decode b_M_cls 54 = .ok (.invokevirtual 143, 3) := by decide +kernel
theorem d_M_cls_57 : decode b_M_cls 57 = .ok (.ifCond .ne 40, 3) := by decide +kernel
theorem d_M_cls_60 : decode b_M_cls 60 = .ok (.iload_n 3, 1) := by decide +kernel
theorem d_M_cls_61 : decode b_M_cls 61 = .ok (.aload_n 0, 1) := by decide +kernel
theorem d_M_cls_62 : decode b_M_cls 62 = .ok (.getfield 70, 3) := by decide +kernel
theorem d_M_cls_65 : decode b_M_cls 65 = .ok (.iload_n 2, 1) := by decide +kernel
theorem d_M_cls_66 : decode b_M_cls 66 = .ok (.iaload, 1) := by decide +kernel
theorem d_M_cls_67 : decode b_M_cls 67 = .ok (.if_icmp .gt 30, 3) := by decide +kernel
theorem d_M_cls_70 : decode b_M_cls 70 = .ok (.aload_n 0, 1) := by decide +kernel
theorem d_M_cls_71 : decode b_M_cls 71 = .ok (.getfield 73, 3) := by decide +kernel
theorem d_M_cls_74 : decode b_M_cls 74 = .ok (.iload_n 2, 1) := by decide +kernel
theorem d_M_cls_75 : decode b_M_cls 75 = .ok (.iaload, 1) := by decide +kernel
theorem d_M_cls_76 : decode b_M_cls 76 = .ok (.aload_n 0, 1) := by decide +kernel
theorem d_M_cls_77 : decode b_M_cls 77 = .ok (.getfield 88, 3) := by decide +kernel
theorem d_M_cls_80 : decode b_M_cls 80 = .ok (.aload_n 0, 1) := by decide +kernel
theorem d_M_cls_81 : decode b_M_cls 81 = .ok (.getfield 13, 3) := by decide +kernel
theorem d_M_cls_84 : decode b_M_cls 84 = .ok (.iload_n 1, 1) := by decide +kernel
theorem d_M_cls_85 : decode b_M_cls 85 = .ok (.iaload, 1) := by decide +kernel
theorem d_M_cls_86 : decode b_M_cls 86 = .ok (.isub, 1) := by decide +kernel
theorem d_M_cls_87 : decode b_M_cls 87 = .ok (.if_icmp .gt 10, 3) := by decide +kernel
theorem d_M_cls_90 : decode b_M_cls 90 = .ok (.aload_n 0, 1) := by decide +kernel
theorem d_M_cls_91 : decode b_M_cls 91 = .ok (.getfield 64, 3) := by decide +kernel
theorem d_M_cls_94 : decode b_M_cls 94 = .ok (.iload_n 2, 1) := by decide +kernel
theorem d_M_cls_95 : decode b_M_cls 95 = .ok (.iaload, 1) := by decide +kernel
theorem d_M_cls_96 : decode b_M_cls 96 = .ok (.ireturn, 1) := by decide +kernel
theorem d_M_cls_97 : decode b_M_cls 97 = .ok (.iinc 2 1, 3) := by decide +kernel
theorem d_M_cls_100 : decode b_M_cls 100 = .ok (.goto (-79), 3) := by decide +kernel
theorem d_M_cls_103 : decode b_M_cls 103 = .ok (.bipush 99, 2) := by decide +kernel
theorem d_M_cls_105 : decode b_M_cls 105 = .ok (.ireturn, 1) := by decide +kernel
theorem d_M_mix_0 : decode b_M_mix 0 = .ok (.aload_n 0, 1) := by decide +kernel
theorem d_M_mix_1 : decode b_M_mix 1 = .ok (.iload_n 1, 1) := by decide +kernel
theorem d_M_mix_2 : decode b_M_mix 2 = .ok (.invokevirtual 95, 3) := by decide +kernel
theorem d_M_mix_5 : decode b_M_mix 5 = .ok (.ifCond .eq 58, 3) := by decide +kernel
theorem d_M_mix_8 : decode b_M_mix 8 = .ok (.aload_n 0, 1) := by decide +kernel
theorem d_M_mix_9 : decode b_M_mix 9 = .ok (.iload_n 2, 1) := by decide +kernel
theorem d_M_mix_10 : decode b_M_mix 10 = .ok (.invokevirtual 95, 3) := by decide +kernel
theorem d_M_mix_13 : decode b_M_mix 13 = .ok (.ifCond .eq 50, 3) := by decide +kernel
theorem d_M_mix_16 : decode b_M_mix 16 = .ok (.iload_n 1, 1) := by decide +kernel
theorem d_M_mix_17 : decode b_M_mix 17 = .ok (.iload_n 2, 1) := by decide +kernel
theorem d_M_mix_18 : decode b_M_mix 18 = .ok (.if_icmp .eq 45, 3) := by decide +kernel
theorem d_M_mix_21 : decode b_M_mix 21 = .ok (.aload_n 0, 1) := by decide +kernel
theorem d_M_mix_22 : decode b_M_mix 22 = .ok (.getfield 17, 3) := by decide +kernel
theorem d_M_mix_25 : decode b_M_mix 25 = .ok (.iload_n 1, 1) := by decide +kernel
theorem d_M_mix_26 : decode b_M_mix 26 = .ok (.baload, 1) := by decide +kernel
theorem d_M_mix_27 : decode b_M_mix 27 = .ok (.ifCond .ne 36, 3) := by decide +kernel
theorem d_M_mix_30 : decode b_M_mix 30 = .ok (.aload_n 0, 1) := by decide +kernel
theorem d_M_mix_31 : decode b_M_mix 31 = .ok (.getfield 17, 3) := by decide +kernel
theorem d_M_mix_34 : decode b_M_mix 34 = .ok (.iload_n 2, 1) := by decide +kernel
theorem d_M_mix_35 : decode b_M_mix 35 = .ok (.baload, 1) := by decide +kernel
theorem d_M_mix_36 : decode b_M_mix 36 = .ok (.ifCond .ne 27, 3) := by decide +kernel
theorem d_M_mix_39 : decode b_M_mix 39 = .ok (.aload_n 0, 1) := by decide +kernel
theorem d_M_mix_40 : decode b_M_mix 40 = .ok (.getfield 24, 3) := by decide +kernel
theorem d_M_mix_43 : decode b_M_mix 43 = .ok (.iload_n 1, 1) := by decide +kernel
theorem d_M_mix_44 : decode b_M_mix 44 = .ok (.baload, 1) := by decide +kernel
theorem d_M_mix_45 : decode b_M_mix 45 = .ok (.aload_n 0, 1) := by decide +kernel
theorem d_M_mix_46 : decode b_M_mix 46 = .ok (.getfield 24, 3) := by decide +kernel
theorem d_M_mix_49 : decode b_M_mix 49 = .ok (.iload_n 2, 1) := by decide +kernel
theorem d_M_mix_50 : decode b_M_mix 50 = .ok (.baload, 1) := by decide +kernel
theorem d_M_mix_51 : decode b_M_mix 51 = .ok (.if_icmp .ne 12, 3) := by decide +kernel
theorem d_M_mix_54 : decode b_M_mix 54 = .ok (.aload_n 0, 1) := by decide +kernel
theorem d_M_mix_55 : decode b_M_mix 55 = .ok (.getfield 76, 3) := by decide +kernel
theorem d_M_mix_58 : decode b_M_mix 58 = .ok (.bipush 8, 2) := by decide +kernel
theorem d_M_mix_60 : decode b_M_mix 60 = .ok (.if_icmp .ne 5, 3) := by decide +kernel
theorem d_M_mix_63 : decode b_M_mix 63 = .ok (.iconst (-1), 1) := by decide +kernel
theorem d_M_mix_64 : decode b_M_mix 64 = .ok (.ireturn, 1) := by decide +kernel
theorem d_M_mix_65 : decode b_M_mix 65 = .ok (.aload_n 0, 1) := by decide +kernel
theorem d_M_mix_66 : decode b_M_mix 66 = .ok (.aload_n 0, 1) := by decide +kernel
theorem d_M_mix_67 : decode b_M_mix 67 = .ok (.getfield 7, 3) := by decide +kernel
theorem d_M_mix_70 : decode b_M_mix 70 = .ok (.iload_n 1, 1) := by decide +kernel
theorem d_M_mix_71 : decode b_M_mix 71 = .ok (.laload, 1) := by decide +kernel
theorem d_M_mix_72 : decode b_M_mix 72 = .ok (.aload_n 0, 1) := by decide +kernel
theorem d_M_mix_73 : decode b_M_mix 73 = .ok (.getfield 7, 3) := by decide +kernel
theorem d_M_mix_76 : decode b_M_mix 76 = .ok (.iload_n 2, 1) := by decide +kernel
theorem d_M_mix_77 : decode b_M_mix 77 = .ok (.laload, 1) := by decide +kernel
theorem d_M_mix_78 : decode b_M_mix 78 = .ok (.ladd, 1) := by decide +kernel
theorem d_M_mix_79 : decode b_M_mix 79 = .ok (.aload_n 0, 1) := by decide +kernel
theorem d_M_mix_80 : decode b_M_mix 80 = .ok (.getfield 13, 3) := by decide +kernel
theorem d_M_mix_83 : decode b_M_mix 83 = .ok (.iload_n 1, 1) := by decide +kernel
theorem d_M_mix_84 : decode b_M_mix 84 = .ok (.iaload, 1) := by decide +kernel
theorem d_M_mix_85 : decode b_M_mix 85 = .ok (.aload_n 0, 1) := by decide +kernel
theorem d_M_mix_86 : decode b_M_mix 86 = .ok (.getfield 13, 3) := by decide +kernel
theorem d_M_mix_89 : decode b_M_mix 89 = .ok (.iload_n 2, 1) := by decide +kernel
theorem d_M_mix_90 : decode b_M_mix 90 = .ok (.iaload, 1) := by decide +kernel
theorem d_M_mix_91 : decode b_M_mix 91 = .ok (.invokestatic 131, 3) := by decide +kernel
theorem d_M_mix_94 : decode b_M_mix 94 = .ok (.invokevirtual 91, 3) := by decide +kernel
theorem d_M_mix_97 : decode b_M_mix 97 = .ok (.istore_n 3, 1) := by decide +kernel
theorem d_M_mix_98 : decode b_M_mix 98 = .ok (.iconst 0, 1) := by decide +kernel
theorem d_M_mix_99 : decode b_M_mix 99 = .ok (.istore 4, 2) := by decide +kernel
theorem d_M_mix_101 : decode b_M_mix 101 = .ok (.iload 4, 2) := by decide +kernel
theorem d_M_mix_103 : decode b_M_mix 103 = .ok (.iconst 4, 1) := by decide +kernel
theorem d_M_mix_104 : decode b_M_mix 104 = .ok (.if_icmp .ge 43, 3) := by decide +kernel
theorem d_M_mix_107 : decode b_M_mix 107 = .ok (.aload_n 0, 1) := by decide +kernel
theorem d_M_mix_108 : decode b_M_mix 108 = .ok (.getfield 30, 3) := by decide +kernel
theorem d_M_mix_111 : decode b_M_mix 111 = .ok (.iconst 4, 1) := by decide +kernel
theorem d_M_mix_112 : decode b_M_mix 112 = .ok (.iload_n 3, 1) := by decide +kernel
theorem d_M_mix_113 : decode b_M_mix 113 = .ok (.imul, 1) := by decide +kernel
theorem d_M_mix_114 : decode b_M_mix 114 = .ok (.iload 4, 2) := by decide +kernel
theorem d_M_mix_116 : decode b_M_mix 116 = .ok (.iadd, 1) := by decide +kernel
theorem d_M_mix_117 : decode b_M_mix 117 = .ok (.aload_n 0, 1) := by decide +kernel
theorem d_M_mix_118 : decode b_M_mix 118 = .ok (.getfield 30, 3) := by decide +kernel
theorem d_M_mix_121 : decode b_M_mix 121 = .ok (.iconst 4, 1) := by decide +kernel
theorem d_M_mix_122 : decode b_M_mix 122 = .ok (.iload_n 1, 1) := by decide +kernel
theorem d_M_mix_123 : decode b_M_mix 123 = .ok (.imul, 1) := by decide +kernel
theorem d_M_mix_124 : decode b_M_mix 124 = .ok (.iload 4, 2) := by decide +kernel
theorem d_M_mix_126 : decode b_M_mix 126 = .ok (.iadd, 1) := by decide +kernel
theorem d_M_mix_127 : decode b_M_mix 127 = .ok (.laload, 1) := by decide +kernel
theorem d_M_mix_128 : decode b_M_mix 128 = .ok (.aload_n 0, 1) := by decide +kernel
theorem d_M_mix_129 : decode b_M_mix 129 = .ok (.getfield 30, 3) := by decide +kernel
theorem d_M_mix_132 : decode b_M_mix 132 = .ok (.iconst 4, 1) := by decide +kernel
theorem d_M_mix_133 : decode b_M_mix 133 = .ok (.iload_n 2, 1) := by decide +kernel
theorem d_M_mix_134 : decode b_M_mix 134 = .ok (.imul, 1) := by decide +kernel
theorem d_M_mix_135 : decode b_M_mix 135 = .ok (.iload 4, 2) := by decide +kernel
theorem d_M_mix_137 : decode b_M_mix 137 = .ok (.iadd, 1) := by decide +kernel
theorem d_M_mix_138 : decode b_M_mix 138 = .ok (.laload, 1) := by decide +kernel
theorem d_M_mix_139 : decode b_M_mix 139 = .ok (.ladd, 1) := by decide +kernel
theorem d_M_mix_140 : decode b_M_mix 140 = .ok (.lastore, 1) := by decide +kernel
theorem d_M_mix_141 : decode b_M_mix 141 = .ok (.iinc 4 1, 3) := by decide +kernel
theorem d_M_mix_144 : decode b_M_mix 144 = .ok (.goto (-43), 3) := by decide +kernel
theorem d_M_mix_147 : decode b_M_mix 147 = .ok (.aload_n 0, 1) := by decide +kernel
theorem d_M_mix_148 : decode b_M_mix 148 = .ok (.getfield 21, 3) := by decide +kernel
theorem d_M_mix_151 : decode b_M_mix 151 = .ok (.iload_n 3, 1) := by decide +kernel
theorem d_M_mix_152 : decode b_M_mix 152 = .ok (.iconst 1, 1) := by decide +kernel
theorem d_M_mix_153 : decode b_M_mix 153 = .ok (.bastore, 1) := by decide +kernel
theorem d_M_mix_154 : decode b_M_mix 154 = .ok (.aload_n 0, 1) := by decide +kernel
theorem d_M_mix_155 : decode b_M_mix 155 = .ok (.getfield 24, 3) := by decide +kernel
theorem d_M_mix_158 : decode b_M_mix 158 = .ok (.iload_n 3, 1) := by decide +kernel
theorem d_M_mix_159 : decode b_M_mix 159 = .ok (.aload_n 0, 1) := by decide +kernel
theorem d_M_mix_160 : decode b_M_mix 160 = .ok (.getfield 24, 3) := by decide +kernel
theorem d_M_mix_163 : decode b_M_mix 163 = .ok (.iload_n 1, 1) := by decide +kernel
theorem d_M_mix_164 : decode b_M_mix 164 = .ok (.baload, 1) := by decide +kernel
theorem d_M_mix_165 : decode b_M_mix 165 = .ok (.bastore, 1) := by decide +kernel
theorem d_M_mix_166 : decode b_M_mix 166 = .ok (.aload_n 0, 1) := by decide +kernel
theorem d_M_mix_167 : decode b_M_mix 167 = .ok (.getfield 17, 3) := by decide +kernel
theorem d_M_mix_170 : decode b_M_mix 170 = .ok (.iload_n 1, 1) := by decide +kernel
theorem d_M_mix_171 : decode b_M_mix 171 = .ok (.iconst 1, 1) := by decide +kernel
theorem d_M_mix_172 : decode b_M_mix 172 = .ok (.bastore, 1) := by decide +kernel
theorem d_M_mix_173 : decode b_M_mix 173 = .ok (.aload_n 0, 1) := by decide +kernel
theorem d_M_mix_174 : decode b_M_mix 174 = .ok (.getfield 17, 3) := by decide +kernel
theorem d_M_mix_177 : decode b_M_mix 177 = .ok (.iload_n 2, 1) := by decide +kernel
theorem d_M_mix_178 : decode b_M_mix 178 = .ok (.iconst 1, 1) := by decide +kernel
theorem d_M_mix_179 : decode b_M_mix 179 = .ok (.bastore, 1) := by decide +kernel
theorem d_M_mix_180 : decode b_M_mix 180 = .ok (.iload_n 3, 1) := by decide +kernel
theorem d_M_mix_181 : decode b_M_mix 181 = .ok (.ireturn, 1) := by decide +kernel
theorem d_M_dispute_0 : decode b_M_dispute 0 = .ok (.iconst 0, 1) := by decide +kernel
theorem d_M_dispute_1 : decode b_M_dispute 1 = .ok (.istore_n 2, 1) := by decide +kernel
theorem d_M_dispute_2 : decode b_M_dispute 2 = .ok (.iconst 0, 1) := by decide +kernel
theorem d_M_dispute_3 : decode b_M_dispute 3 = .ok (.istore_n 3, 1) := by decide +kernel
theorem d_M_dispute_4 : decode b_M_dispute 4 = .ok (.iload_n 3, 1) := by decide +kernel
theorem d_M_dispute_5 : decode b_M_dispute 5 = .ok (.aload_n 0, 1) := by decide +kernel
theorem d_M_dispute_6 : decode b_M_dispute 6 = .ok (.getfield 76, 3) := by decide +kernel
theorem d_M_dispute_9 : decode b_M_dispute 9 = .ok (.if_icmp .ge 73, 3) := by decide +kernel
theorem d_M_dispute_12 : decode b_M_dispute 12 = .ok (.iconst 0, 1) := by decide +kernel
theorem d_M_dispute_13 : decode b_M_dispute 13 = .ok (.istore 4, 2) := by decide +kernel
theorem d_M_dispute_15 : decode b_M_dispute 15 = .ok (.iconst 0, 1) := by decide +kernel
theorem d_M_dispute_16 : decode b_M_dispute 16 = .ok (.istore 5, 2) := by decide +kernel
theorem d_M_dispute_18 : decode b_M_dispute 18 = .ok (.iload 5, 2) := by decide +kernel
theorem d_M_dispute_20 : decode b_M_dispute 20 = .ok (.iconst 4, 1) := by decide +kernel
theorem d_M_dispute_21 : decode b_M_dispute 21 = .ok (.if_icmp .ge 31, 3) := by decide +kernel
theorem d_M_dispute_24 : decode b_M_dispute 24 = .ok (.iload 4, 2) := by decide +kernel
theorem d_M_dispute_26 : decode b_M_dispute 26 = .ok (.ifCond .ne 13, 3) := by decide +kernel
theorem d_M_dispute_29 : decode b_M_dispute 29 = .ok (.aload_n 0, 1) := by decide +kernel
theorem d_M_dispute_30 : decode b_M_dispute 30 = .ok (.iload_n 3, 1) := by decide +kernel
theorem d_M_dispute_31 : decode b_M_dispute 31 = .ok (.iload 5, 2) := by decide +kernel
theorem d_M_dispute_33 : decode b_M_dispute 33 = .ok (.invokevirtual 143, 3) := by decide +kernel
theorem d_M_dispute_36 : decode b_M_dispute 36 = .ok (.ifCond .eq 7, 3) := by decide +kernel
theorem d_M_dispute_39 : decode b_M_dispute 39 = .ok (.iconst 1, 1) := by decide +kernel
theorem d_M_dispute_40 : decode b_M_dispute 40 = .ok (.goto 4, 3) := by decide +kernel
theorem d_M_dispute_43 : decode b_M_dispute 43 = .ok (.iconst 0, 1) := by decide +kernel
theorem d_M_dispute_44 : decode b_M_dispute 44 = .ok (.istore 4, 2) := by decide +kernel
theorem d_M_dispute_46 : decode b_M_dispute 46 = .ok (.iinc 5 1, 3) := by decide +kernel
theorem d_M_dispute_49 : decode b_M_dispute 49 = .ok (.goto (-31), 3) := by decide +kernel
theorem d_M_dispute_52 : decode b_M_dispute 52 = .ok (.iload 4, 2) := by decide +kernel
theorem d_M_dispute_54 : decode b_M_dispute 54 = .ok (.ifCond .eq 22, 3) := by decide +kernel
theorem d_M_dispute_57 : decode b_M_dispute 57 = .ok (.aload_n 0, 1) := by decide +kernel
theorem d_M_dispute_58 : decode b_M_dispute 58 = .ok (.getfield 17, 3) := by decide +kernel
theorem d_M_dispute_61 : decode b_M_dispute 61 = .ok (.iload_n 3, 1) := by decide +kernel
theorem d_M_dispute_62 : decode b_M_dispute 62 = .ok (.baload, 1) := by decide +kernel
theorem d_M_dispute_63 : decode b_M_dispute 63 = .ok (.ifCond .ne 13, 3) := by decide +kernel
theorem d_M_dispute_66 : decode b_M_dispute 66 = .ok (.iload_n 2, 1) := by decide +kernel
theorem d_M_dispute_67 : decode b_M_dispute 67 = .ok (.iload_n 1, 1) := by decide +kernel
theorem d_M_dispute_68 : decode b_M_dispute 68 = .ok (.if_icmp .ne 5, 3) := by decide +kernel
theorem d_M_dispute_71 : decode b_M_dispute 71 = .ok (.iload_n 3, 1) := by decide +kernel
theorem d_M_dispute_72 : decode b_M_dispute 72 = .ok (.ireturn, 1) := by decide +kernel
theorem d_M_dispute_73 : decode b_M_dispute 73 = .ok (.iinc 2 1, 3) := by decide +kernel
theorem d_M_dispute_76 : decode b_M_dispute 76 = .ok (.iinc 3 1, 3) := by decide +kernel
theorem d_M_dispute_79 : decode b_M_dispute 79 = .ok (.goto (-75), 3) := by decide +kernel
theorem d_M_dispute_82 : decode b_M_dispute 82 = .ok (.iconst (-1), 1) := by decide +kernel
theorem d_M_dispute_83 : decode b_M_dispute 83 = .ok (.ireturn, 1) := by decide +kernel
end
section
theorem d_B_init_0 : decode b_B_init 0 = .ok (.aload_n 0, 1) := by decide +kernel
theorem d_B_init_1 : decode b_B_init 1 = .ok (.invokespecial 3, 3) := by decide +kernel
theorem d_B_init_4 : decode b_B_init 4 = .ok (.aload_n 0, 1) := by decide +kernel
theorem d_B_init_5 : decode b_B_init 5 = .ok (.lload_n 1, 1) := by decide +kernel
theorem d_B_init_6 : decode b_B_init 6 = .ok (.putfield 9, 3) := by decide +kernel
theorem d_B_init_9 : decode b_B_init 9 = .ok (.aload_n 0, 1) := by decide +kernel
theorem d_B_init_10 : decode b_B_init 10 = .ok (.iload_n 3, 1) := by decide +kernel
theorem d_B_init_11 : decode b_B_init 11 = .ok (.putfield 15, 3) := by decide +kernel
theorem d_B_init_14 : decode b_B_init 14 = .ok (.aload_n 0, 1) := by decide +kernel
theorem d_B_init_15 : decode b_B_init 15 = .ok (.iload 4, 2) := by decide +kernel
theorem d_B_init_17 : decode b_B_init 17 = .ok (.putfield 19, 3) := by decide +kernel
theorem d_B_init_20 : decode b_B_init 20 = .ok (.aload_n 0, 1) := by decide +kernel
theorem d_B_init_21 : decode b_B_init 21 = .ok (.iconst 4, 1) := by decide +kernel
theorem d_B_init_22 : decode b_B_init 22 = .ok (.newarray .long, 2) := by decide +kernel
theorem d_B_init_24 : decode b_B_init 24 = .ok (.putfield 23, 3) := by decide +kernel
theorem d_B_init_27 : decode b_B_init 27 = .ok (.aload_n 0, 1) := by decide +kernel
theorem d_B_init_28 : decode b_B_init 28 = .ok (.bipush 24, 2) := by decide +kernel
theorem d_B_init_30 : decode b_B_init 30 = .ok (.newarray .long, 2) := by decide +kernel
theorem d_B_init_32 : decode b_B_init 32 = .ok (.putfield 27, 3) := by decide +kernel
theorem d_B_init_35 : decode b_B_init 35 = .ok (.aload_n 0, 1) := by decide +kernel
theorem d_B_init_36 : decode b_B_init 36 = .ok (.bipush 12, 2) := by decide +kernel
theorem d_B_init_38 : decode b_B_init 38 = .ok (.newarray .int, 2) := by decide +kernel
theorem d_B_init_40 : decode b_B_init 40 = .ok (.putfield 30, 3) := by decide +kernel
theorem d_B_init_43 : decode b_B_init 43 = .ok (.aload_n 0, 1) := by decide +kernel
theorem d_B_init_44 : decode b_B_init 44 = .ok (.getfield 30, 3) := by decide +kernel
theorem d_B_init_47 : decode b_B_init 47 = .ok (.iconst (-1), 1) := by decide +kernel
theorem d_B_init_48 : decode b_B_init 48 = .ok (.invokestatic 34, 3) := by decide +kernel
theorem d_B_init_51 : decode b_B_init 51 = .ok (.return_, 1) := by decide +kernel
theorem d_B_middleOf_0 : decode b_B_middleOf 0 = .ok (.aload_n 0, 1) := by decide +kernel
theorem d_B_middleOf_1 : decode b_B_middleOf 1 = .ok (.iload_n 1, 1) := by decide +kernel
theorem d_B_middleOf_2 : decode b_B_middleOf 2 = .ok (.invokevirtual 40, 3) := by decide +kernel
theorem d_B_middleOf_5 : decode b_B_middleOf 5 = .ok (.ifCond .ne 5, 3) := by decide +kernel
theorem d_B_middleOf_8 : decode b_B_middleOf 8 = .ok (.iconst (-1), 1) := by decide +kernel
theorem d_B_middleOf_9 : decode b_B_middleOf 9 = .ok (.ireturn, 1) := by decide +kernel
theorem d_B_middleOf_10 : decode b_B_middleOf 10 = .ok (.aload_n 0, 1) := by decide +kernel
theorem d_B_middleOf_11 : decode b_B_middleOf 11 = .ok (.getfield 30, 3) := by decide +kernel
theorem d_B_middleOf_14 : decode b_B_middleOf 14 = .ok (.iload_n 1, 1) := by decide +kernel
theorem d_B_middleOf_15 : decode b_B_middleOf 15 = .ok (.iconst 3, 1) := by decide +kernel
theorem d_B_middleOf_16 : decode b_B_middleOf 16 = .ok (.imul, 1) := by decide +kernel
theorem d_B_middleOf_17 : decode b_B_middleOf 17 = .ok (.iaload, 1) := by decide +kernel
theorem d_B_middleOf_18 : decode b_B_middleOf 18 = .ok (.istore_n 2, 1) := by decide +kernel
theorem d_B_middleOf_19 : decode b_B_middleOf 19 = .ok (.aload_n 0, 1) := by decide +kernel
theorem d_B_middleOf_20 : decode b_B_middleOf 20 = .ok (.getfield 30, 3) := by decide +kernel
theorem d_B_middleOf_23 : decode b_B_middleOf 23 = .ok (.iload_n 1, 1) := by decide +kernel
theorem d_B_middleOf_24 : decode b_B_middleOf 24 = .ok (.iconst 3, 1) := by decide +kernel
theorem d_B_middleOf_25 : decode b_B_middleOf 25 = .ok (.imul, 1) := by decide +kernel
theorem d_B_middleOf_26 : decode b_B_middleOf 26 = .ok (.iconst 1, 1) := by decide +kernel
theorem d_B_middleOf_27 : decode b_B_middleOf 27 = .ok (.iadd, 1) := by decide +kernel
theorem d_B_middleOf_28 : decode b_B_middleOf 28 = .ok (.iaload, 1) := by decide +kernel
theorem d_B_middleOf_29 : decode b_B_middleOf 29 = .ok (.istore_n 3, 1) := by decide +kernel
theorem d_B_middleOf_30 : decode b_B_middleOf 30 = .ok (.aload_n 0, 1) := by decide +kernel
theorem d_B_middleOf_31 : decode b_B_middleOf 31 = .ok (.getfield 30, 3) := by decide +kernel
theorem d_B_middleOf_34 : decode b_B_middleOf 34 = .ok (.iload_n 1, 1) := by decide +kernel
theorem d_B_middleOf_35 : decode b_B_middleOf 35 = .ok (.iconst 3, 1) := by decide +kernel
theorem d_B_middleOf_36 : decode b_B_middleOf 36 = .ok (.imul, 1) := by decide +kernel
theorem d_B_middleOf_37 : decode b_B_middleOf 37 = .ok (.iconst 2, 1) := by decide +kernel
theorem d_B_middleOf_38 : decode b_B_middleOf 38 = .ok (.iadd, 1) := by decide +kernel
theorem d_B_middleOf_39 : decode b_B_middleOf 39 = .ok (.iaload, 1) := by decide +kernel
theorem d_B_middleOf_40 : decode b_B_middleOf 40 = .ok (.istore 4, 2) := by decide +kernel
theorem d_B_middleOf_42 : decode b_B_middleOf 42 = .ok (.iload_n 2, 1) := by decide +kernel
theorem d_B_middleOf_43 : decode b_B_middleOf 43 = .ok (.iload_n 3, 1) := by decide +kernel
theorem d_B_middleOf_44 : decode b_B_middleOf 44 = .ok (.invokestatic 44, 3) := by decide +kernel
theorem d_B_middleOf_47 : decode b_B_middleOf 47 = .ok (.iload_n 2, 1) := by decide +kernel
theorem d_B_middleOf_48 : decode b_B_middleOf 48 = .ok (.iload_n 3, 1) := by decide +kernel
theorem d_B_middleOf_49 : decode b_B_middleOf 49 = .ok (.invokestatic 50, 3) := by decide +kernel
theorem d_B_middleOf_52 : decode b_B_middleOf 52 = .ok (.iload 4, 2) := by decide +kernel
theorem d_B_middleOf_54 : decode b_B_middleOf 54 = .ok (.invokestatic 44, 3) := by decide +kernel
theorem d_B_middleOf_57 : decode b_B_middleOf 57 = .ok (.invokestatic 50, 3) := by decide +kernel
theorem d_B_middleOf_60 : decode b_B_middleOf 60 = .ok (.ireturn, 1) := by decide +kernel
theorem d_B_spreadOf_0 : decode b_B_spreadOf 0 = .ok (.aload_n 0, 1) := by decide +kernel
theorem d_B_spreadOf_1 : decode b_B_spreadOf 1 = .ok (.iload_n 1, 1) := by decide +kernel
theorem d_B_spreadOf_2 : decode b_B_spreadOf 2 = .ok (.invokevirtual 40, 3) := by decide +kernel
theorem d_B_spreadOf_5 : decode b_B_spreadOf 5 = .ok (.ifCond .ne 5, 3) := by decide +kernel
theorem d_B_spreadOf_8 : decode b_B_spreadOf 8 = .ok (.iconst (-1), 1) := by decide +kernel
theorem d_B_spreadOf_9 : decode b_B_spreadOf 9 = .ok (.ireturn, 1) := by decide +kernel
theorem d_B_spreadOf_10 : decode b_B_spreadOf 10 = .ok (.aload_n 0, 1) := by decide +kernel
theorem d_B_spreadOf_11 : decode b_B_spreadOf 11 = .ok (.getfield 30, 3) := by decide +kernel
theorem d_B_spreadOf_14 : decode b_B_spreadOf 14 = .ok (.iload_n 1, 1) := by decide +kernel
theorem d_B_spreadOf_15 : decode b_B_spreadOf 15 = .ok (.iconst 3, 1) := by decide +kernel
theorem d_B_spreadOf_16 : decode b_B_spreadOf 16 = .ok (.imul, 1) := by decide +kernel
theorem d_B_spreadOf_17 : decode b_B_spreadOf 17 = .ok (.iaload, 1) := by decide +kernel
theorem d_B_spreadOf_18 : decode b_B_spreadOf 18 = .ok (.istore_n 2, 1) := by decide +kernel
theorem d_B_spreadOf_19 : decode b_B_spreadOf 19 = .ok (.aload_n 0, 1) := by decide +kernel
theorem d_B_spreadOf_20 : decode b_B_spreadOf 20 = .ok (.getfield 30, 3) := by decide +kernel
theorem d_B_spreadOf_23 : decode b_B_spreadOf 23 = .ok (.iload_n 1, 1) := by decide +kernel
theorem d_B_spreadOf_24 : decode b_B_spreadOf 24 = .ok (.iconst 3, 1) := by decide +kernel
theorem d_B_spreadOf_25 : decode b_B_spreadOf 25 = .ok (.imul, 1) := by decide +kernel
theorem d_B_spreadOf_26 : decode b_B_spreadOf 26 = .ok (.iconst 1, 1) := by decide +kernel
theorem d_B_spreadOf_27 : decode b_B_spreadOf 27 = .ok (.iadd, 1) := by decide +kernel
theorem d_B_spreadOf_28 : decode b_B_spreadOf 28 = .ok (.iaload, 1) := by decide +kernel
theorem d_B_spreadOf_29 : decode b_B_spreadOf 29 = .ok (.istore_n 3, 1) := by decide +kernel
theorem d_B_spreadOf_30 : decode b_B_spreadOf 30 = .ok (.aload_n 0, 1) := by decide +kernel
theorem d_B_spreadOf_31 : decode b_B_spreadOf 31 = .ok (.getfield 30, 3) := by decide +kernel
theorem d_B_spreadOf_34 : decode b_B_spreadOf 34 = .ok (.iload_n 1, 1) := by decide +kernel
theorem d_B_spreadOf_35 : decode b_B_spreadOf 35 = .ok (.iconst 3, 1) := by decide +kernel
theorem d_B_spreadOf_36 : decode b_B_spreadOf 36 = .ok (.imul, 1) := by decide +kernel
theorem d_B_spreadOf_37 : decode b_B_spreadOf 37 = .ok (.iconst 2, 1) := by decide +kernel
theorem d_B_spreadOf_38 : decode b_B_spreadOf 38 = .ok (.iadd, 1) := by decide +kernel
theorem d_B_spreadOf_39 : decode b_B_spreadOf 39 = .ok (.iaload, 1) := by decide +kernel
theorem d_B_spreadOf_40 : decode b_B_spreadOf 40 = .ok (.istore 4, 2) := by decide +kernel
theorem d_B_spreadOf_42 : decode b_B_spreadOf 42 = .ok (.iload_n 2, 1) := by decide +kernel
theorem d_B_spreadOf_43 : decode b_B_spreadOf 43 = .ok (.iload_n 3, 1) := by decide +kernel
theorem d_B_spreadOf_44 : decode b_B_spreadOf 44 = .ok (.invokestatic 50, 3) := by decide +kernel
theorem d_B_spreadOf_47 : decode b_B_spreadOf 47 = .ok (.iload 4, 2) := by decide +kernel
theorem d_B_spreadOf_49 : decode b_B_spreadOf 49 = .ok (.invokestatic 50, 3) := by decide +kernel
theorem d_B_spreadOf_52 : decode b_B_spreadOf 52 = .ok (.iload_n 2, 1) := by decide +kernel
theorem d_B_spreadOf_53 : decode b_B_spreadOf 53 = .ok (.iload_n 3, 1) := by decide +kernel
theorem d_B_spreadOf_54 : decode b_B_spreadOf 54 = .ok (.invokestatic 44, 3) := by decide +kernel
theorem d_B_spreadOf_57 : decode b_B_spreadOf 57 = .ok (.iload 4, 2) := by decide +kernel
theorem d_B_spreadOf_59 : decode b_B_spreadOf 59 = .ok (.invokestatic 44, 3) := by decide +kernel
theorem d_B_spreadOf_62 : decode b_B_spreadOf 62 = .ok (.isub, 1) := by decide +kernel
theorem d_B_spreadOf_63 : decode b_B_spreadOf 63 = .ok (.ireturn, 1) := by decide +kernel
theorem d_B_hasSpreadAbove_0 : decode b_B_hasSpreadAbove 0 = .ok (.iconst 0, 1) := by decide +kernel
theorem d_B_hasSpreadAbove_1 : decode b_B_hasSpreadAbove 1 = .ok (.istore_n 2, 1) := by decide +kernel
theorem d_B_hasSpreadAbove_2 : decode b_B_hasSpreadAbove 2 = .ok (.iload_n 2, 1) := by decide +kernel
theorem d_B_hasSpreadAbove_3 : decode b_B_hasSpreadAbove 3 = .ok (.iconst 4, 1) := by decide +kernel
theorem d_B_hasSpreadAbove_4 : decode b_B_hasSpreadAbove 4 = .ok (.if_icmp .ge 20, 3) := by decide +kernel
theorem d_B_hasSpreadAbove_7 : decode b_B_hasSpreadAbove 7 = .ok (.aload_n 0, 1) := by decide +kernel
theorem d_B_hasSpreadAbove_8 : decode b_B_hasSpreadAbove 8 = .ok (.iload_n 2, 1) := by decide +kernel
theorem d_B_hasSpreadAbove_9 : decode b_B_hasSpreadAbove 9 = .ok (.invokevirtual 53, 3) := by decide +kernel
theorem d_B_hasSpreadAbove_12 : decode b_B_hasSpreadAbove 12 = .ok (.iload_n 1, 1) := by decide +kernel
theorem d_B_hasSpreadAbove_13 : decode b_B_hasSpreadAbove 13 = .ok (.if_icmp .le 5, 3) := by decide +kernel
theorem d_B_hasSpreadAbove_16 : decode b_B_hasSpreadAbove 16 = .ok (.iconst 1, 1) := by decide +kernel
theorem d_B_hasSpreadAbove_17 : decode b_B_hasSpreadAbove 17 = .ok (.ireturn, 1) := by decide +kernel
theorem d_B_hasSpreadAbove_18 : decode b_B_hasSpreadAbove 18 = .ok (.iinc 2 1, 3) := by decide +kernel
theorem d_B_hasSpreadAbove_21 : decode b_B_hasSpreadAbove 21 = .ok (.goto (-19), 3) := by decide +kernel
theorem d_B_hasSpreadAbove_24 : decode b_B_hasSpreadAbove 24 = .ok (.iconst 0, 1) := by decide +kernel
theorem d_B_hasSpreadAbove_25 : decode b_B_hasSpreadAbove 25 = .ok (.ireturn, 1) := by decide +kernel
theorem d_B_allTold_0 : decode b_B_allTold 0 = .ok (.iload_n 1, 1) := by decide +kernel
theorem d_B_allTold_1 : decode b_B_allTold 1 = .ok (.invokestatic 57, 3) := by decide +kernel
theorem d_B_allTold_4 : decode b_B_allTold 4 = .ok (.ifCond .ne 5, 3) := by decide +kernel
theorem d_B_allTold_7 : decode b_B_allTold 7 = .ok (.iconst 0, 1) := by decide +kernel
theorem d_B_allTold_8 : decode b_B_allTold 8 = .ok (.ireturn, 1) := by decide +kernel
theorem d_B_allTold_9 : decode b_B_allTold 9 = .ok (.iconst 0, 1) := by decide +kernel
theorem d_B_allTold_10 : decode b_B_allTold 10 = .ok (.istore_n 2, 1) := by decide +kernel
theorem d_B_allTold_11 : decode b_B_allTold 11 = .ok (.iload_n 2, 1) := by decide +kernel
theorem d_B_allTold_12 : decode b_B_allTold 12 = .ok (.iconst 3, 1) := by decide +kernel
theorem d_B_allTold_13 : decode b_B_allTold 13 = .ok (.if_icmp .ge 25, 3) := by decide +kernel
theorem d_B_allTold_16 : decode b_B_allTold 16 = .ok (.aload_n 0, 1) := by decide +kernel
theorem d_B_allTold_17 : decode b_B_allTold 17 = .ok (.getfield 30, 3) := by decide +kernel
theorem d_B_allTold_20 : decode b_B_allTold 20 = .ok (.iload_n 1, 1) := by decide +kernel
theorem d_B_allTold_21 : decode b_B_allTold 21 = .ok (.iconst 3, 1) := by decide +kernel
theorem d_B_allTold_22 : decode b_B_allTold 22 = .ok (.imul, 1) := by decide +kernel
theorem d_B_allTold_23 : decode b_B_allTold 23 = .ok (.iload_n 2, 1) := by decide +kernel
theorem d_B_allTold_24 : decode b_B_allTold 24 = .ok (.iadd, 1) := by decide +kernel
theorem d_B_allTold_25 : decode b_B_allTold 25 = .ok (.iaload, 1) := by decide +kernel
theorem d_B_allTold_26 : decode b_B_allTold 26 = .ok (.iconst (-1), 1) := by decide +kernel
theorem d_B_allTold_27 : decode b_B_allTold 27 = .ok (.if_icmp .ne 5, 3) := by decide +kernel
theorem d_B_allTold_30 : decode b_B_allTold 30 = .ok (.iconst 0, 1) := by decide +kernel
theorem d_B_allTold_31 : decode b_B_allTold 31 = .ok (.ireturn, 1) := by decide +kernel
theorem d_B_allTold_32 : decode b_B_allTold 32 = .ok (.iinc 2 1, 3) := by decide +kernel
theorem d_B_allTold_35 : decode b_B_allTold 35 = .ok (.goto (-24), 3) := by decide +kernel
theorem d_B_allTold_38 : decode b_B_allTold 38 = .ok (.iconst 1, 1) := by decide +kernel
theorem d_B_allTold_39 : decode b_B_allTold 39 = .ok (.ireturn, 1) := by decide +kernel
end
section
theorem d_P_init_0 : decode b_P_init 0 = .ok (.aload_n 0, 1) := by decide +kernel
theorem d_P_init_1 : decode b_P_init 1 = .ok (.invokespecial 3, 3) := by decide +kernel
theorem d_P_init_4 : decode b_P_init 4 = .ok (.aload_n 0, 1) := by decide +kernel
theorem d_P_init_5 : decode b_P_init 5 = .ok (.iconst 4, 1) := by decide +kernel
theorem d_P_init_6 : decode b_P_init 6 = .ok (.newarray .int, 2) := by decide +kernel
theorem d_P_init_8 : decode b_P_init 8 = .ok (.putfield 9, 3) := by decide +kernel
theorem d_P_init_11 : decode b_P_init 11 = .ok (.aload_n 0, 1) := by decide +kernel
theorem d_P_init_12 : decode b_P_init 12 = .ok (.bipush 24, 2) := by decide +kernel
theorem d_P_init_14 : decode b_P_init 14 = .ok (.newarray .int, 2) := by decide +kernel
theorem d_P_init_16 : decode b_P_init 16 = .ok (.putfield 15, 3) := by decide +kernel
theorem d_P_init_19 : decode b_P_init 19 = .ok (.aload_n 0, 1) := by decide +kernel
theorem d_P_init_20 : decode b_P_init 20 = .ok (.bipush 24, 2) := by decide +kernel
theorem d_P_init_22 : decode b_P_init 22 = .ok (.newarray .long, 2) := by decide +kernel
theorem d_P_init_24 : decode b_P_init 24 = .ok (.putfield 18, 3) := by decide +kernel
theorem d_P_init_27 : decode b_P_init 27 = .ok (.return_, 1) := by decide +kernel
theorem d_P_append_0 : decode b_P_append 0 = .ok (.aload_n 0, 1) := by decide +kernel
theorem d_P_append_1 : decode b_P_append 1 = .ok (.iload_n 1, 1) := by decide +kernel
theorem d_P_append_2 : decode b_P_append 2 = .ok (.invokevirtual 22, 3) := by decide +kernel
theorem d_P_append_5 : decode b_P_append 5 = .ok (.istore 5, 2) := by decide +kernel
theorem d_P_append_7 : decode b_P_append 7 = .ok (.iload_n 1, 1) := by decide +kernel
theorem d_P_append_8 : decode b_P_append 8 = .ok (.invokestatic 26, 3) := by decide +kernel
theorem d_P_append_11 : decode b_P_append 11 = .ok (.ifCond .eq 10, 3) := by decide +kernel
theorem d_P_append_14 : decode b_P_append 14 = .ok (.iload 5, 2) := by decide +kernel
theorem d_P_append_16 : decode b_P_append 16 = .ok (.bipush 6, 2) := by decide +kernel
theorem d_P_append_18 : decode b_P_append 18 = .ok (.if_icmp .lt 5, 3) := by decide +kernel
theorem d_P_append_21 : decode b_P_append 21 = .ok (.iconst 0, 1) := by decide +kernel
theorem d_P_append_22 : decode b_P_append 22 = .ok (.ireturn, 1) := by decide +kernel
theorem d_P_append_23 : decode b_P_append 23 = .ok (.iload_n 1, 1) := by decide +kernel
theorem d_P_append_24 : decode b_P_append 24 = .ok (.bipush 6, 2) := by decide +kernel
theorem d_P_append_26 : decode b_P_append 26 = .ok (.imul, 1) := by decide +kernel
theorem d_P_append_27 : decode b_P_append 27 = .ok (.iload 5, 2) := by decide +kernel
theorem d_P_append_29 : decode b_P_append 29 = .ok (.iadd, 1) := by decide +kernel
theorem d_P_append_30 : decode b_P_append 30 = .ok (.istore 6, 2) := by decide +kernel
theorem d_P_append_32 : decode b_P_append 32 = .ok (.iload 5, 2) := by decide +kernel
theorem d_P_append_34 : decode b_P_append 34 = .ok (.ifCond .le 18, 3) := by decide +kernel
theorem d_P_append_37 : decode b_P_append 37 = .ok (.iload_n 2, 1) := by decide +kernel
theorem d_P_append_38 : decode b_P_append 38 = .ok (.aload_n 0, 1) := by decide +kernel
theorem d_P_append_39 : decode b_P_append 39 = .ok (.getfield 15, 3) := by decide +kernel
theorem d_P_append_42 : decode b_P_append 42 = .ok (.iload 6, 2) := by decide +kernel
theorem d_P_append_44 : decode b_P_append 44 = .ok (.iconst 1, 1) := by decide +kernel
theorem d_P_append_45 : decode b_P_append 45 = .ok (.isub, 1) := by decide +kernel
theorem d_P_append_46 : decode b_P_append 46 = .ok (.iaload, 1) := by decide +kernel
theorem d_P_append_47 : decode b_P_append 47 = .ok (.if_icmp .gt 5, 3) := by decide +kernel
theorem d_P_append_50 : decode b_P_append 50 = .ok (.iconst 0, 1) := by decide +kernel
theorem d_P_append_51 : decode b_P_append 51 = .ok (.ireturn, 1) := by decide +kernel
theorem d_P_append_52 : decode b_P_append 52 = .ok (.aload_n 0, 1) := by decide +kernel
theorem d_P_append_53 : decode b_P_append 53 = .ok (.getfield 15, 3) := by decide +kernel
theorem d_P_append_56 : decode b_P_append 56 = .ok (.iload 6, 2) := by decide +kernel
theorem d_P_append_58 : decode b_P_append 58 = .ok (.iload_n 2, 1) := by decide +kernel
theorem d_P_append_59 : decode b_P_append 59 = .ok (.iastore, 1) := by decide +kernel
theorem d_P_append_60 : decode b_P_append 60 = .ok (.aload_n 0, 1) := by decide +kernel
theorem d_P_append_61 : decode b_P_append 61 = .ok (.getfield 18, 3) := by decide +kernel
theorem d_P_append_64 : decode b_P_append 64 = .ok (.iload 6, 2) := by decide +kernel
theorem d_P_append_66 : decode b_P_append 66 = .ok (.lload_n 3, 1) := by decide +kernel
theorem d_P_append_67 : decode b_P_append 67 = .ok (.lastore, 1) := by decide +kernel
theorem d_P_append_68 : decode b_P_append 68 = .ok (.aload_n 0, 1) := by decide +kernel
theorem d_P_append_69 : decode b_P_append 69 = .ok (.getfield 9, 3) := by decide +kernel
theorem d_P_append_72 : decode b_P_append 72 = .ok (.iload_n 1, 1) := by decide +kernel
theorem d_P_append_73 : decode b_P_append 73 = .ok (.iload 5, 2) := by decide +kernel
theorem d_P_append_75 : decode b_P_append 75 = .ok (.iconst 1, 1) := by decide +kernel
theorem d_P_append_76 : decode b_P_append 76 = .ok (.iadd, 1) := by decide +kernel
theorem d_P_append_77 : decode b_P_append 77 = .ok (.iastore, 1) := by decide +kernel
theorem d_P_append_78 : decode b_P_append 78 = .ok (.iconst 1, 1) := by decide +kernel
theorem d_P_append_79 : decode b_P_append 79 = .ok (.ireturn, 1) := by decide +kernel
theorem d_P_centsFor_0 : decode b_P_centsFor 0 = .ok (.lconst 0, 1) := by decide +kernel
theorem d_P_centsFor_1 : decode b_P_centsFor 1 = .ok (.lstore_n 3, 1) := by decide +kernel
theorem d_P_centsFor_2 : decode b_P_centsFor 2 = .ok (.lconst 0, 1) := by decide +kernel
theorem d_P_centsFor_3 : decode b_P_centsFor 3 = .ok (.lstore 5, 2) := by decide +kernel
theorem d_P_centsFor_5 : decode b_P_centsFor 5 = .ok (.iconst 0, 1) := by decide +kernel
theorem d_P_centsFor_6 : decode b_P_centsFor 6 = .ok (.istore 7, 2) := by decide +kernel
theorem d_P_centsFor_8 : decode b_P_centsFor 8 = .ok (.iload 7, 2) := by decide +kernel
theorem d_P_centsFor_10 : decode b_P_centsFor 10 = .ok (.iconst 4, 1) := by decide +kernel
theorem d_P_centsFor_11 : decode b_P_centsFor 11 = .ok (.if_icmp .ge 55, 3) := by decide +kernel
theorem d_P_centsFor_14 : decode b_P_centsFor 14 = .ok (.iload 7, 2) := by decide +kernel
theorem d_P_centsFor_16 : decode b_P_centsFor 16 = .ok (.aload_n 1, 1) := by decide +kernel
theorem d_P_centsFor_17 : decode b_P_centsFor 17 = .ok (.arraylength, 1) := by decide +kernel
theorem d_P_centsFor_18 : decode b_P_centsFor 18 = .ok (.if_icmp .ge 48, 3) := by decide +kernel
theorem d_P_centsFor_21 : decode b_P_centsFor 21 = .ok (.aload_n 0, 1) := by decide +kernel
theorem d_P_centsFor_22 : decode b_P_centsFor 22 = .ok (.iload 7, 2) := by decide +kernel
theorem d_P_centsFor_24 : decode b_P_centsFor 24 = .ok (.iload_n 2, 1) := by decide +kernel
theorem d_P_centsFor_25 : decode b_P_centsFor 25 = .ok (.invokevirtual 30, 3) := by decide +kernel
theorem d_P_centsFor_28 : decode b_P_centsFor 28 = .ok (.lstore 8, 2) := by decide +kernel
theorem d_P_centsFor_30 : decode b_P_centsFor 30 = .ok (.lload_n 3, 1) := by decide +kernel
theorem d_P_centsFor_31 : decode b_P_centsFor 31 = .ok (.aload_n 1, 1) := by decide +kernel
theorem d_P_centsFor_32 : decode b_P_centsFor 32 = .ok (.iload 7, 2) := by decide +kernel
theorem d_P_centsFor_34 : decode b_P_centsFor 34 = .ok (.laload, 1) := by decide +kernel
theorem d_P_centsFor_35 : decode b_P_centsFor 35 = .ok (.ldc2_w 34, 3) := by decide +kernel
theorem d_P_centsFor_38 : decode b_P_centsFor 38 = .ok (.ldiv, 1) := by decide +kernel
theorem d_P_centsFor_39 : decode b_P_centsFor 39 = .ok (.lload 8, 2) := by decide +kernel
theorem d_P_centsFor_41 : decode b_P_centsFor 41 = .ok (.lmul, 1) := by decide +kernel
theorem d_P_centsFor_42 : decode b_P_centsFor 42 = .ok (.ladd, 1) := by decide +kernel
theorem d_P_centsFor_43 : decode b_P_centsFor 43 = .ok (.lstore_n 3, 1) := by decide +kernel
theorem d_P_centsFor_44 : decode b_P_centsFor 44 = .ok (.lload 5, 2) := by decide +kernel
theorem d_P_centsFor_46 : decode b_P_centsFor 46 = .ok (.aload_n 1, 1) := by decide +kernel
theorem d_P_centsFor_47 : decode b_P_centsFor 47 = .ok (.iload 7, 2) := by decide +kernel
theorem d_P_centsFor_49 : decode b_P_centsFor 49 = .ok (.laload, 1) := by decide +kernel
theorem d_P_centsFor_50 : decode b_P_centsFor 50 = .ok (.ldc2_w 34, 3) := by decide +kernel
theorem d_P_centsFor_53 : decode b_P_centsFor 53 = .ok (.lrem, 1) := by decide +kernel
theorem d_P_centsFor_54 : decode b_P_centsFor 54 = .ok (.lload 8, 2) := by decide +kernel
theorem d_P_centsFor_56 : decode b_P_centsFor 56 = .ok (.lmul, 1) := by decide +kernel
theorem d_P_centsFor_57 : decode b_P_centsFor 57 = .ok (.ladd, 1) := by decide +kernel
theorem d_P_centsFor_58 : decode b_P_centsFor 58 = .ok (.lstore 5, 2) := by decide +kernel
theorem d_P_centsFor_60 : decode b_P_centsFor 60 = .ok (.iinc 7 1, 3) := by decide +kernel
theorem d_P_centsFor_63 : decode b_P_centsFor 63 = .ok (.goto (-55), 3) := by decide +kernel
theorem d_P_centsFor_66 : decode b_P_centsFor 66 = .ok (.lload_n 3, 1) := by decide +kernel
theorem d_P_centsFor_67 : decode b_P_centsFor 67 = .ok (.lload 5, 2) := by decide +kernel
theorem d_P_centsFor_69 : decode b_P_centsFor 69 = .ok (.ldc2_w 34, 3) := by decide +kernel
theorem d_P_centsFor_72 : decode b_P_centsFor 72 = .ok (.ldiv, 1) := by decide +kernel
theorem d_P_centsFor_73 : decode b_P_centsFor 73 = .ok (.ladd, 1) := by decide +kernel
theorem d_P_centsFor_74 : decode b_P_centsFor 74 = .ok (.lreturn, 1) := by decide +kernel
theorem d_P_centsOn_0 : decode b_P_centsOn 0 = .ok (.lconst 0, 1) := by decide +kernel
theorem d_P_centsOn_1 : decode b_P_centsOn 1 = .ok (.lstore_n 3, 1) := by decide +kernel
theorem d_P_centsOn_2 : decode b_P_centsOn 2 = .ok (.aload_n 0, 1) := by decide +kernel
theorem d_P_centsOn_3 : decode b_P_centsOn 3 = .ok (.iload_n 1, 1) := by decide +kernel
theorem d_P_centsOn_4 : decode b_P_centsOn 4 = .ok (.invokevirtual 22, 3) := by decide +kernel
theorem d_P_centsOn_7 : decode b_P_centsOn 7 = .ok (.istore 5, 2) := by decide +kernel
theorem d_P_centsOn_9 : decode b_P_centsOn 9 = .ok (.iconst 0, 1) := by decide +kernel
theorem d_P_centsOn_10 : decode b_P_centsOn 10 = .ok (.istore 6, 2) := by decide +kernel
theorem d_P_centsOn_12 : decode b_P_centsOn 12 = .ok (.iload 6, 2) := by decide +kernel
theorem d_P_centsOn_14 : decode b_P_centsOn 14 = .ok (.iload 5, 2) := by decide +kernel
theorem d_P_centsOn_16 : decode b_P_centsOn 16 = .ok (.if_icmp .ge 37, 3) := by decide +kernel
theorem d_P_centsOn_19 : decode b_P_centsOn 19 = .ok (.iload_n 1, 1) := by decide +kernel
theorem d_P_centsOn_20 : decode b_P_centsOn 20 = .ok (.bipush 6, 2) := by decide +kernel
theorem d_P_centsOn_22 : decode b_P_centsOn 22 = .ok (.imul, 1) := by decide +kernel
theorem d_P_centsOn_23 : decode b_P_centsOn 23 = .ok (.iload 6, 2) := by decide +kernel
theorem d_P_centsOn_25 : decode b_P_centsOn 25 = .ok (.iadd, 1) := by decide +kernel
theorem d_P_centsOn_26 : decode b_P_centsOn 26 = .ok (.istore 7, 2) := by decide +kernel
theorem d_P_centsOn_28 : decode b_P_centsOn 28 = .ok (.aload_n 0, 1) := by decide +kernel
theorem d_P_centsOn_29 : decode b_P_centsOn 29 = .ok (.getfield 15, 3) := by decide +kernel
theorem d_P_centsOn_32 : decode b_P_centsOn 32 = .ok (.iload 7, 2) := by decide +kernel
theorem d_P_centsOn_34 : decode b_P_centsOn 34 = .ok (.iaload, 1) := by decide +kernel
theorem d_P_centsOn_35 : decode b_P_centsOn 35 = .ok (.iload_n 2, 1) := by decide +kernel
theorem d_P_centsOn_36 : decode b_P_centsOn 36 = .ok (.if_icmp .gt 11, 3) := by decide +kernel
theorem d_P_centsOn_39 : decode b_P_centsOn 39 = .ok (.aload_n 0, 1) := by decide +kernel
theorem d_P_centsOn_40 : decode b_P_centsOn 40 = .ok (.getfield 18, 3) := by decide +kernel
theorem d_P_centsOn_43 : decode b_P_centsOn 43 = .ok (.iload 7, 2) := by decide +kernel
theorem d_P_centsOn_45 : decode b_P_centsOn 45 = .ok (.laload, 1) := by decide +kernel
theorem d_P_centsOn_46 : decode b_P_centsOn 46 = .ok (.lstore_n 3, 1) := by decide +kernel
theorem d_P_centsOn_47 : decode b_P_centsOn 47 = .ok (.iinc 6 1, 3) := by decide +kernel
theorem d_P_centsOn_50 : decode b_P_centsOn 50 = .ok (.goto (-38), 3) := by decide +kernel
theorem d_P_centsOn_53 : decode b_P_centsOn 53 = .ok (.lload_n 3, 1) := by decide +kernel
theorem d_P_centsOn_54 : decode b_P_centsOn 54 = .ok (.lreturn, 1) := by decide +kernel
theorem d_P_countOf_0 : decode b_P_countOf 0 = .ok (.iload_n 1, 1) := by decide +kernel
theorem d_P_countOf_1 : decode b_P_countOf 1 = .ok (.invokestatic 26, 3) := by decide +kernel
theorem d_P_countOf_4 : decode b_P_countOf 4 = .ok (.ifCond .eq 12, 3) := by decide +kernel
theorem d_P_countOf_7 : decode b_P_countOf 7 = .ok (.aload_n 0, 1) := by decide +kernel
theorem d_P_countOf_8 : decode b_P_countOf 8 = .ok (.getfield 9, 3) := by decide +kernel
theorem d_P_countOf_11 : decode b_P_countOf 11 = .ok (.iload_n 1, 1) := by decide +kernel
theorem d_P_countOf_12 : decode b_P_countOf 12 = .ok (.iaload, 1) := by decide +kernel
theorem d_P_countOf_13 : decode b_P_countOf 13 = .ok (.goto 4, 3) := by decide +kernel
theorem d_P_countOf_16 : decode b_P_countOf 16 = .ok (.iconst 0, 1) := by decide +kernel
theorem d_P_countOf_17 : decode b_P_countOf 17 = .ok (.ireturn, 1) := by decide +kernel
end
section
theorem d_R_init_0 : decode b_R_init 0 = .ok (.aload_n 0, 1) := by decide +kernel
theorem d_R_init_1 : decode b_R_init 1 = .ok (.invokespecial 3, 3) := by decide +kernel
theorem d_R_init_4 : decode b_R_init 4 = .ok (.aload_n 0, 1) := by decide +kernel
theorem d_R_init_5 : decode b_R_init 5 = .ok (.iload_n 1, 1) := by decide +kernel
theorem d_R_init_6 : decode b_R_init 6 = .ok (.putfield 9, 3) := by decide +kernel
theorem d_R_init_9 : decode b_R_init 9 = .ok (.aload_n 0, 1) := by decide +kernel
theorem d_R_init_10 : decode b_R_init 10 = .ok (.iload_n 2, 1) := by decide +kernel
theorem d_R_init_11 : decode b_R_init 11 = .ok (.putfield 15, 3) := by decide +kernel
theorem d_R_init_14 : decode b_R_init 14 = .ok (.aload_n 0, 1) := by decide +kernel
theorem d_R_init_15 : decode b_R_init 15 = .ok (.iload_n 3, 1) := by decide +kernel
theorem d_R_init_16 : decode b_R_init 16 = .ok (.putfield 18, 3) := by decide +kernel
theorem d_R_init_19 : decode b_R_init 19 = .ok (.aload_n 0, 1) := by decide +kernel
theorem d_R_init_20 : decode b_R_init 20 = .ok (.iload 4, 2) := by decide +kernel
theorem d_R_init_22 : decode b_R_init 22 = .ok (.putfield 21, 3) := by decide +kernel
theorem d_R_init_25 : decode b_R_init 25 = .ok (.return_, 1) := by decide +kernel
theorem d_R_fits_0 : decode b_R_fits 0 = .ok (.aload_n 1, 1) := by decide +kernel
theorem d_R_fits_1 : decode b_R_fits 1 = .ok (.aload_n 0, 1) := by decide +kernel
theorem d_R_fits_2 : decode b_R_fits 2 = .ok (.getfield 15, 3) := by decide +kernel
theorem d_R_fits_5 : decode b_R_fits 5 = .ok (.invokevirtual 24, 3) := by decide +kernel
theorem d_R_fits_8 : decode b_R_fits 8 = .ok (.istore 4, 2) := by decide +kernel
theorem d_R_fits_10 : decode b_R_fits 10 = .ok (.iload 4, 2) := by decide +kernel
theorem d_R_fits_12 : decode b_R_fits 12 = .ok (.iconst (-1), 1) := by decide +kernel
theorem d_R_fits_13 : decode b_R_fits 13 = .ok (.if_icmp .eq 41, 3) := by decide +kernel
theorem d_R_fits_16 : decode b_R_fits 16 = .ok (.iload 4, 2) := by decide +kernel
theorem d_R_fits_18 : decode b_R_fits 18 = .ok (.aload_n 0, 1) := by decide +kernel
theorem d_R_fits_19 : decode b_R_fits 19 = .ok (.getfield 18, 3) := by decide +kernel
theorem d_R_fits_22 : decode b_R_fits 22 = .ok (.if_icmp .gt 32, 3) := by decide +kernel
theorem d_R_fits_25 : decode b_R_fits 25 = .ok (.aload_n 1, 1) := by decide +kernel
theorem d_R_fits_26 : decode b_R_fits 26 = .ok (.aload_n 0, 1) := by decide +kernel
theorem d_R_fits_27 : decode b_R_fits 27 = .ok (.getfield 15, 3) := by decide +kernel
theorem d_R_fits_30 : decode b_R_fits 30 = .ok (.invokevirtual 30, 3) := by decide +kernel
theorem d_R_fits_33 : decode b_R_fits 33 = .ok (.iload_n 3, 1) := by decide +kernel
theorem d_R_fits_34 : decode b_R_fits 34 = .ok (.if_icmp .gt 20, 3) := by decide +kernel
theorem d_R_fits_37 : decode b_R_fits 37 = .ok (.aload_n 0, 1) := by decide +kernel
theorem d_R_fits_38 : decode b_R_fits 38 = .ok (.getfield 21, 3) := by decide +kernel
theorem d_R_fits_41 : decode b_R_fits 41 = .ok (.iload_n 2, 1) := by decide +kernel
theorem d_R_fits_42 : decode b_R_fits 42 = .ok (.aload_n 1, 1) := by decide +kernel
theorem d_R_fits_43 : decode b_R_fits 43 = .ok (.getfield 33, 3) := by decide +kernel
theorem d_R_fits_46 : decode b_R_fits 46 = .ok (.isub, 1) := by decide +kernel
theorem d_R_fits_47 : decode b_R_fits 47 = .ok (.if_icmp .gt 7, 3) := by decide +kernel
theorem d_R_fits_50 : decode b_R_fits 50 = .ok (.iconst 1, 1) := by decide +kernel
theorem d_R_fits_51 : decode b_R_fits 51 = .ok (.goto 4, 3) := by decide +kernel
theorem d_R_fits_54 : decode b_R_fits 54 = .ok (.iconst 0, 1) := by decide +kernel
theorem d_R_fits_55 : decode b_R_fits 55 = .ok (.ireturn, 1) := by decide +kernel
end
section
theorem d_S_init_0 : decode b_S_init 0 = .ok (.aload_n 0, 1) := by decide +kernel
theorem d_S_init_1 : decode b_S_init 1 = .ok (.invokespecial 3, 3) := by decide +kernel
theorem d_S_init_4 : decode b_S_init 4 = .ok (.aload_n 0, 1) := by decide +kernel
theorem d_S_init_5 : decode b_S_init 5 = .ok (.iload_n 1, 1) := by decide +kernel
theorem d_S_init_6 : decode b_S_init 6 = .ok (.putfield 9, 3) := by decide +kernel
theorem d_S_init_9 : decode b_S_init 9 = .ok (.aload_n 0, 1) := by decide +kernel
theorem d_S_init_10 : decode b_S_init 10 = .ok (.iload_n 2, 1) := by decide +kernel
theorem d_S_init_11 : decode b_S_init 11 = .ok (.putfield 15, 3) := by decide +kernel
theorem d_S_init_14 : decode b_S_init 14 = .ok (.aload_n 0, 1) := by decide +kernel
theorem d_S_init_15 : decode b_S_init 15 = .ok (.iload_n 3, 1) := by decide +kernel
theorem d_S_init_16 : decode b_S_init 16 = .ok (.putfield 18, 3) := by decide +kernel
theorem d_S_init_19 : decode b_S_init 19 = .ok (.aload_n 0, 1) := by decide +kernel
theorem d_S_init_20 : decode b_S_init 20 = .ok (.iconst 4, 1) := by decide +kernel
theorem d_S_init_21 : decode b_S_init 21 = .ok (.newarray .long, 2) := by decide +kernel
theorem d_S_init_23 : decode b_S_init 23 = .ok (.putfield 21, 3) := by decide +kernel
theorem d_S_init_26 : decode b_S_init 26 = .ok (.return_, 1) := by decide +kernel
theorem d_S_thousandthsOf_0 : decode b_S_thousandthsOf 0 = .ok (.iload_n 1, 1) := by decide +kernel
theorem d_S_thousandthsOf_1 : decode b_S_thousandthsOf 1 = .ok (.aload_n 0, 1) := by decide +kernel
theorem d_S_thousandthsOf_2 : decode b_S_thousandthsOf 2 = .ok (.getfield 9, 3) := by decide +kernel
theorem d_S_thousandthsOf_5 : decode b_S_thousandthsOf 5 = .ok (.if_icmp .ne 10, 3) := by decide +kernel
theorem d_S_thousandthsOf_8 : decode b_S_thousandthsOf 8 = .ok (.aload_n 0, 1) := by decide +kernel
theorem d_S_thousandthsOf_9 : decode b_S_thousandthsOf 9 = .ok (.getfield 15, 3) := by decide +kernel
theorem d_S_thousandthsOf_12 : decode b_S_thousandthsOf 12 = .ok (.goto 7, 3) := by decide +kernel
theorem d_S_thousandthsOf_15 : decode b_S_thousandthsOf 15 = .ok (.aload_n 0, 1) := by decide +kernel
theorem d_S_thousandthsOf_16 : decode b_S_thousandthsOf 16 = .ok (.getfield 18, 3) := by decide +kernel
theorem d_S_thousandthsOf_19 : decode b_S_thousandthsOf 19 = .ok (.ireturn, 1) := by decide +kernel
end
section
theorem d_L_law_0 : decode b_L_law 0 = .ok (.new 7, 3) := by decide +kernel
theorem d_L_law_3 : decode b_L_law 3 = .ok (.dup, 1) := by decide +kernel
theorem d_L_law_4 : decode b_L_law 4 = .ok (.invokespecial 9, 3) := by decide +kernel
theorem d_L_law_7 : decode b_L_law 7 = .ok (.astore_n 1, 1) := by decide +kernel
theorem d_L_law_8 : decode b_L_law 8 = .ok (.new 10, 3) := by decide +kernel
theorem d_L_law_11 : decode b_L_law 11 = .ok (.dup, 1) := by decide +kernel
theorem d_L_law_12 : decode b_L_law 12 = .ok (.invokespecial 12, 3) := by decide +kernel
theorem d_L_law_15 : decode b_L_law 15 = .ok (.astore_n 2, 1) := by decide +kernel
theorem d_L_law_16 : decode b_L_law 16 = .ok (.iconst 0, 1) := by decide +kernel
theorem d_L_law_17 : decode b_L_law 17 = .ok (.istore_n 3, 1) := by decide +kernel
theorem d_L_law_18 : decode b_L_law 18 = .ok (.iload_n 3, 1) := by decide +kernel
theorem d_L_law_19 : decode b_L_law 19 = .ok (.aload_n 0, 1) := by decide +kernel
theorem d_L_law_20 : decode b_L_law 20 = .ok (.arraylength, 1) := by decide +kernel
theorem d_L_law_21 : decode b_L_law 21 = .ok (.iconst 5, 1) := by decide +kernel
theorem d_L_law_22 : decode b_L_law 22 = .ok (.isub, 1) := by decide +kernel
theorem d_L_law_23 : decode b_L_law 23 = .ok (.if_icmp .gt 855, 3) := by decide +kernel
theorem d_L_law_26 : decode b_L_law 26 = .ok (.aload_n 0, 1) := by decide +kernel
theorem d_L_law_27 : decode b_L_law 27 = .ok (.iload_n 3, 1) := by decide +kernel
theorem d_L_law_28 : decode b_L_law 28 = .ok (.iaload, 1) := by decide +kernel
theorem d_L_law_29 : decode b_L_law 29 = .ok (.bipush 31, 2) := by decide +kernel
theorem d_L_law_31 : decode b_L_law 31 = .ok (.iand, 1) := by decide +kernel
theorem d_L_law_132 : decode b_L_law 132 = .ok (.aload_n 1, 1) := by decide +kernel
theorem d_L_law_133 : decode b_L_law 133 = .ok (.aload_n 0, 1) := by decide +kernel
theorem d_L_law_134 : decode b_L_law 134 = .ok (.iload_n 3, 1) := by decide +kernel
theorem d_L_law_135 : decode b_L_law 135 = .ok (.iconst 1, 1) := by decide +kernel
theorem d_L_law_136 : decode b_L_law 136 = .ok (.iadd, 1) := by decide +kernel
theorem d_L_law_137 : decode b_L_law 137 = .ok (.iaload, 1) := by decide +kernel
theorem d_L_law_138 : decode b_L_law 138 = .ok (.i2l, 1) := by decide +kernel
theorem d_L_law_139 : decode b_L_law 139 = .ok (.bipush 32, 2) := by decide +kernel
theorem d_L_law_141 : decode b_L_law 141 = .ok (.lshl, 1) := by decide +kernel
theorem d_L_law_142 : decode b_L_law 142 = .ok (.aload_n 0, 1) := by decide +kernel
theorem d_L_law_143 : decode b_L_law 143 = .ok (.iload_n 3, 1) := by decide +kernel
theorem d_L_law_144 : decode b_L_law 144 = .ok (.iconst 2, 1) := by decide +kernel
theorem d_L_law_145 : decode b_L_law 145 = .ok (.iadd, 1) := by decide +kernel
theorem d_L_law_146 : decode b_L_law 146 = .ok (.iaload, 1) := by decide +kernel
theorem d_L_law_147 : decode b_L_law 147 = .ok (.i2l, 1) := by decide +kernel
theorem d_L_law_148 : decode b_L_law 148 = .ok (.ldc2_w 13, 3) := by decide +kernel
theorem d_L_law_151 : decode b_L_law 151 = .ok (.land, 1) := by decide +kernel
theorem d_L_law_152 : decode b_L_law 152 = .ok (.lor, 1) := by decide +kernel
theorem d_L_law_153 : decode b_L_law 153 = .ok (.invokevirtual 15, 3) := by decide +kernel
theorem d_L_law_156 : decode b_L_law 156 = .ok (.aload_n 2, 1) := by decide +kernel
theorem d_L_law_157 : decode b_L_law 157 = .ok (.aload_n 0, 1) := by decide +kernel
theorem d_L_law_158 : decode b_L_law 158 = .ok (.iload_n 3, 1) := by decide +kernel
theorem d_L_law_159 : decode b_L_law 159 = .ok (.iconst 1, 1) := by decide +kernel
theorem d_L_law_160 : decode b_L_law 160 = .ok (.iadd, 1) := by decide +kernel
theorem d_L_law_161 : decode b_L_law 161 = .ok (.iaload, 1) := by decide +kernel
theorem d_L_law_162 : decode b_L_law 162 = .ok (.i2l, 1) := by decide +kernel
theorem d_L_law_163 : decode b_L_law 163 = .ok (.bipush 32, 2) := by decide +kernel
theorem d_L_law_165 : decode b_L_law 165 = .ok (.lshl, 1) := by decide +kernel
theorem d_L_law_166 : decode b_L_law 166 = .ok (.aload_n 0, 1) := by decide +kernel
theorem d_L_law_167 : decode b_L_law 167 = .ok (.iload_n 3, 1) := by decide +kernel
theorem d_L_law_168 : decode b_L_law 168 = .ok (.iconst 2, 1) := by decide +kernel
theorem d_L_law_169 : decode b_L_law 169 = .ok (.iadd, 1) := by decide +kernel
theorem d_L_law_170 : decode b_L_law 170 = .ok (.iaload, 1) := by decide +kernel
theorem d_L_law_171 : decode b_L_law 171 = .ok (.i2l, 1) := by decide +kernel
theorem d_L_law_172 : decode b_L_law 172 = .ok (.ldc2_w 13, 3) := by decide +kernel
theorem d_L_law_175 : decode b_L_law 175 = .ok (.land, 1) := by decide +kernel
theorem d_L_law_176 : decode b_L_law 176 = .ok (.lor, 1) := by decide +kernel
theorem d_L_law_177 : decode b_L_law 177 = .ok (.invokevirtual 19, 3) := by decide +kernel
theorem d_L_law_180 : decode b_L_law 180 = .ok (.if_icmp .eq 692, 3) := by decide +kernel
theorem d_L_law_183 : decode b_L_law 183 = .ok (.iconst 0, 1) := by decide +kernel
theorem d_L_law_184 : decode b_L_law 184 = .ok (.ireturn, 1) := by decide +kernel
theorem d_L_law_185 : decode b_L_law 185 = .ok (.aload_n 1, 1) := by decide +kernel
theorem d_L_law_186 : decode b_L_law 186 = .ok (.aload_n 0, 1) := by decide +kernel
theorem d_L_law_187 : decode b_L_law 187 = .ok (.iload_n 3, 1) := by decide +kernel
theorem d_L_law_188 : decode b_L_law 188 = .ok (.iconst 1, 1) := by decide +kernel
theorem d_L_law_189 : decode b_L_law 189 = .ok (.iadd, 1) := by decide +kernel
theorem d_L_law_190 : decode b_L_law 190 = .ok (.iaload, 1) := by decide +kernel
theorem d_L_law_191 : decode b_L_law 191 = .ok (.aload_n 0, 1) := by decide +kernel
theorem d_L_law_192 : decode b_L_law 192 = .ok (.iload_n 3, 1) := by decide +kernel
theorem d_L_law_193 : decode b_L_law 193 = .ok (.iconst 2, 1) := by decide +kernel
theorem d_L_law_194 : decode b_L_law 194 = .ok (.iadd, 1) := by decide +kernel
theorem d_L_law_195 : decode b_L_law 195 = .ok (.iaload, 1) := by decide +kernel
theorem d_L_law_196 : decode b_L_law 196 = .ok (.aload_n 0, 1) := by decide +kernel
theorem d_L_law_197 : decode b_L_law 197 = .ok (.iload_n 3, 1) := by decide +kernel
theorem d_L_law_198 : decode b_L_law 198 = .ok (.iconst 3, 1) := by decide +kernel
theorem d_L_law_199 : decode b_L_law 199 = .ok (.iadd, 1) := by decide +kernel
theorem d_L_law_200 : decode b_L_law 200 = .ok (.iaload, 1) := by decide +kernel
theorem d_L_law_201 : decode b_L_law 201 = .ok (.invokevirtual 20, 3) := by decide +kernel
theorem d_L_law_204 : decode b_L_law 204 = .ok (.aload_n 2, 1) := by decide +kernel
theorem d_L_law_205 : decode b_L_law 205 = .ok (.aload_n 0, 1) := by decide +kernel
theorem d_L_law_206 : decode b_L_law 206 = .ok (.iload_n 3, 1) := by decide +kernel
theorem d_L_law_207 : decode b_L_law 207 = .ok (.iconst 1, 1) := by decide +kernel
theorem d_L_law_208 : decode b_L_law 208 = .ok (.iadd, 1) := by decide +kernel
theorem d_L_law_209 : decode b_L_law 209 = .ok (.iaload, 1) := by decide +kernel
theorem d_L_law_210 : decode b_L_law 210 = .ok (.aload_n 0, 1) := by decide +kernel
theorem d_L_law_211 : decode b_L_law 211 = .ok (.iload_n 3, 1) := by decide +kernel
theorem d_L_law_212 : decode b_L_law 212 = .ok (.iconst 2, 1) := by decide +kernel
theorem d_L_law_213 : decode b_L_law 213 = .ok (.iadd, 1) := by decide +kernel
theorem d_L_law_214 : decode b_L_law 214 = .ok (.iaload, 1) := by decide +kernel
theorem d_L_law_215 : decode b_L_law 215 = .ok (.aload_n 0, 1) := by decide +kernel
theorem d_L_law_216 : decode b_L_law 216 = .ok (.iload_n 3, 1) := by decide +kernel
theorem d_L_law_217 : decode b_L_law 217 = .ok (.iconst 3, 1) := by decide +kernel
theorem d_L_law_218 : decode b_L_law 218 = .ok (.iadd, 1) := by decide +kernel
theorem d_L_law_219 : decode b_L_law 219 = .ok (.iaload, 1) := by decide +kernel
theorem d_L_law_220 : decode b_L_law 220 = .ok (.invokevirtual 24, 3) := by decide +kernel
theorem d_L_law_223 : decode b_L_law 223 = .ok (.if_icmp .eq 649, 3) := by decide +kernel
theorem d_L_law_226 : decode b_L_law 226 = .ok (.iconst 0, 1) := by decide +kernel
theorem d_L_law_227 : decode b_L_law 227 = .ok (.ireturn, 1) := by decide +kernel
theorem d_L_law_228 : decode b_L_law 228 = .ok (.aload_n 1, 1) := by decide +kernel
theorem d_L_law_229 : decode b_L_law 229 = .ok (.aload_n 0, 1) := by decide +kernel
theorem d_L_law_230 : decode b_L_law 230 = .ok (.iload_n 3, 1) := by decide +kernel
theorem d_L_law_231 : decode b_L_law 231 = .ok (.iconst 1, 1) := by decide +kernel
theorem d_L_law_232 : decode b_L_law 232 = .ok (.iadd, 1) := by decide +kernel
theorem d_L_law_233 : decode b_L_law 233 = .ok (.iaload, 1) := by decide +kernel
theorem d_L_law_234 : decode b_L_law 234 = .ok (.invokevirtual 25, 3) := by decide +kernel
theorem d_L_law_237 : decode b_L_law 237 = .ok (.aload_n 2, 1) := by decide +kernel
theorem d_L_law_238 : decode b_L_law 238 = .ok (.aload_n 0, 1) := by decide +kernel
theorem d_L_law_239 : decode b_L_law 239 = .ok (.iload_n 3, 1) := by decide +kernel
theorem d_L_law_240 : decode b_L_law 240 = .ok (.iconst 1, 1) := by decide +kernel
theorem d_L_law_241 : decode b_L_law 241 = .ok (.iadd, 1) := by decide +kernel
theorem d_L_law_242 : decode b_L_law 242 = .ok (.iaload, 1) := by decide +kernel
theorem d_L_law_243 : decode b_L_law 243 = .ok (.invokevirtual 29, 3) := by decide +kernel
theorem d_L_law_246 : decode b_L_law 246 = .ok (.if_icmp .eq 626, 3) := by decide +kernel
theorem d_L_law_249 : decode b_L_law 249 = .ok (.iconst 0, 1) := by decide +kernel
theorem d_L_law_250 : decode b_L_law 250 = .ok (.ireturn, 1) := by decide +kernel
theorem d_L_law_251 : decode b_L_law 251 = .ok (.aload_n 1, 1) := by decide +kernel
theorem d_L_law_252 : decode b_L_law 252 = .ok (.aload_n 0, 1) := by decide +kernel
theorem d_L_law_253 : decode b_L_law 253 = .ok (.iload_n 3, 1) := by decide +kernel
theorem d_L_law_254 : decode b_L_law 254 = .ok (.iconst 1, 1) := by decide +kernel
theorem d_L_law_255 : decode b_L_law 255 = .ok (.iadd, 1) := by decide +kernel
theorem d_L_law_256 : decode b_L_law 256 = .ok (.iaload, 1) := by decide +kernel
theorem d_L_law_257 : decode b_L_law 257 = .ok (.aload_n 0, 1) := by decide +kernel
theorem d_L_law_258 : decode b_L_law 258 = .ok (.iload_n 3, 1) := by decide +kernel
theorem d_L_law_259 : decode b_L_law 259 = .ok (.iconst 2, 1) := by decide +kernel
theorem d_L_law_260 : decode b_L_law 260 = .ok (.iadd, 1) := by decide +kernel
theorem d_L_law_261 : decode b_L_law 261 = .ok (.iaload, 1) := by decide +kernel
theorem d_L_law_262 : decode b_L_law 262 = .ok (.aload_n 0, 1) := by decide +kernel
theorem d_L_law_263 : decode b_L_law 263 = .ok (.iload_n 3, 1) := by decide +kernel
theorem d_L_law_264 : decode b_L_law 264 = .ok (.iconst 3, 1) := by decide +kernel
theorem d_L_law_265 : decode b_L_law 265 = .ok (.iadd, 1) := by decide +kernel
theorem d_L_law_266 : decode b_L_law 266 = .ok (.iaload, 1) := by decide +kernel
theorem d_L_law_267 : decode b_L_law 267 = .ok (.invokevirtual 30, 3) := by decide +kernel
theorem d_L_law_270 : decode b_L_law 270 = .ok (.aload_n 2, 1) := by decide +kernel
theorem d_L_law_271 : decode b_L_law 271 = .ok (.aload_n 0, 1) := by decide +kernel
theorem d_L_law_272 : decode b_L_law 272 = .ok (.iload_n 3, 1) := by decide +kernel
theorem d_L_law_273 : decode b_L_law 273 = .ok (.iconst 1, 1) := by decide +kernel
theorem d_L_law_274 : decode b_L_law 274 = .ok (.iadd, 1) := by decide +kernel
theorem d_L_law_275 : decode b_L_law 275 = .ok (.iaload, 1) := by decide +kernel
theorem d_L_law_276 : decode b_L_law 276 = .ok (.aload_n 0, 1) := by decide +kernel
theorem d_L_law_277 : decode b_L_law 277 = .ok (.iload_n 3, 1) := by decide +kernel
theorem d_L_law_278 : decode b_L_law 278 = .ok (.iconst 2, 1) := by decide +kernel
theorem d_L_law_279 : decode b_L_law 279 = .ok (.iadd, 1) := by decide +kernel
theorem d_L_law_280 : decode b_L_law 280 = .ok (.iaload, 1) := by decide +kernel
theorem d_L_law_281 : decode b_L_law 281 = .ok (.aload_n 0, 1) := by decide +kernel
theorem d_L_law_282 : decode b_L_law 282 = .ok (.iload_n 3, 1) := by decide +kernel
theorem d_L_law_283 : decode b_L_law 283 = .ok (.iconst 3, 1) := by decide +kernel
theorem d_L_law_284 : decode b_L_law 284 = .ok (.iadd, 1) := by decide +kernel
theorem d_L_law_285 : decode b_L_law 285 = .ok (.iaload, 1) := by decide +kernel
theorem d_L_law_286 : decode b_L_law 286 = .ok (.invokevirtual 34, 3) := by decide +kernel
theorem d_L_law_289 : decode b_L_law 289 = .ok (.if_icmp .eq 583, 3) := by decide +kernel
theorem d_L_law_292 : decode b_L_law 292 = .ok (.iconst 0, 1) := by decide +kernel
theorem d_L_law_293 : decode b_L_law 293 = .ok (.ireturn, 1) := by decide +kernel
theorem d_L_law_294 : decode b_L_law 294 = .ok (.aload_n 1, 1) := by decide +kernel
theorem d_L_law_295 : decode b_L_law 295 = .ok (.aload_n 0, 1) := by decide +kernel
theorem d_L_law_296 : decode b_L_law 296 = .ok (.iload_n 3, 1) := by decide +kernel
theorem d_L_law_297 : decode b_L_law 297 = .ok (.iconst 1, 1) := by decide +kernel
theorem d_L_law_298 : decode b_L_law 298 = .ok (.iadd, 1) := by decide +kernel
theorem d_L_law_299 : decode b_L_law 299 = .ok (.iaload, 1) := by decide +kernel
theorem d_L_law_300 : decode b_L_law 300 = .ok (.invokevirtual 35, 3) := by decide +kernel
theorem d_L_law_303 : decode b_L_law 303 = .ok (.aload_n 2, 1) := by decide +kernel
theorem d_L_law_304 : decode b_L_law 304 = .ok (.aload_n 0, 1) := by decide +kernel
theorem d_L_law_305 : decode b_L_law 305 = .ok (.iload_n 3, 1) := by decide +kernel
theorem d_L_law_306 : decode b_L_law 306 = .ok (.iconst 1, 1) := by decide +kernel
theorem d_L_law_307 : decode b_L_law 307 = .ok (.iadd, 1) := by decide +kernel
theorem d_L_law_308 : decode b_L_law 308 = .ok (.iaload, 1) := by decide +kernel
theorem d_L_law_309 : decode b_L_law 309 = .ok (.invokevirtual 39, 3) := by decide +kernel
theorem d_L_law_312 : decode b_L_law 312 = .ok (.if_icmp .eq 560, 3) := by decide +kernel
theorem d_L_law_315 : decode b_L_law 315 = .ok (.iconst 0, 1) := by decide +kernel
theorem d_L_law_316 : decode b_L_law 316 = .ok (.ireturn, 1) := by decide +kernel
theorem d_L_law_317 : decode b_L_law 317 = .ok (.aload_n 1, 1) := by decide +kernel
theorem d_L_law_318 : decode b_L_law 318 = .ok (.aload_n 0, 1) := by decide +kernel
theorem d_L_law_319 : decode b_L_law 319 = .ok (.iload_n 3, 1) := by decide +kernel
theorem d_L_law_320 : decode b_L_law 320 = .ok (.iconst 1, 1) := by decide +kernel
theorem d_L_law_321 : decode b_L_law 321 = .ok (.iadd, 1) := by decide +kernel
theorem d_L_law_322 : decode b_L_law 322 = .ok (.iaload, 1) := by decide +kernel
theorem d_L_law_323 : decode b_L_law 323 = .ok (.aload_n 0, 1) := by decide +kernel
theorem d_L_law_324 : decode b_L_law 324 = .ok (.iload_n 3, 1) := by decide +kernel
theorem d_L_law_325 : decode b_L_law 325 = .ok (.iconst 2, 1) := by decide +kernel
theorem d_L_law_326 : decode b_L_law 326 = .ok (.iadd, 1) := by decide +kernel
theorem d_L_law_327 : decode b_L_law 327 = .ok (.iaload, 1) := by decide +kernel
theorem d_L_law_328 : decode b_L_law 328 = .ok (.aload_n 0, 1) := by decide +kernel
theorem d_L_law_329 : decode b_L_law 329 = .ok (.iload_n 3, 1) := by decide +kernel
theorem d_L_law_330 : decode b_L_law 330 = .ok (.iconst 3, 1) := by decide +kernel
theorem d_L_law_331 : decode b_L_law 331 = .ok (.iadd, 1) := by decide +kernel
theorem d_L_law_332 : decode b_L_law 332 = .ok (.iaload, 1) := by decide +kernel
theorem d_L_law_333 : decode b_L_law 333 = .ok (.invokevirtual 40, 3) := by decide +kernel
theorem d_L_law_336 : decode b_L_law 336 = .ok (.aload_n 2, 1) := by decide +kernel
theorem d_L_law_337 : decode b_L_law 337 = .ok (.aload_n 0, 1) := by decide +kernel
theorem d_L_law_338 : decode b_L_law 338 = .ok (.iload_n 3, 1) := by decide +kernel
theorem d_L_law_339 : decode b_L_law 339 = .ok (.iconst 1, 1) := by decide +kernel
theorem d_L_law_340 : decode b_L_law 340 = .ok (.iadd, 1) := by decide +kernel
theorem d_L_law_341 : decode b_L_law 341 = .ok (.iaload, 1) := by decide +kernel
theorem d_L_law_342 : decode b_L_law 342 = .ok (.aload_n 0, 1) := by decide +kernel
theorem d_L_law_343 : decode b_L_law 343 = .ok (.iload_n 3, 1) := by decide +kernel
theorem d_L_law_344 : decode b_L_law 344 = .ok (.iconst 2, 1) := by decide +kernel
theorem d_L_law_345 : decode b_L_law 345 = .ok (.iadd, 1) := by decide +kernel
theorem d_L_law_346 : decode b_L_law 346 = .ok (.iaload, 1) := by decide +kernel
theorem d_L_law_347 : decode b_L_law 347 = .ok (.aload_n 0, 1) := by decide +kernel
theorem d_L_law_348 : decode b_L_law 348 = .ok (.iload_n 3, 1) := by decide +kernel
theorem d_L_law_349 : decode b_L_law 349 = .ok (.iconst 3, 1) := by decide +kernel
theorem d_L_law_350 : decode b_L_law 350 = .ok (.iadd, 1) := by decide +kernel
theorem d_L_law_351 : decode b_L_law 351 = .ok (.iaload, 1) := by decide +kernel
theorem d_L_law_352 : decode b_L_law 352 = .ok (.invokevirtual 44, 3) := by decide +kernel
theorem d_L_law_355 : decode b_L_law 355 = .ok (.lcmp, 1) := by decide +kernel
theorem d_L_law_356 : decode b_L_law 356 = .ok (.ifCond .eq 516, 3) := by decide +kernel
theorem d_L_law_359 : decode b_L_law 359 = .ok (.iconst 0, 1) := by decide +kernel
theorem d_L_law_360 : decode b_L_law 360 = .ok (.ireturn, 1) := by decide +kernel
theorem d_L_law_361 : decode b_L_law 361 = .ok (.aload_n 1, 1) := by decide +kernel
theorem d_L_law_362 : decode b_L_law 362 = .ok (.aload_n 0, 1) := by decide +kernel
theorem d_L_law_363 : decode b_L_law 363 = .ok (.iload_n 3, 1) := by decide +kernel
theorem d_L_law_364 : decode b_L_law 364 = .ok (.iconst 1, 1) := by decide +kernel
theorem d_L_law_365 : decode b_L_law 365 = .ok (.iadd, 1) := by decide +kernel
theorem d_L_law_366 : decode b_L_law 366 = .ok (.iaload, 1) := by decide +kernel
theorem d_L_law_367 : decode b_L_law 367 = .ok (.aload_n 0, 1) := by decide +kernel
theorem d_L_law_368 : decode b_L_law 368 = .ok (.iload_n 3, 1) := by decide +kernel
theorem d_L_law_369 : decode b_L_law 369 = .ok (.iconst 2, 1) := by decide +kernel
theorem d_L_law_370 : decode b_L_law 370 = .ok (.iadd, 1) := by decide +kernel
theorem d_L_law_371 : decode b_L_law 371 = .ok (.iaload, 1) := by decide +kernel
theorem d_L_law_372 : decode b_L_law 372 = .ok (.invokevirtual 45, 3) := by decide +kernel
theorem d_L_law_375 : decode b_L_law 375 = .ok (.aload_n 2, 1) := by decide +kernel
theorem d_L_law_376 : decode b_L_law 376 = .ok (.aload_n 0, 1) := by decide +kernel
theorem d_L_law_377 : decode b_L_law 377 = .ok (.iload_n 3, 1) := by decide +kernel
theorem d_L_law_378 : decode b_L_law 378 = .ok (.iconst 1, 1) := by decide +kernel
theorem d_L_law_379 : decode b_L_law 379 = .ok (.iadd, 1) := by decide +kernel
theorem d_L_law_380 : decode b_L_law 380 = .ok (.iaload, 1) := by decide +kernel
theorem d_L_law_381 : decode b_L_law 381 = .ok (.aload_n 0, 1) := by decide +kernel
theorem d_L_law_382 : decode b_L_law 382 = .ok (.iload_n 3, 1) := by decide +kernel
theorem d_L_law_383 : decode b_L_law 383 = .ok (.iconst 2, 1) := by decide +kernel
theorem d_L_law_384 : decode b_L_law 384 = .ok (.iadd, 1) := by decide +kernel
theorem d_L_law_385 : decode b_L_law 385 = .ok (.iaload, 1) := by decide +kernel
theorem d_L_law_386 : decode b_L_law 386 = .ok (.invokevirtual 49, 3) := by decide +kernel
theorem d_L_law_389 : decode b_L_law 389 = .ok (.lcmp, 1) := by decide +kernel
theorem d_L_law_390 : decode b_L_law 390 = .ok (.ifCond .eq 482, 3) := by decide +kernel
theorem d_L_law_393 : decode b_L_law 393 = .ok (.iconst 0, 1) := by decide +kernel
theorem d_L_law_394 : decode b_L_law 394 = .ok (.ireturn, 1) := by decide +kernel
theorem d_L_law_395 : decode b_L_law 395 = .ok (.aload_n 1, 1) := by decide +kernel
theorem d_L_law_396 : decode b_L_law 396 = .ok (.aload_n 0, 1) := by decide +kernel
theorem d_L_law_397 : decode b_L_law 397 = .ok (.iload_n 3, 1) := by decide +kernel
theorem d_L_law_398 : decode b_L_law 398 = .ok (.iconst 1, 1) := by decide +kernel
theorem d_L_law_399 : decode b_L_law 399 = .ok (.iadd, 1) := by decide +kernel
theorem d_L_law_400 : decode b_L_law 400 = .ok (.iaload, 1) := by decide +kernel
theorem d_L_law_401 : decode b_L_law 401 = .ok (.invokevirtual 50, 3) := by decide +kernel
theorem d_L_law_404 : decode b_L_law 404 = .ok (.aload_n 2, 1) := by decide +kernel
theorem d_L_law_405 : decode b_L_law 405 = .ok (.aload_n 0, 1) := by decide +kernel
theorem d_L_law_406 : decode b_L_law 406 = .ok (.iload_n 3, 1) := by decide +kernel
theorem d_L_law_407 : decode b_L_law 407 = .ok (.iconst 1, 1) := by decide +kernel
theorem d_L_law_408 : decode b_L_law 408 = .ok (.iadd, 1) := by decide +kernel
theorem d_L_law_409 : decode b_L_law 409 = .ok (.iaload, 1) := by decide +kernel
theorem d_L_law_410 : decode b_L_law 410 = .ok (.invokevirtual 54, 3) := by decide +kernel
theorem d_L_law_413 : decode b_L_law 413 = .ok (.lcmp, 1) := by decide +kernel
theorem d_L_law_414 : decode b_L_law 414 = .ok (.ifCond .eq 458, 3) := by decide +kernel
theorem d_L_law_417 : decode b_L_law 417 = .ok (.iconst 0, 1) := by decide +kernel
theorem d_L_law_418 : decode b_L_law 418 = .ok (.ireturn, 1) := by decide +kernel
theorem d_L_law_419 : decode b_L_law 419 = .ok (.aload_n 1, 1) := by decide +kernel
theorem d_L_law_420 : decode b_L_law 420 = .ok (.aload_n 0, 1) := by decide +kernel
theorem d_L_law_421 : decode b_L_law 421 = .ok (.iload_n 3, 1) := by decide +kernel
theorem d_L_law_422 : decode b_L_law 422 = .ok (.iconst 1, 1) := by decide +kernel
theorem d_L_law_423 : decode b_L_law 423 = .ok (.iadd, 1) := by decide +kernel
theorem d_L_law_424 : decode b_L_law 424 = .ok (.iaload, 1) := by decide +kernel
theorem d_L_law_425 : decode b_L_law 425 = .ok (.aload_n 0, 1) := by decide +kernel
theorem d_L_law_426 : decode b_L_law 426 = .ok (.iload_n 3, 1) := by decide +kernel
theorem d_L_law_427 : decode b_L_law 427 = .ok (.iconst 2, 1) := by decide +kernel
theorem d_L_law_428 : decode b_L_law 428 = .ok (.iadd, 1) := by decide +kernel
theorem d_L_law_429 : decode b_L_law 429 = .ok (.iaload, 1) := by decide +kernel
theorem d_L_law_430 : decode b_L_law 430 = .ok (.invokevirtual 55, 3) := by decide +kernel
theorem d_L_law_433 : decode b_L_law 433 = .ok (.aload_n 2, 1) := by decide +kernel
theorem d_L_law_434 : decode b_L_law 434 = .ok (.aload_n 0, 1) := by decide +kernel
theorem d_L_law_435 : decode b_L_law 435 = .ok (.iload_n 3, 1) := by decide +kernel
theorem d_L_law_436 : decode b_L_law 436 = .ok (.iconst 1, 1) := by decide +kernel
theorem d_L_law_437 : decode b_L_law 437 = .ok (.iadd, 1) := by decide +kernel
theorem d_L_law_438 : decode b_L_law 438 = .ok (.iaload, 1) := by decide +kernel
theorem d_L_law_439 : decode b_L_law 439 = .ok (.aload_n 0, 1) := by decide +kernel
theorem d_L_law_440 : decode b_L_law 440 = .ok (.iload_n 3, 1) := by decide +kernel
theorem d_L_law_441 : decode b_L_law 441 = .ok (.iconst 2, 1) := by decide +kernel
theorem d_L_law_442 : decode b_L_law 442 = .ok (.iadd, 1) := by decide +kernel
theorem d_L_law_443 : decode b_L_law 443 = .ok (.iaload, 1) := by decide +kernel
theorem d_L_law_444 : decode b_L_law 444 = .ok (.invokevirtual 58, 3) := by decide +kernel
theorem d_L_law_447 : decode b_L_law 447 = .ok (.lcmp, 1) := by decide +kernel
theorem d_L_law_448 : decode b_L_law 448 = .ok (.ifCond .eq 424, 3) := by decide +kernel
theorem d_L_law_451 : decode b_L_law 451 = .ok (.iconst 0, 1) := by decide +kernel
theorem d_L_law_452 : decode b_L_law 452 = .ok (.ireturn, 1) := by decide +kernel
theorem d_L_law_453 : decode b_L_law 453 = .ok (.aload_n 1, 1) := by decide +kernel
theorem d_L_law_454 : decode b_L_law 454 = .ok (.aload_n 0, 1) := by decide +kernel
theorem d_L_law_455 : decode b_L_law 455 = .ok (.iload_n 3, 1) := by decide +kernel
theorem d_L_law_456 : decode b_L_law 456 = .ok (.iconst 1, 1) := by decide +kernel
theorem d_L_law_457 : decode b_L_law 457 = .ok (.iadd, 1) := by decide +kernel
theorem d_L_law_458 : decode b_L_law 458 = .ok (.iaload, 1) := by decide +kernel
theorem d_L_law_459 : decode b_L_law 459 = .ok (.aload_n 0, 1) := by decide +kernel
theorem d_L_law_460 : decode b_L_law 460 = .ok (.iload_n 3, 1) := by decide +kernel
theorem d_L_law_461 : decode b_L_law 461 = .ok (.iconst 2, 1) := by decide +kernel
theorem d_L_law_462 : decode b_L_law 462 = .ok (.iadd, 1) := by decide +kernel
theorem d_L_law_463 : decode b_L_law 463 = .ok (.iaload, 1) := by decide +kernel
theorem d_L_law_464 : decode b_L_law 464 = .ok (.aload_n 0, 1) := by decide +kernel
theorem d_L_law_465 : decode b_L_law 465 = .ok (.iload_n 3, 1) := by decide +kernel
theorem d_L_law_466 : decode b_L_law 466 = .ok (.iconst 3, 1) := by decide +kernel
theorem d_L_law_467 : decode b_L_law 467 = .ok (.iadd, 1) := by decide +kernel
theorem d_L_law_468 : decode b_L_law 468 = .ok (.iaload, 1) := by decide +kernel
theorem d_L_law_469 : decode b_L_law 469 = .ok (.i2l, 1) := by decide +kernel
theorem d_L_law_470 : decode b_L_law 470 = .ok (.bipush 32, 2) := by decide +kernel
theorem d_L_law_472 : decode b_L_law 472 = .ok (.lshl, 1) := by decide +kernel
theorem d_L_law_473 : decode b_L_law 473 = .ok (.aload_n 0, 1) := by decide +kernel
theorem d_L_law_474 : decode b_L_law 474 = .ok (.iload_n 3, 1) := by decide +kernel
theorem d_L_law_475 : decode b_L_law 475 = .ok (.iconst 4, 1) := by decide +kernel
theorem d_L_law_476 : decode b_L_law 476 = .ok (.iadd, 1) := by decide +kernel
theorem d_L_law_477 : decode b_L_law 477 = .ok (.iaload, 1) := by decide +kernel
theorem d_L_law_478 : decode b_L_law 478 = .ok (.i2l, 1) := by decide +kernel
theorem d_L_law_479 : decode b_L_law 479 = .ok (.ldc2_w 13, 3) := by decide +kernel
theorem d_L_law_482 : decode b_L_law 482 = .ok (.land, 1) := by decide +kernel
theorem d_L_law_483 : decode b_L_law 483 = .ok (.lor, 1) := by decide +kernel
theorem d_L_law_484 : decode b_L_law 484 = .ok (.invokevirtual 59, 3) := by decide +kernel
theorem d_L_law_487 : decode b_L_law 487 = .ok (.aload_n 2, 1) := by decide +kernel
theorem d_L_law_488 : decode b_L_law 488 = .ok (.aload_n 0, 1) := by decide +kernel
theorem d_L_law_489 : decode b_L_law 489 = .ok (.iload_n 3, 1) := by decide +kernel
theorem d_L_law_490 : decode b_L_law 490 = .ok (.iconst 1, 1) := by decide +kernel
theorem d_L_law_491 : decode b_L_law 491 = .ok (.iadd, 1) := by decide +kernel
theorem d_L_law_492 : decode b_L_law 492 = .ok (.iaload, 1) := by decide +kernel
theorem d_L_law_493 : decode b_L_law 493 = .ok (.aload_n 0, 1) := by decide +kernel
theorem d_L_law_494 : decode b_L_law 494 = .ok (.iload_n 3, 1) := by decide +kernel
theorem d_L_law_495 : decode b_L_law 495 = .ok (.iconst 2, 1) := by decide +kernel
theorem d_L_law_496 : decode b_L_law 496 = .ok (.iadd, 1) := by decide +kernel
theorem d_L_law_497 : decode b_L_law 497 = .ok (.iaload, 1) := by decide +kernel
theorem d_L_law_498 : decode b_L_law 498 = .ok (.aload_n 0, 1) := by decide +kernel
theorem d_L_law_499 : decode b_L_law 499 = .ok (.iload_n 3, 1) := by decide +kernel
theorem d_L_law_500 : decode b_L_law 500 = .ok (.iconst 3, 1) := by decide +kernel
theorem d_L_law_501 : decode b_L_law 501 = .ok (.iadd, 1) := by decide +kernel
theorem d_L_law_502 : decode b_L_law 502 = .ok (.iaload, 1) := by decide +kernel
theorem d_L_law_503 : decode b_L_law 503 = .ok (.i2l, 1) := by decide +kernel
theorem d_L_law_504 : decode b_L_law 504 = .ok (.bipush 32, 2) := by decide +kernel
theorem d_L_law_506 : decode b_L_law 506 = .ok (.lshl, 1) := by decide +kernel
theorem d_L_law_507 : decode b_L_law 507 = .ok (.aload_n 0, 1) := by decide +kernel
theorem d_L_law_508 : decode b_L_law 508 = .ok (.iload_n 3, 1) := by decide +kernel
theorem d_L_law_509 : decode b_L_law 509 = .ok (.iconst 4, 1) := by decide +kernel
theorem d_L_law_510 : decode b_L_law 510 = .ok (.iadd, 1) := by decide +kernel
theorem d_L_law_511 : decode b_L_law 511 = .ok (.iaload, 1) := by decide +kernel
theorem d_L_law_512 : decode b_L_law 512 = .ok (.i2l, 1) := by decide +kernel
theorem d_L_law_513 : decode b_L_law 513 = .ok (.ldc2_w 13, 3) := by decide +kernel
theorem d_L_law_516 : decode b_L_law 516 = .ok (.land, 1) := by decide +kernel
theorem d_L_law_517 : decode b_L_law 517 = .ok (.lor, 1) := by decide +kernel
theorem d_L_law_518 : decode b_L_law 518 = .ok (.invokevirtual 63, 3) := by decide +kernel
theorem d_L_law_521 : decode b_L_law 521 = .ok (.if_icmp .eq 351, 3) := by decide +kernel
theorem d_L_law_524 : decode b_L_law 524 = .ok (.iconst 0, 1) := by decide +kernel
theorem d_L_law_525 : decode b_L_law 525 = .ok (.ireturn, 1) := by decide +kernel
theorem d_L_law_526 : decode b_L_law 526 = .ok (.aload_n 1, 1) := by decide +kernel
theorem d_L_law_527 : decode b_L_law 527 = .ok (.aload_n 0, 1) := by decide +kernel
theorem d_L_law_528 : decode b_L_law 528 = .ok (.iload_n 3, 1) := by decide +kernel
theorem d_L_law_529 : decode b_L_law 529 = .ok (.iconst 1, 1) := by decide +kernel
theorem d_L_law_530 : decode b_L_law 530 = .ok (.iadd, 1) := by decide +kernel
theorem d_L_law_531 : decode b_L_law 531 = .ok (.iaload, 1) := by decide +kernel
theorem d_L_law_532 : decode b_L_law 532 = .ok (.aload_n 0, 1) := by decide +kernel
theorem d_L_law_533 : decode b_L_law 533 = .ok (.iload_n 3, 1) := by decide +kernel
theorem d_L_law_534 : decode b_L_law 534 = .ok (.iconst 2, 1) := by decide +kernel
theorem d_L_law_535 : decode b_L_law 535 = .ok (.iadd, 1) := by decide +kernel
theorem d_L_law_536 : decode b_L_law 536 = .ok (.iaload, 1) := by decide +kernel
theorem d_L_law_537 : decode b_L_law 537 = .ok (.invokevirtual 64, 3) := by decide +kernel
theorem d_L_law_540 : decode b_L_law 540 = .ok (.aload_n 2, 1) := by decide +kernel
theorem d_L_law_541 : decode b_L_law 541 = .ok (.aload_n 0, 1) := by decide +kernel
theorem d_L_law_542 : decode b_L_law 542 = .ok (.iload_n 3, 1) := by decide +kernel
theorem d_L_law_543 : decode b_L_law 543 = .ok (.iconst 1, 1) := by decide +kernel
theorem d_L_law_544 : decode b_L_law 544 = .ok (.iadd, 1) := by decide +kernel
theorem d_L_law_545 : decode b_L_law 545 = .ok (.iaload, 1) := by decide +kernel
theorem d_L_law_546 : decode b_L_law 546 = .ok (.aload_n 0, 1) := by decide +kernel
theorem d_L_law_547 : decode b_L_law 547 = .ok (.iload_n 3, 1) := by decide +kernel
theorem d_L_law_548 : decode b_L_law 548 = .ok (.iconst 2, 1) := by decide +kernel
theorem d_L_law_549 : decode b_L_law 549 = .ok (.iadd, 1) := by decide +kernel
theorem d_L_law_550 : decode b_L_law 550 = .ok (.iaload, 1) := by decide +kernel
theorem d_L_law_551 : decode b_L_law 551 = .ok (.invokevirtual 67, 3) := by decide +kernel
theorem d_L_law_554 : decode b_L_law 554 = .ok (.lcmp, 1) := by decide +kernel
theorem d_L_law_555 : decode b_L_law 555 = .ok (.ifCond .eq 317, 3) := by decide +kernel
theorem d_L_law_558 : decode b_L_law 558 = .ok (.iconst 0, 1) := by decide +kernel
theorem d_L_law_559 : decode b_L_law 559 = .ok (.ireturn, 1) := by decide +kernel
theorem d_L_law_560 : decode b_L_law 560 = .ok (.aload_n 1, 1) := by decide +kernel
theorem d_L_law_561 : decode b_L_law 561 = .ok (.aload_n 0, 1) := by decide +kernel
theorem d_L_law_562 : decode b_L_law 562 = .ok (.iload_n 3, 1) := by decide +kernel
theorem d_L_law_563 : decode b_L_law 563 = .ok (.iconst 1, 1) := by decide +kernel
theorem d_L_law_564 : decode b_L_law 564 = .ok (.iadd, 1) := by decide +kernel
theorem d_L_law_565 : decode b_L_law 565 = .ok (.iaload, 1) := by decide +kernel
theorem d_L_law_566 : decode b_L_law 566 = .ok (.invokevirtual 68, 3) := by decide +kernel
theorem d_L_law_569 : decode b_L_law 569 = .ok (.aload_n 2, 1) := by decide +kernel
theorem d_L_law_570 : decode b_L_law 570 = .ok (.aload_n 0, 1) := by decide +kernel
theorem d_L_law_571 : decode b_L_law 571 = .ok (.iload_n 3, 1) := by decide +kernel
theorem d_L_law_572 : decode b_L_law 572 = .ok (.iconst 1, 1) := by decide +kernel
theorem d_L_law_573 : decode b_L_law 573 = .ok (.iadd, 1) := by decide +kernel
theorem d_L_law_574 : decode b_L_law 574 = .ok (.iaload, 1) := by decide +kernel
theorem d_L_law_575 : decode b_L_law 575 = .ok (.invokevirtual 71, 3) := by decide +kernel
theorem d_L_law_578 : decode b_L_law 578 = .ok (.lcmp, 1) := by decide +kernel
theorem d_L_law_579 : decode b_L_law 579 = .ok (.ifCond .eq 293, 3) := by decide +kernel
theorem d_L_law_582 : decode b_L_law 582 = .ok (.iconst 0, 1) := by decide +kernel
theorem d_L_law_583 : decode b_L_law 583 = .ok (.ireturn, 1) := by decide +kernel
theorem d_L_law_584 : decode b_L_law 584 = .ok (.aload_n 1, 1) := by decide +kernel
theorem d_L_law_585 : decode b_L_law 585 = .ok (.invokevirtual 72, 3) := by decide +kernel
theorem d_L_law_588 : decode b_L_law 588 = .ok (.aload_n 2, 1) := by decide +kernel
theorem d_L_law_589 : decode b_L_law 589 = .ok (.invokevirtual 76, 3) := by decide +kernel
theorem d_L_law_592 : decode b_L_law 592 = .ok (.lcmp, 1) := by decide +kernel
theorem d_L_law_593 : decode b_L_law 593 = .ok (.ifCond .eq 279, 3) := by decide +kernel
theorem d_L_law_596 : decode b_L_law 596 = .ok (.iconst 0, 1) := by decide +kernel
theorem d_L_law_597 : decode b_L_law 597 = .ok (.ireturn, 1) := by decide +kernel
theorem d_L_law_598 : decode b_L_law 598 = .ok (.aload_n 1, 1) := by decide +kernel
theorem d_L_law_599 : decode b_L_law 599 = .ok (.aload_n 0, 1) := by decide +kernel
theorem d_L_law_600 : decode b_L_law 600 = .ok (.iload_n 3, 1) := by decide +kernel
end
section
theorem d_L_law_601 : decode b_L_law 601 = .ok (.iconst 1, 1) := by decide +kernel
theorem d_L_law_602 : decode b_L_law 602 = .ok (.iadd, 1) := by decide +kernel
theorem d_L_law_603 : decode b_L_law 603 = .ok (.iaload, 1) := by decide +kernel
theorem d_L_law_604 : decode b_L_law 604 = .ok (.aload_n 0, 1) := by decide +kernel
theorem d_L_law_605 : decode b_L_law 605 = .ok (.iload_n 3, 1) := by decide +kernel
theorem d_L_law_606 : decode b_L_law 606 = .ok (.iconst 2, 1) := by decide +kernel
theorem d_L_law_607 : decode b_L_law 607 = .ok (.iadd, 1) := by decide +kernel
theorem d_L_law_608 : decode b_L_law 608 = .ok (.iaload, 1) := by decide +kernel
theorem d_L_law_609 : decode b_L_law 609 = .ok (.aload_n 0, 1) := by decide +kernel
theorem d_L_law_610 : decode b_L_law 610 = .ok (.iload_n 3, 1) := by decide +kernel
theorem d_L_law_611 : decode b_L_law 611 = .ok (.iconst 3, 1) := by decide +kernel
theorem d_L_law_612 : decode b_L_law 612 = .ok (.iadd, 1) := by decide +kernel
theorem d_L_law_613 : decode b_L_law 613 = .ok (.iaload, 1) := by decide +kernel
theorem d_L_law_614 : decode b_L_law 614 = .ok (.aload_n 0, 1) := by decide +kernel
theorem d_L_law_615 : decode b_L_law 615 = .ok (.iload_n 3, 1) := by decide +kernel
theorem d_L_law_616 : decode b_L_law 616 = .ok (.iconst 4, 1) := by decide +kernel
theorem d_L_law_617 : decode b_L_law 617 = .ok (.iadd, 1) := by decide +kernel
theorem d_L_law_618 : decode b_L_law 618 = .ok (.iaload, 1) := by decide +kernel
theorem d_L_law_619 : decode b_L_law 619 = .ok (.invokevirtual 77, 3) := by decide +kernel
theorem d_L_law_622 : decode b_L_law 622 = .ok (.aload_n 2, 1) := by decide +kernel
theorem d_L_law_623 : decode b_L_law 623 = .ok (.aload_n 0, 1) := by decide +kernel
theorem d_L_law_624 : decode b_L_law 624 = .ok (.iload_n 3, 1) := by decide +kernel
theorem d_L_law_625 : decode b_L_law 625 = .ok (.iconst 1, 1) := by decide +kernel
theorem d_L_law_626 : decode b_L_law 626 = .ok (.iadd, 1) := by decide +kernel
theorem d_L_law_627 : decode b_L_law 627 = .ok (.iaload, 1) := by decide +kernel
theorem d_L_law_628 : decode b_L_law 628 = .ok (.aload_n 0, 1) := by decide +kernel
theorem d_L_law_629 : decode b_L_law 629 = .ok (.iload_n 3, 1) := by decide +kernel
theorem d_L_law_630 : decode b_L_law 630 = .ok (.iconst 2, 1) := by decide +kernel
theorem d_L_law_631 : decode b_L_law 631 = .ok (.iadd, 1) := by decide +kernel
theorem d_L_law_632 : decode b_L_law 632 = .ok (.iaload, 1) := by decide +kernel
theorem d_L_law_633 : decode b_L_law 633 = .ok (.aload_n 0, 1) := by decide +kernel
theorem d_L_law_634 : decode b_L_law 634 = .ok (.iload_n 3, 1) := by decide +kernel
theorem d_L_law_635 : decode b_L_law 635 = .ok (.iconst 3, 1) := by decide +kernel
theorem d_L_law_636 : decode b_L_law 636 = .ok (.iadd, 1) := by decide +kernel
theorem d_L_law_637 : decode b_L_law 637 = .ok (.iaload, 1) := by decide +kernel
theorem d_L_law_638 : decode b_L_law 638 = .ok (.aload_n 0, 1) := by decide +kernel
theorem d_L_law_639 : decode b_L_law 639 = .ok (.iload_n 3, 1) := by decide +kernel
theorem d_L_law_640 : decode b_L_law 640 = .ok (.iconst 4, 1) := by decide +kernel
theorem d_L_law_641 : decode b_L_law 641 = .ok (.iadd, 1) := by decide +kernel
theorem d_L_law_642 : decode b_L_law 642 = .ok (.iaload, 1) := by decide +kernel
theorem d_L_law_643 : decode b_L_law 643 = .ok (.invokevirtual 81, 3) := by decide +kernel
theorem d_L_law_646 : decode b_L_law 646 = .ok (.if_icmp .eq 226, 3) := by decide +kernel
theorem d_L_law_649 : decode b_L_law 649 = .ok (.iconst 0, 1) := by decide +kernel
theorem d_L_law_650 : decode b_L_law 650 = .ok (.ireturn, 1) := by decide +kernel
theorem d_L_law_651 : decode b_L_law 651 = .ok (.aload_n 1, 1) := by decide +kernel
theorem d_L_law_652 : decode b_L_law 652 = .ok (.aload_n 0, 1) := by decide +kernel
theorem d_L_law_653 : decode b_L_law 653 = .ok (.iload_n 3, 1) := by decide +kernel
theorem d_L_law_654 : decode b_L_law 654 = .ok (.iconst 1, 1) := by decide +kernel
theorem d_L_law_655 : decode b_L_law 655 = .ok (.iadd, 1) := by decide +kernel
theorem d_L_law_656 : decode b_L_law 656 = .ok (.iaload, 1) := by decide +kernel
theorem d_L_law_657 : decode b_L_law 657 = .ok (.aload_n 0, 1) := by decide +kernel
theorem d_L_law_658 : decode b_L_law 658 = .ok (.iload_n 3, 1) := by decide +kernel
theorem d_L_law_659 : decode b_L_law 659 = .ok (.iconst 2, 1) := by decide +kernel
theorem d_L_law_660 : decode b_L_law 660 = .ok (.iadd, 1) := by decide +kernel
theorem d_L_law_661 : decode b_L_law 661 = .ok (.iaload, 1) := by decide +kernel
theorem d_L_law_662 : decode b_L_law 662 = .ok (.invokevirtual 82, 3) := by decide +kernel
theorem d_L_law_665 : decode b_L_law 665 = .ok (.aload_n 2, 1) := by decide +kernel
theorem d_L_law_666 : decode b_L_law 666 = .ok (.aload_n 0, 1) := by decide +kernel
theorem d_L_law_667 : decode b_L_law 667 = .ok (.iload_n 3, 1) := by decide +kernel
theorem d_L_law_668 : decode b_L_law 668 = .ok (.iconst 1, 1) := by decide +kernel
theorem d_L_law_669 : decode b_L_law 669 = .ok (.iadd, 1) := by decide +kernel
theorem d_L_law_670 : decode b_L_law 670 = .ok (.iaload, 1) := by decide +kernel
theorem d_L_law_671 : decode b_L_law 671 = .ok (.aload_n 0, 1) := by decide +kernel
theorem d_L_law_672 : decode b_L_law 672 = .ok (.iload_n 3, 1) := by decide +kernel
theorem d_L_law_673 : decode b_L_law 673 = .ok (.iconst 2, 1) := by decide +kernel
theorem d_L_law_674 : decode b_L_law 674 = .ok (.iadd, 1) := by decide +kernel
theorem d_L_law_675 : decode b_L_law 675 = .ok (.iaload, 1) := by decide +kernel
theorem d_L_law_676 : decode b_L_law 676 = .ok (.invokevirtual 86, 3) := by decide +kernel
theorem d_L_law_679 : decode b_L_law 679 = .ok (.if_icmp .eq 193, 3) := by decide +kernel
theorem d_L_law_682 : decode b_L_law 682 = .ok (.iconst 0, 1) := by decide +kernel
theorem d_L_law_683 : decode b_L_law 683 = .ok (.ireturn, 1) := by decide +kernel
theorem d_L_law_684 : decode b_L_law 684 = .ok (.aload_n 1, 1) := by decide +kernel
theorem d_L_law_685 : decode b_L_law 685 = .ok (.aload_n 0, 1) := by decide +kernel
theorem d_L_law_686 : decode b_L_law 686 = .ok (.iload_n 3, 1) := by decide +kernel
theorem d_L_law_687 : decode b_L_law 687 = .ok (.iconst 1, 1) := by decide +kernel
theorem d_L_law_688 : decode b_L_law 688 = .ok (.iadd, 1) := by decide +kernel
theorem d_L_law_689 : decode b_L_law 689 = .ok (.iaload, 1) := by decide +kernel
theorem d_L_law_690 : decode b_L_law 690 = .ok (.aload_n 0, 1) := by decide +kernel
theorem d_L_law_691 : decode b_L_law 691 = .ok (.iload_n 3, 1) := by decide +kernel
theorem d_L_law_692 : decode b_L_law 692 = .ok (.iconst 2, 1) := by decide +kernel
theorem d_L_law_693 : decode b_L_law 693 = .ok (.iadd, 1) := by decide +kernel
theorem d_L_law_694 : decode b_L_law 694 = .ok (.iaload, 1) := by decide +kernel
theorem d_L_law_695 : decode b_L_law 695 = .ok (.invokevirtual 87, 3) := by decide +kernel
theorem d_L_law_698 : decode b_L_law 698 = .ok (.aload_n 2, 1) := by decide +kernel
theorem d_L_law_699 : decode b_L_law 699 = .ok (.aload_n 0, 1) := by decide +kernel
theorem d_L_law_700 : decode b_L_law 700 = .ok (.iload_n 3, 1) := by decide +kernel
theorem d_L_law_701 : decode b_L_law 701 = .ok (.iconst 1, 1) := by decide +kernel
theorem d_L_law_702 : decode b_L_law 702 = .ok (.iadd, 1) := by decide +kernel
theorem d_L_law_703 : decode b_L_law 703 = .ok (.iaload, 1) := by decide +kernel
theorem d_L_law_704 : decode b_L_law 704 = .ok (.aload_n 0, 1) := by decide +kernel
theorem d_L_law_705 : decode b_L_law 705 = .ok (.iload_n 3, 1) := by decide +kernel
theorem d_L_law_706 : decode b_L_law 706 = .ok (.iconst 2, 1) := by decide +kernel
theorem d_L_law_707 : decode b_L_law 707 = .ok (.iadd, 1) := by decide +kernel
theorem d_L_law_708 : decode b_L_law 708 = .ok (.iaload, 1) := by decide +kernel
theorem d_L_law_709 : decode b_L_law 709 = .ok (.invokevirtual 91, 3) := by decide +kernel
theorem d_L_law_712 : decode b_L_law 712 = .ok (.if_icmp .eq 160, 3) := by decide +kernel
theorem d_L_law_715 : decode b_L_law 715 = .ok (.iconst 0, 1) := by decide +kernel
theorem d_L_law_716 : decode b_L_law 716 = .ok (.ireturn, 1) := by decide +kernel
theorem d_L_law_717 : decode b_L_law 717 = .ok (.aload_n 1, 1) := by decide +kernel
theorem d_L_law_718 : decode b_L_law 718 = .ok (.aload_n 0, 1) := by decide +kernel
theorem d_L_law_719 : decode b_L_law 719 = .ok (.iload_n 3, 1) := by decide +kernel
theorem d_L_law_720 : decode b_L_law 720 = .ok (.iconst 1, 1) := by decide +kernel
theorem d_L_law_721 : decode b_L_law 721 = .ok (.iadd, 1) := by decide +kernel
theorem d_L_law_722 : decode b_L_law 722 = .ok (.iaload, 1) := by decide +kernel
theorem d_L_law_723 : decode b_L_law 723 = .ok (.invokevirtual 92, 3) := by decide +kernel
theorem d_L_law_726 : decode b_L_law 726 = .ok (.aload_n 2, 1) := by decide +kernel
theorem d_L_law_727 : decode b_L_law 727 = .ok (.aload_n 0, 1) := by decide +kernel
theorem d_L_law_728 : decode b_L_law 728 = .ok (.iload_n 3, 1) := by decide +kernel
theorem d_L_law_729 : decode b_L_law 729 = .ok (.iconst 1, 1) := by decide +kernel
theorem d_L_law_730 : decode b_L_law 730 = .ok (.iadd, 1) := by decide +kernel
theorem d_L_law_731 : decode b_L_law 731 = .ok (.iaload, 1) := by decide +kernel
theorem d_L_law_732 : decode b_L_law 732 = .ok (.invokevirtual 95, 3) := by decide +kernel
theorem d_L_law_735 : decode b_L_law 735 = .ok (.if_icmp .eq 137, 3) := by decide +kernel
theorem d_L_law_738 : decode b_L_law 738 = .ok (.iconst 0, 1) := by decide +kernel
theorem d_L_law_739 : decode b_L_law 739 = .ok (.ireturn, 1) := by decide +kernel
theorem d_L_law_740 : decode b_L_law 740 = .ok (.aload_n 1, 1) := by decide +kernel
theorem d_L_law_741 : decode b_L_law 741 = .ok (.aload_n 0, 1) := by decide +kernel
theorem d_L_law_742 : decode b_L_law 742 = .ok (.iload_n 3, 1) := by decide +kernel
theorem d_L_law_743 : decode b_L_law 743 = .ok (.iconst 1, 1) := by decide +kernel
theorem d_L_law_744 : decode b_L_law 744 = .ok (.iadd, 1) := by decide +kernel
theorem d_L_law_745 : decode b_L_law 745 = .ok (.iaload, 1) := by decide +kernel
theorem d_L_law_746 : decode b_L_law 746 = .ok (.aload_n 0, 1) := by decide +kernel
theorem d_L_law_747 : decode b_L_law 747 = .ok (.iload_n 3, 1) := by decide +kernel
theorem d_L_law_748 : decode b_L_law 748 = .ok (.iconst 2, 1) := by decide +kernel
theorem d_L_law_749 : decode b_L_law 749 = .ok (.iadd, 1) := by decide +kernel
theorem d_L_law_750 : decode b_L_law 750 = .ok (.iaload, 1) := by decide +kernel
theorem d_L_law_751 : decode b_L_law 751 = .ok (.aload_n 0, 1) := by decide +kernel
theorem d_L_law_752 : decode b_L_law 752 = .ok (.iload_n 3, 1) := by decide +kernel
theorem d_L_law_753 : decode b_L_law 753 = .ok (.iconst 3, 1) := by decide +kernel
theorem d_L_law_754 : decode b_L_law 754 = .ok (.iadd, 1) := by decide +kernel
theorem d_L_law_755 : decode b_L_law 755 = .ok (.iaload, 1) := by decide +kernel
theorem d_L_law_756 : decode b_L_law 756 = .ok (.aload_n 0, 1) := by decide +kernel
theorem d_L_law_757 : decode b_L_law 757 = .ok (.iload_n 3, 1) := by decide +kernel
theorem d_L_law_758 : decode b_L_law 758 = .ok (.iconst 4, 1) := by decide +kernel
theorem d_L_law_759 : decode b_L_law 759 = .ok (.iadd, 1) := by decide +kernel
theorem d_L_law_760 : decode b_L_law 760 = .ok (.iaload, 1) := by decide +kernel
theorem d_L_law_761 : decode b_L_law 761 = .ok (.invokevirtual 96, 3) := by decide +kernel
theorem d_L_law_764 : decode b_L_law 764 = .ok (.aload_n 2, 1) := by decide +kernel
theorem d_L_law_765 : decode b_L_law 765 = .ok (.aload_n 0, 1) := by decide +kernel
theorem d_L_law_766 : decode b_L_law 766 = .ok (.iload_n 3, 1) := by decide +kernel
theorem d_L_law_767 : decode b_L_law 767 = .ok (.iconst 1, 1) := by decide +kernel
theorem d_L_law_768 : decode b_L_law 768 = .ok (.iadd, 1) := by decide +kernel
theorem d_L_law_769 : decode b_L_law 769 = .ok (.iaload, 1) := by decide +kernel
theorem d_L_law_770 : decode b_L_law 770 = .ok (.aload_n 0, 1) := by decide +kernel
theorem d_L_law_771 : decode b_L_law 771 = .ok (.iload_n 3, 1) := by decide +kernel
theorem d_L_law_772 : decode b_L_law 772 = .ok (.iconst 2, 1) := by decide +kernel
theorem d_L_law_773 : decode b_L_law 773 = .ok (.iadd, 1) := by decide +kernel
theorem d_L_law_774 : decode b_L_law 774 = .ok (.iaload, 1) := by decide +kernel
theorem d_L_law_775 : decode b_L_law 775 = .ok (.aload_n 0, 1) := by decide +kernel
theorem d_L_law_776 : decode b_L_law 776 = .ok (.iload_n 3, 1) := by decide +kernel
theorem d_L_law_777 : decode b_L_law 777 = .ok (.iconst 3, 1) := by decide +kernel
theorem d_L_law_778 : decode b_L_law 778 = .ok (.iadd, 1) := by decide +kernel
theorem d_L_law_779 : decode b_L_law 779 = .ok (.iaload, 1) := by decide +kernel
theorem d_L_law_780 : decode b_L_law 780 = .ok (.aload_n 0, 1) := by decide +kernel
theorem d_L_law_781 : decode b_L_law 781 = .ok (.iload_n 3, 1) := by decide +kernel
theorem d_L_law_782 : decode b_L_law 782 = .ok (.iconst 4, 1) := by decide +kernel
theorem d_L_law_783 : decode b_L_law 783 = .ok (.iadd, 1) := by decide +kernel
theorem d_L_law_784 : decode b_L_law 784 = .ok (.iaload, 1) := by decide +kernel
theorem d_L_law_785 : decode b_L_law 785 = .ok (.invokevirtual 100, 3) := by decide +kernel
theorem d_L_law_788 : decode b_L_law 788 = .ok (.if_icmp .eq 84, 3) := by decide +kernel
theorem d_L_law_791 : decode b_L_law 791 = .ok (.iconst 0, 1) := by decide +kernel
theorem d_L_law_792 : decode b_L_law 792 = .ok (.ireturn, 1) := by decide +kernel
theorem d_L_law_793 : decode b_L_law 793 = .ok (.aload_n 1, 1) := by decide +kernel
theorem d_L_law_794 : decode b_L_law 794 = .ok (.aload_n 0, 1) := by decide +kernel
theorem d_L_law_795 : decode b_L_law 795 = .ok (.iload_n 3, 1) := by decide +kernel
theorem d_L_law_796 : decode b_L_law 796 = .ok (.iconst 1, 1) := by decide +kernel
theorem d_L_law_797 : decode b_L_law 797 = .ok (.iadd, 1) := by decide +kernel
theorem d_L_law_798 : decode b_L_law 798 = .ok (.iaload, 1) := by decide +kernel
theorem d_L_law_799 : decode b_L_law 799 = .ok (.invokevirtual 101, 3) := by decide +kernel
theorem d_L_law_802 : decode b_L_law 802 = .ok (.aload_n 2, 1) := by decide +kernel
theorem d_L_law_803 : decode b_L_law 803 = .ok (.aload_n 0, 1) := by decide +kernel
theorem d_L_law_804 : decode b_L_law 804 = .ok (.iload_n 3, 1) := by decide +kernel
theorem d_L_law_805 : decode b_L_law 805 = .ok (.iconst 1, 1) := by decide +kernel
theorem d_L_law_806 : decode b_L_law 806 = .ok (.iadd, 1) := by decide +kernel
theorem d_L_law_807 : decode b_L_law 807 = .ok (.iaload, 1) := by decide +kernel
theorem d_L_law_808 : decode b_L_law 808 = .ok (.invokevirtual 104, 3) := by decide +kernel
theorem d_L_law_811 : decode b_L_law 811 = .ok (.if_icmp .eq 61, 3) := by decide +kernel
theorem d_L_law_814 : decode b_L_law 814 = .ok (.iconst 0, 1) := by decide +kernel
theorem d_L_law_815 : decode b_L_law 815 = .ok (.ireturn, 1) := by decide +kernel
theorem d_L_law_816 : decode b_L_law 816 = .ok (.aload_n 1, 1) := by decide +kernel
theorem d_L_law_817 : decode b_L_law 817 = .ok (.aload_n 0, 1) := by decide +kernel
theorem d_L_law_818 : decode b_L_law 818 = .ok (.iload_n 3, 1) := by decide +kernel
theorem d_L_law_819 : decode b_L_law 819 = .ok (.iconst 1, 1) := by decide +kernel
theorem d_L_law_820 : decode b_L_law 820 = .ok (.iadd, 1) := by decide +kernel
theorem d_L_law_821 : decode b_L_law 821 = .ok (.iaload, 1) := by decide +kernel
theorem d_L_law_822 : decode b_L_law 822 = .ok (.aload_n 0, 1) := by decide +kernel
theorem d_L_law_823 : decode b_L_law 823 = .ok (.iload_n 3, 1) := by decide +kernel
theorem d_L_law_824 : decode b_L_law 824 = .ok (.iconst 2, 1) := by decide +kernel
theorem d_L_law_825 : decode b_L_law 825 = .ok (.iadd, 1) := by decide +kernel
theorem d_L_law_826 : decode b_L_law 826 = .ok (.iaload, 1) := by decide +kernel
theorem d_L_law_827 : decode b_L_law 827 = .ok (.invokevirtual 105, 3) := by decide +kernel
theorem d_L_law_830 : decode b_L_law 830 = .ok (.aload_n 2, 1) := by decide +kernel
theorem d_L_law_831 : decode b_L_law 831 = .ok (.aload_n 0, 1) := by decide +kernel
theorem d_L_law_832 : decode b_L_law 832 = .ok (.iload_n 3, 1) := by decide +kernel
theorem d_L_law_833 : decode b_L_law 833 = .ok (.iconst 1, 1) := by decide +kernel
theorem d_L_law_834 : decode b_L_law 834 = .ok (.iadd, 1) := by decide +kernel
theorem d_L_law_835 : decode b_L_law 835 = .ok (.iaload, 1) := by decide +kernel
theorem d_L_law_836 : decode b_L_law 836 = .ok (.aload_n 0, 1) := by decide +kernel
theorem d_L_law_837 : decode b_L_law 837 = .ok (.iload_n 3, 1) := by decide +kernel
theorem d_L_law_838 : decode b_L_law 838 = .ok (.iconst 2, 1) := by decide +kernel
theorem d_L_law_839 : decode b_L_law 839 = .ok (.iadd, 1) := by decide +kernel
theorem d_L_law_840 : decode b_L_law 840 = .ok (.iaload, 1) := by decide +kernel
theorem d_L_law_841 : decode b_L_law 841 = .ok (.invokevirtual 108, 3) := by decide +kernel
theorem d_L_law_844 : decode b_L_law 844 = .ok (.if_icmp .eq 28, 3) := by decide +kernel
theorem d_L_law_847 : decode b_L_law 847 = .ok (.iconst 0, 1) := by decide +kernel
theorem d_L_law_848 : decode b_L_law 848 = .ok (.ireturn, 1) := by decide +kernel
theorem d_L_law_849 : decode b_L_law 849 = .ok (.aload_n 1, 1) := by decide +kernel
theorem d_L_law_850 : decode b_L_law 850 = .ok (.aload_n 0, 1) := by decide +kernel
theorem d_L_law_851 : decode b_L_law 851 = .ok (.iload_n 3, 1) := by decide +kernel
theorem d_L_law_852 : decode b_L_law 852 = .ok (.iconst 1, 1) := by decide +kernel
theorem d_L_law_853 : decode b_L_law 853 = .ok (.iadd, 1) := by decide +kernel
theorem d_L_law_854 : decode b_L_law 854 = .ok (.iaload, 1) := by decide +kernel
theorem d_L_law_855 : decode b_L_law 855 = .ok (.invokevirtual 109, 3) := by decide +kernel
theorem d_L_law_858 : decode b_L_law 858 = .ok (.aload_n 2, 1) := by decide +kernel
theorem d_L_law_859 : decode b_L_law 859 = .ok (.aload_n 0, 1) := by decide +kernel
theorem d_L_law_860 : decode b_L_law 860 = .ok (.iload_n 3, 1) := by decide +kernel
theorem d_L_law_861 : decode b_L_law 861 = .ok (.iconst 1, 1) := by decide +kernel
theorem d_L_law_862 : decode b_L_law 862 = .ok (.iadd, 1) := by decide +kernel
theorem d_L_law_863 : decode b_L_law 863 = .ok (.iaload, 1) := by decide +kernel
theorem d_L_law_864 : decode b_L_law 864 = .ok (.invokevirtual 112, 3) := by decide +kernel
theorem d_L_law_867 : decode b_L_law 867 = .ok (.if_icmp .eq 5, 3) := by decide +kernel
theorem d_L_law_870 : decode b_L_law 870 = .ok (.iconst 0, 1) := by decide +kernel
theorem d_L_law_871 : decode b_L_law 871 = .ok (.ireturn, 1) := by decide +kernel
theorem d_L_law_872 : decode b_L_law 872 = .ok (.iinc 3 5, 3) := by decide +kernel
theorem d_L_law_875 : decode b_L_law 875 = .ok (.goto (-857), 3) := by decide +kernel
theorem d_L_law_878 : decode b_L_law 878 = .ok (.iconst 1, 1) := by decide +kernel
theorem d_L_law_879 : decode b_L_law 879 = .ok (.ireturn, 1) := by decide +kernel
theorem d_L_law_32 : decode b_L_law 32 = .ok (.tableswitch 840 0 20 #[100, 153, 196, 219, 262, 285, 329, 363, 387, 421, 494, 528, 552, 566, 619, 652, 685, 708, 761, 784, 817], 100) := by decide +kernel
end
section
theorem d_J_fillI_0 : decode b_J_fillI 0 = .ok (.iconst 0, 1) := by decide +kernel
theorem d_J_fillI_1 : decode b_J_fillI 1 = .ok (.istore_n 2, 1) := by decide +kernel
theorem d_J_fillI_2 : decode b_J_fillI 2 = .ok (.aload_n 0, 1) := by decide +kernel
theorem d_J_fillI_3 : decode b_J_fillI 3 = .ok (.arraylength, 1) := by decide +kernel
theorem d_J_fillI_4 : decode b_J_fillI 4 = .ok (.istore_n 3, 1) := by decide +kernel
theorem d_J_fillI_5 : decode b_J_fillI 5 = .ok (.iload_n 2, 1) := by decide +kernel
theorem d_J_fillI_6 : decode b_J_fillI 6 = .ok (.iload_n 3, 1) := by decide +kernel
theorem d_J_fillI_7 : decode b_J_fillI 7 = .ok (.if_icmp .ge 13, 3) := by decide +kernel
theorem d_J_fillI_10 : decode b_J_fillI 10 = .ok (.aload_n 0, 1) := by decide +kernel
theorem d_J_fillI_11 : decode b_J_fillI 11 = .ok (.iload_n 2, 1) := by decide +kernel
theorem d_J_fillI_12 : decode b_J_fillI 12 = .ok (.iload_n 1, 1) := by decide +kernel
theorem d_J_fillI_13 : decode b_J_fillI 13 = .ok (.iastore, 1) := by decide +kernel
theorem d_J_fillI_14 : decode b_J_fillI 14 = .ok (.iinc 2 1, 3) := by decide +kernel
theorem d_J_fillI_17 : decode b_J_fillI 17 = .ok (.goto (-12), 3) := by decide +kernel
theorem d_J_fillI_20 : decode b_J_fillI 20 = .ok (.return_, 1) := by decide +kernel
theorem d_J_fillJ_0 : decode b_J_fillJ 0 = .ok (.iconst 0, 1) := by decide +kernel
theorem d_J_fillJ_1 : decode b_J_fillJ 1 = .ok (.istore_n 3, 1) := by decide +kernel
theorem d_J_fillJ_2 : decode b_J_fillJ 2 = .ok (.aload_n 0, 1) := by decide +kernel
theorem d_J_fillJ_3 : decode b_J_fillJ 3 = .ok (.arraylength, 1) := by decide +kernel
theorem d_J_fillJ_4 : decode b_J_fillJ 4 = .ok (.istore 4, 2) := by decide +kernel
theorem d_J_fillJ_6 : decode b_J_fillJ 6 = .ok (.iload_n 3, 1) := by decide +kernel
theorem d_J_fillJ_7 : decode b_J_fillJ 7 = .ok (.iload 4, 2) := by decide +kernel
theorem d_J_fillJ_9 : decode b_J_fillJ 9 = .ok (.if_icmp .ge 13, 3) := by decide +kernel
theorem d_J_fillJ_12 : decode b_J_fillJ 12 = .ok (.aload_n 0, 1) := by decide +kernel
theorem d_J_fillJ_13 : decode b_J_fillJ 13 = .ok (.iload_n 3, 1) := by decide +kernel
theorem d_J_fillJ_14 : decode b_J_fillJ 14 = .ok (.lload_n 1, 1) := by decide +kernel
theorem d_J_fillJ_15 : decode b_J_fillJ 15 = .ok (.lastore, 1) := by decide +kernel
theorem d_J_fillJ_16 : decode b_J_fillJ 16 = .ok (.iinc 3 1, 3) := by decide +kernel
theorem d_J_fillJ_19 : decode b_J_fillJ 19 = .ok (.goto (-13), 3) := by decide +kernel
theorem d_J_fillJ_22 : decode b_J_fillJ 22 = .ok (.return_, 1) := by decide +kernel
end
section
section XLZ
variable {p : Program} {l : Launch} {e : Env} {R : Room} {s : State} {m : MethodId} {args : Array Value} {below : List Frame} {meth : Method} {c : Code} {H : Heap} {locs : List Loc} {cells slots : Nat} {Q : State → Prop}
variable {cc : ByteArray} {pc : Nat} {ls : Array Slot} {rest : List Value} {D : va_G} {cl : List vw_C} {a B : Nat} {tys : List (ClassId × FieldType)} {ad : Nat → Nat} {w : Nat → Option va_E} {H0 : Heap}
theorem xr_zast (hexec : p.tables.exec = Jvm.exec) (hb : c.code = cc) (hK : va_K D cl tys s) (hw : xw D cl B ad w H) (hS : va_S (fun q => B ≤ q) H0 H locs) (t t0 : Nat) {cA : ClassId} {n : Nat} {f : Nat → Int32} (he : w t = some (.inl (cA, n, .inl f))) (ha : ad t = a) (ht : tys[t0]? = some (cA, .boolean)) {i x : Int32} (hin : vp_in i n) (hn : narrow .boolean (.int x) = .int x) (hdg : decode cc pc = .ok (.bastore, 1))
    (kk : ∀ (H1 : Heap) (locs1 : List Loc), xw D cl B ad (xu w t (.inl (cA, n, .inl (upd f i.toNatClampNeg x)))) H1 → va_S (fun q => B ≤ q) H0 H1 locs1 → W p l e R s m args below meth c H1 locs1 cells slots Q (F0 m (pc + 1) ls rest)) : W p l e R s m args below meth c H locs cells slots Q (F0 m pc ls (.int x :: .int i :: .ref a :: rest)) := by
  subst ha
  have hx : vp_nar .boolean x = x := by unfold vp_nar; rw [hn]
  refine W.zast hexec hb (hw.1 t _ he) ((hK.2 t0 _ ht).1 n (fun j => .int (f j))) (fun q => by cases q) (by show ¬ (i < 0 ∨ (arrV _ _ _).slots.size ≤ _); rw [arrV_size]; exact hin) rfl rfl hdg fun H1 e z oq => ?_
  refine kk H1 _ (hw.set he ?_ oq) (hS.put z oq (hw.2.2 t (by rw [he]; exact fun z => by cases z)))
  show H1[ad t]? = some (vp_cell _ _)
  rw [e]
  rw [vp_cell_i, vp_cell_i, arrV_store]
  congr 2
  funext q
  by_cases hq : q = i.toNatClampNeg
  · subst hq
    simp [updV, upd, hn]
  · simp [updV, upd, hq]
end XLZ
theorem xadd {x y : Int32} {a b : Nat} (hx : x = nI a) (hy : y = nI b) : x + y = nI (a + b) := by rw [hx, hy, nI_add]
theorem xmul {x y : Int32} {a b : Nat} (hx : x = nI a) (hy : y = nI b) : x * y = nI (a * b) := by rw [hx, hy, pk_mul]
theorem xsub {x : Int32} {a b : Nat} (hx : x = nI a) (h : b ≤ a) : x - nI b = nI (a - b) := by rw [hx, pk_sub h]
theorem xvin {x : Int32} {a n : Nat} (hx : x = nI a) (h : a < n) (hn : n < 2147483648) : vp_in x n := by rw [hx]; exact vp_in_nI h hn
theorem xcl {x : Int32} {a : Nat} (hx : x = nI a) (h : a < 2147483648) : x.toNatClampNeg = a := by rw [hx]; exact nI_clamp h
/-- a method's words among the words -/
theorem gV {own C : String} {idx : Nat} {y : MethodName} {b : ByteArray} {n : Nat} {r : Option FieldType} (h1 : Cond.methodLink own idx y ∈ xW0) (h2 : Cond.instanceMethod y ∈ xW0) (h3 : Cond.selects C y y ∈ xW0) (h4 : Cond.initialized C ∈ xW0) (h5 : Cond.code y b n r ∈ xW0) : GoodIn xW0 (wsV own idx C y (Cond.code y b n r :: xW0)) := by
  refine gAll (fun _ h => h) (fun w hw => ?_)
  simp only [wsV, List.mem_append, List.mem_cons, List.not_mem_nil, or_false] at hw
  rcases hw with (rfl | rfl | rfl | rfl) | rfl | h
  · exact h1
  · exact h2
  · exact h3
  · exact h4
  · exact h5
  · exact h
theorem gS {own C : String} {idx : Nat} {y : MethodName} {b : ByteArray} {n : Nat} {r : Option FieldType} (h1 : Cond.methodLink own idx y ∈ xW0) (h2 : Cond.static y ∈ xW0) (h4 : Cond.initialized C ∈ xW0) (h5 : Cond.code y b n r ∈ xW0) (hC : y.cls = C := by rfl) : GoodIn xW0 (va_wsS own idx y (Cond.code y b n r :: xW0)) := by
  subst hC
  refine gAll (fun _ h => h) (fun w hw => ?_)
  simp only [va_wsS, List.mem_append, List.mem_cons, List.not_mem_nil, or_false] at hw
  rcases hw with (rfl | rfl | rfl) | rfl | h
  · exact h1
  · exact h2
  · exact h4
  · exact h5
  · exact h
theorem gC {y : MethodName} {b : ByteArray} {n : Nat} {r : Option FieldType} (h5 : Cond.code y b n r ∈ xW0) : GoodIn xW0 (Cond.code y b n r :: xW0) := by
  refine gAll (fun _ h => h) (fun w hw => ?_)
  rcases List.mem_cons.mp hw with rfl | h
  · exact h5
  · exact h
/-- the array classes -/
abbrev xT (K : Nat → ClassId) : List (ClassId × FieldType) := [(K 0, .int), (K 1, .long), (K 2, .object R_B), (K 3, .object R_S), (K 4, .object R_R), (K 5, .boolean)]
/-- a contract of this system -/
abbrev xC (l : Launch) (D : va_G) (K : Nat → ClassId) (B : Nat) (y : MethodName) (b : ByteArray) (n : Nat) (r : Option FieldType) (rm : Room) (av : List Value) (H : Heap) (post : Option Value → Heap → Prop) : Prop := xM l y (Cond.code y b n r :: xW0) rm D vwCl (xT K) xNW B av H post
abbrev rm_A_init : Room := { frames := 2, cells := 7, slots := 77, locals := 40 }
theorem hd_A_init : y_A_init.cls = R_A ∧ y_A_init.cls ≠ "java/lang/invoke/MethodHandle" ∧ y_A_init.cls ≠ "java/lang/invoke/VarHandle" ∧ (parseMethodDescriptor y_A_init.desc).map (fun d => d.parameters.length) = some 0 := by decide +kernel
abbrev rm_P_init : Room := { frames := 1, cells := 3, slots := 52, locals := 20 }
theorem hd_P_init : y_P_init.cls = R_P ∧ y_P_init.cls ≠ "java/lang/invoke/MethodHandle" ∧ y_P_init.cls ≠ "java/lang/invoke/VarHandle" ∧ (parseMethodDescriptor y_P_init.desc).map (fun d => d.parameters.length) = some 0 := by decide +kernel
abbrev rm_A_batch : Room := { frames := 2, cells := 4, slots := 49, locals := 47 }
theorem hd_A_batch : y_A_batch.cls = R_A ∧ y_A_batch.cls ≠ "java/lang/invoke/MethodHandle" ∧ y_A_batch.cls ≠ "java/lang/invoke/VarHandle" ∧ (parseMethodDescriptor y_A_batch.desc).map (fun d => d.parameters.length) = some 1 := by decide +kernel
abbrev rm_A_isWithin : Room := { frames := 0, cells := 0, slots := 0, locals := 0 }
theorem hd_A_isWithin : y_A_isWithin.cls = R_A ∧ y_A_isWithin.cls ≠ "java/lang/invoke/MethodHandle" ∧ y_A_isWithin.cls ≠ "java/lang/invoke/VarHandle" ∧ (parseMethodDescriptor y_A_isWithin.desc).map (fun d => d.parameters.length) = some 3 := by decide +kernel
abbrev rm_B_init : Room := { frames := 1, cells := 3, slots := 40, locals := 23 }
theorem hd_B_init : y_B_init.cls = R_B ∧ y_B_init.cls ≠ "java/lang/invoke/MethodHandle" ∧ y_B_init.cls ≠ "java/lang/invoke/VarHandle" ∧ (parseMethodDescriptor y_B_init.desc).map (fun d => d.parameters.length) = some 3 := by decide +kernel
abbrev rm_J_fillI : Room := { frames := 0, cells := 0, slots := 0, locals := 0 }
theorem hd_J_fillI : y_J_fillI.cls = R_J ∧ y_J_fillI.cls ≠ "java/lang/invoke/MethodHandle" ∧ y_J_fillI.cls ≠ "java/lang/invoke/VarHandle" ∧ (parseMethodDescriptor y_J_fillI.desc).map (fun d => d.parameters.length) = some 2 := by decide +kernel
abbrev rm_A_keepBatch : Room := { frames := 0, cells := 0, slots := 0, locals := 0 }
theorem hd_A_keepBatch : y_A_keepBatch.cls = R_A ∧ y_A_keepBatch.cls ≠ "java/lang/invoke/MethodHandle" ∧ y_A_keepBatch.cls ≠ "java/lang/invoke/VarHandle" ∧ (parseMethodDescriptor y_A_keepBatch.desc).map (fun d => d.parameters.length) = some 1 := by decide +kernel
abbrev rm_A_parts : Room := { frames := 1, cells := 0, slots := 0, locals := 25 }
theorem hd_A_parts : y_A_parts.cls = R_A ∧ y_A_parts.cls ≠ "java/lang/invoke/MethodHandle" ∧ y_A_parts.cls ≠ "java/lang/invoke/VarHandle" ∧ (parseMethodDescriptor y_A_parts.desc).map (fun d => d.parameters.length) = some 3 := by decide +kernel
abbrev rm_A_batchAt : Room := { frames := 0, cells := 0, slots := 0, locals := 0 }
theorem hd_A_batchAt : y_A_batchAt.cls = R_A ∧ y_A_batchAt.cls ≠ "java/lang/invoke/MethodHandle" ∧ y_A_batchAt.cls ≠ "java/lang/invoke/VarHandle" ∧ (parseMethodDescriptor y_A_batchAt.desc).map (fun d => d.parameters.length) = some 1 := by decide +kernel
abbrev rm_A_isMetal : Room := { frames := 0, cells := 0, slots := 0, locals := 0 }
theorem hd_A_isMetal : y_A_isMetal.cls = R_A ∧ y_A_isMetal.cls ≠ "java/lang/invoke/MethodHandle" ∧ y_A_isMetal.cls ≠ "java/lang/invoke/VarHandle" ∧ (parseMethodDescriptor y_A_isMetal.desc).map (fun d => d.parameters.length) = some 1 := by decide +kernel
abbrev rm_A_today : Room := { frames := 1, cells := 0, slots := 0, locals := 25 }
theorem hd_A_today : y_A_today.cls = R_A ∧ y_A_today.cls ≠ "java/lang/invoke/MethodHandle" ∧ y_A_today.cls ≠ "java/lang/invoke/VarHandle" ∧ (parseMethodDescriptor y_A_today.desc).map (fun d => d.parameters.length) = some 1 := by decide +kernel
abbrev rm_A_stage : Room := { frames := 2, cells := 2, slots := 8, locals := 43 }
theorem hd_A_stage : y_A_stage.cls = R_A ∧ y_A_stage.cls ≠ "java/lang/invoke/MethodHandle" ∧ y_A_stage.cls ≠ "java/lang/invoke/VarHandle" ∧ (parseMethodDescriptor y_A_stage.desc).map (fun d => d.parameters.length) = some 3 := by decide +kernel
abbrev rm_S_init : Room := { frames := 1, cells := 1, slots := 4, locals := 20 }
theorem hd_S_init : y_S_init.cls = R_S ∧ y_S_init.cls ≠ "java/lang/invoke/MethodHandle" ∧ y_S_init.cls ≠ "java/lang/invoke/VarHandle" ∧ (parseMethodDescriptor y_S_init.desc).map (fun d => d.parameters.length) = some 3 := by decide +kernel
abbrev rm_A_run : Room := { frames := 2, cells := 0, slots := 0, locals := 51 }
theorem hd_A_run : y_A_run.cls = R_A ∧ y_A_run.cls ≠ "java/lang/invoke/MethodHandle" ∧ y_A_run.cls ≠ "java/lang/invoke/VarHandle" ∧ (parseMethodDescriptor y_A_run.desc).map (fun d => d.parameters.length) = some 1 := by decide +kernel
abbrev rm_A_passThrough : Room := { frames := 1, cells := 0, slots := 0, locals := 23 }
theorem hd_A_passThrough : y_A_passThrough.cls = R_A ∧ y_A_passThrough.cls ≠ "java/lang/invoke/MethodHandle" ∧ y_A_passThrough.cls ≠ "java/lang/invoke/VarHandle" ∧ (parseMethodDescriptor y_A_passThrough.desc).map (fun d => d.parameters.length) = some 2 := by decide +kernel
abbrev rm_A_stageAt : Room := { frames := 0, cells := 0, slots := 0, locals := 0 }
theorem hd_A_stageAt : y_A_stageAt.cls = R_A ∧ y_A_stageAt.cls ≠ "java/lang/invoke/MethodHandle" ∧ y_A_stageAt.cls ≠ "java/lang/invoke/VarHandle" ∧ (parseMethodDescriptor y_A_stageAt.desc).map (fun d => d.parameters.length) = some 1 := by decide +kernel
abbrev rm_S_thousandthsOf : Room := { frames := 0, cells := 0, slots := 0, locals := 0 }
theorem hd_S_thousandthsOf : y_S_thousandthsOf.cls = R_S ∧ y_S_thousandthsOf.cls ≠ "java/lang/invoke/MethodHandle" ∧ y_S_thousandthsOf.cls ≠ "java/lang/invoke/VarHandle" ∧ (parseMethodDescriptor y_S_thousandthsOf.desc).map (fun d => d.parameters.length) = some 1 := by decide +kernel
abbrev rm_A_taken : Room := { frames := 1, cells := 0, slots := 0, locals := 21 }
theorem hd_A_taken : y_A_taken.cls = R_A ∧ y_A_taken.cls ≠ "java/lang/invoke/MethodHandle" ∧ y_A_taken.cls ≠ "java/lang/invoke/VarHandle" ∧ (parseMethodDescriptor y_A_taken.desc).map (fun d => d.parameters.length) = some 3 := by decide +kernel
abbrev rm_A_left : Room := { frames := 1, cells := 0, slots := 0, locals := 21 }
theorem hd_A_left : y_A_left.cls = R_A ∧ y_A_left.cls ≠ "java/lang/invoke/MethodHandle" ∧ y_A_left.cls ≠ "java/lang/invoke/VarHandle" ∧ (parseMethodDescriptor y_A_left.desc).map (fun d => d.parameters.length) = some 2 := by decide +kernel
abbrev rm_A_grams : Room := { frames := 1, cells := 0, slots := 0, locals := 21 }
theorem hd_A_grams : y_A_grams.cls = R_A ∧ y_A_grams.cls ≠ "java/lang/invoke/MethodHandle" ∧ y_A_grams.cls ≠ "java/lang/invoke/VarHandle" ∧ (parseMethodDescriptor y_A_grams.desc).map (fun d => d.parameters.length) = some 1 := by decide +kernel
abbrev rm_A_stock : Room := { frames := 1, cells := 0, slots := 0, locals := 21 }
theorem hd_A_stock : y_A_stock.cls = R_A ∧ y_A_stock.cls ≠ "java/lang/invoke/MethodHandle" ∧ y_A_stock.cls ≠ "java/lang/invoke/VarHandle" ∧ (parseMethodDescriptor y_A_stock.desc).map (fun d => d.parameters.length) = some 2 := by decide +kernel
abbrev rm_A_price : Room := { frames := 3, cells := 0, slots := 0, locals := 67 }
theorem hd_A_price : y_A_price.cls = R_A ∧ y_A_price.cls ≠ "java/lang/invoke/MethodHandle" ∧ y_A_price.cls ≠ "java/lang/invoke/VarHandle" ∧ (parseMethodDescriptor y_A_price.desc).map (fun d => d.parameters.length) = some 3 := by decide +kernel
abbrev rm_P_append : Room := { frames := 2, cells := 0, slots := 0, locals := 41 }
theorem hd_P_append : y_P_append.cls = R_P ∧ y_P_append.cls ≠ "java/lang/invoke/MethodHandle" ∧ y_P_append.cls ≠ "java/lang/invoke/VarHandle" ∧ (parseMethodDescriptor y_P_append.desc).map (fun d => d.parameters.length) = some 3 := by decide +kernel
abbrev rm_P_countOf : Room := { frames := 1, cells := 0, slots := 0, locals := 20 }
theorem hd_P_countOf : y_P_countOf.cls = R_P ∧ y_P_countOf.cls ≠ "java/lang/invoke/MethodHandle" ∧ y_P_countOf.cls ≠ "java/lang/invoke/VarHandle" ∧ (parseMethodDescriptor y_P_countOf.desc).map (fun d => d.parameters.length) = some 1 := by decide +kernel
abbrev rm_A_worth : Room := { frames := 4, cells := 0, slots := 0, locals := 97 }
theorem hd_A_worth : y_A_worth.cls = R_A ∧ y_A_worth.cls ≠ "java/lang/invoke/MethodHandle" ∧ y_A_worth.cls ≠ "java/lang/invoke/VarHandle" ∧ (parseMethodDescriptor y_A_worth.desc).map (fun d => d.parameters.length) = some 2 := by decide +kernel
abbrev rm_P_centsFor : Room := { frames := 3, cells := 0, slots := 0, locals := 68 }
theorem hd_P_centsFor : y_P_centsFor.cls = R_P ∧ y_P_centsFor.cls ≠ "java/lang/invoke/MethodHandle" ∧ y_P_centsFor.cls ≠ "java/lang/invoke/VarHandle" ∧ (parseMethodDescriptor y_P_centsFor.desc).map (fun d => d.parameters.length) = some 2 := by decide +kernel
abbrev rm_P_centsOn : Room := { frames := 2, cells := 0, slots := 0, locals := 41 }
theorem hd_P_centsOn : y_P_centsOn.cls = R_P ∧ y_P_centsOn.cls ≠ "java/lang/invoke/MethodHandle" ∧ y_P_centsOn.cls ≠ "java/lang/invoke/VarHandle" ∧ (parseMethodDescriptor y_P_centsOn.desc).map (fun d => d.parameters.length) = some 2 := by decide +kernel
abbrev rm_A_sell : Room := { frames := 4, cells := 0, slots := 0, locals := 97 }
theorem hd_A_sell : y_A_sell.cls = R_A ∧ y_A_sell.cls ≠ "java/lang/invoke/MethodHandle" ∧ y_A_sell.cls ≠ "java/lang/invoke/VarHandle" ∧ (parseMethodDescriptor y_A_sell.desc).map (fun d => d.parameters.length) = some 1 := by decide +kernel
abbrev rm_J_fillJ : Room := { frames := 0, cells := 0, slots := 0, locals := 0 }
theorem hd_J_fillJ : y_J_fillJ.cls = R_J ∧ y_J_fillJ.cls ≠ "java/lang/invoke/MethodHandle" ∧ y_J_fillJ.cls ≠ "java/lang/invoke/VarHandle" ∧ (parseMethodDescriptor y_J_fillJ.desc).map (fun d => d.parameters.length) = some 2 := by decide +kernel
abbrev rm_A_money : Room := { frames := 0, cells := 0, slots := 0, locals := 0 }
theorem hd_A_money : y_A_money.cls = R_A ∧ y_A_money.cls ≠ "java/lang/invoke/MethodHandle" ∧ y_A_money.cls ≠ "java/lang/invoke/VarHandle" ∧ (parseMethodDescriptor y_A_money.desc).map (fun d => d.parameters.length) = some 0 := by decide +kernel
abbrev rm_A_assay : Room := { frames := 1, cells := 0, slots := 0, locals := 25 }
theorem hd_A_assay : y_A_assay.cls = R_A ∧ y_A_assay.cls ≠ "java/lang/invoke/MethodHandle" ∧ y_A_assay.cls ≠ "java/lang/invoke/VarHandle" ∧ (parseMethodDescriptor y_A_assay.desc).map (fun d => d.parameters.length) = some 4 := by decide +kernel
abbrev rm_A_settled : Room := { frames := 3, cells := 0, slots := 0, locals := 66 }
theorem hd_A_settled : y_A_settled.cls = R_A ∧ y_A_settled.cls ≠ "java/lang/invoke/MethodHandle" ∧ y_A_settled.cls ≠ "java/lang/invoke/VarHandle" ∧ (parseMethodDescriptor y_A_settled.desc).map (fun d => d.parameters.length) = some 2 := by decide +kernel
abbrev rm_B_middleOf : Room := { frames := 2, cells := 0, slots := 0, locals := 42 }
theorem hd_B_middleOf : y_B_middleOf.cls = R_B ∧ y_B_middleOf.cls ≠ "java/lang/invoke/MethodHandle" ∧ y_B_middleOf.cls ≠ "java/lang/invoke/VarHandle" ∧ (parseMethodDescriptor y_B_middleOf.desc).map (fun d => d.parameters.length) = some 1 := by decide +kernel
abbrev rm_B_allTold : Room := { frames := 1, cells := 0, slots := 0, locals := 20 }
theorem hd_B_allTold : y_B_allTold.cls = R_B ∧ y_B_allTold.cls ≠ "java/lang/invoke/MethodHandle" ∧ y_B_allTold.cls ≠ "java/lang/invoke/VarHandle" ∧ (parseMethodDescriptor y_B_allTold.desc).map (fun d => d.parameters.length) = some 1 := by decide +kernel
abbrev rm_A_disputed : Room := { frames := 3, cells := 0, slots := 0, locals := 66 }
theorem hd_A_disputed : y_A_disputed.cls = R_A ∧ y_A_disputed.cls ≠ "java/lang/invoke/MethodHandle" ∧ y_A_disputed.cls ≠ "java/lang/invoke/VarHandle" ∧ (parseMethodDescriptor y_A_disputed.desc).map (fun d => d.parameters.length) = some 2 := by decide +kernel
abbrev rm_B_spreadOf : Room := { frames := 2, cells := 0, slots := 0, locals := 42 }
theorem hd_B_spreadOf : y_B_spreadOf.cls = R_B ∧ y_B_spreadOf.cls ≠ "java/lang/invoke/MethodHandle" ∧ y_B_spreadOf.cls ≠ "java/lang/invoke/VarHandle" ∧ (parseMethodDescriptor y_B_spreadOf.desc).map (fun d => d.parameters.length) = some 1 := by decide +kernel
abbrev rm_A_tolerance : Room := { frames := 1, cells := 0, slots := 0, locals := 25 }
theorem hd_A_tolerance : y_A_tolerance.cls = R_A ∧ y_A_tolerance.cls ≠ "java/lang/invoke/MethodHandle" ∧ y_A_tolerance.cls ≠ "java/lang/invoke/VarHandle" ∧ (parseMethodDescriptor y_A_tolerance.desc).map (fun d => d.parameters.length) = some 1 := by decide +kernel
abbrev rm_A_rule : Room := { frames := 2, cells := 1, slots := 4, locals := 44 }
theorem hd_A_rule : y_A_rule.cls = R_A ∧ y_A_rule.cls ≠ "java/lang/invoke/MethodHandle" ∧ y_A_rule.cls ≠ "java/lang/invoke/VarHandle" ∧ (parseMethodDescriptor y_A_rule.desc).map (fun d => d.parameters.length) = some 4 := by decide +kernel
abbrev rm_R_init : Room := { frames := 1, cells := 0, slots := 0, locals := 20 }
theorem hd_R_init : y_R_init.cls = R_R ∧ y_R_init.cls ≠ "java/lang/invoke/MethodHandle" ∧ y_R_init.cls ≠ "java/lang/invoke/VarHandle" ∧ (parseMethodDescriptor y_R_init.desc).map (fun d => d.parameters.length) = some 4 := by decide +kernel
abbrev rm_A_cls : Room := { frames := 4, cells := 0, slots := 0, locals := 90 }
theorem hd_A_cls : y_A_cls.cls = R_A ∧ y_A_cls.cls ≠ "java/lang/invoke/MethodHandle" ∧ y_A_cls.cls ≠ "java/lang/invoke/VarHandle" ∧ (parseMethodDescriptor y_A_cls.desc).map (fun d => d.parameters.length) = some 1 := by decide +kernel
abbrev rm_R_fits : Room := { frames := 3, cells := 0, slots := 0, locals := 66 }
theorem hd_R_fits : y_R_fits.cls = R_R ∧ y_R_fits.cls ≠ "java/lang/invoke/MethodHandle" ∧ y_R_fits.cls ≠ "java/lang/invoke/VarHandle" ∧ (parseMethodDescriptor y_R_fits.desc).map (fun d => d.parameters.length) = some 3 := by decide +kernel
abbrev rm_A_mix : Room := { frames := 3, cells := 4, slots := 49, locals := 70 }
theorem hd_A_mix : y_A_mix.cls = R_A ∧ y_A_mix.cls ≠ "java/lang/invoke/MethodHandle" ∧ y_A_mix.cls ≠ "java/lang/invoke/VarHandle" ∧ (parseMethodDescriptor y_A_mix.desc).map (fun d => d.parameters.length) = some 2 := by decide +kernel
abbrev rm_A_mixtureOf : Room := { frames := 2, cells := 4, slots := 49, locals := 47 }
theorem hd_A_mixtureOf : y_A_mixtureOf.cls = R_A ∧ y_A_mixtureOf.cls ≠ "java/lang/invoke/MethodHandle" ∧ y_A_mixtureOf.cls ≠ "java/lang/invoke/VarHandle" ∧ (parseMethodDescriptor y_A_mixtureOf.desc).map (fun d => d.parameters.length) = some 2 := by decide +kernel
abbrev rm_A_dispute : Room := { frames := 4, cells := 0, slots := 0, locals := 88 }
theorem hd_A_dispute : y_A_dispute.cls = R_A ∧ y_A_dispute.cls ≠ "java/lang/invoke/MethodHandle" ∧ y_A_dispute.cls ≠ "java/lang/invoke/VarHandle" ∧ (parseMethodDescriptor y_A_dispute.desc).map (fun d => d.parameters.length) = some 1 := by decide +kernel
abbrev rm_B_hasSpreadAbove : Room := { frames := 3, cells := 0, slots := 0, locals := 66 }
theorem hd_B_hasSpreadAbove : y_B_hasSpreadAbove.cls = R_B ∧ y_B_hasSpreadAbove.cls ≠ "java/lang/invoke/MethodHandle" ∧ y_B_hasSpreadAbove.cls ≠ "java/lang/invoke/VarHandle" ∧ (parseMethodDescriptor y_B_hasSpreadAbove.desc).map (fun d => d.parameters.length) = some 1 := by decide +kernel
abbrev rm_M_init : Room := { frames := 1, cells := 20, slots := 494, locals := 20 }
theorem hd_M_init : y_M_init.cls = R_M ∧ y_M_init.cls ≠ "java/lang/invoke/MethodHandle" ∧ y_M_init.cls ≠ "java/lang/invoke/VarHandle" ∧ (parseMethodDescriptor y_M_init.desc).map (fun d => d.parameters.length) = some 0 := by decide +kernel
abbrev rm_M_batch : Room := { frames := 1, cells := 0, slots := 0, locals := 25 }
theorem hd_M_batch : y_M_batch.cls = R_M ∧ y_M_batch.cls ≠ "java/lang/invoke/MethodHandle" ∧ y_M_batch.cls ≠ "java/lang/invoke/VarHandle" ∧ (parseMethodDescriptor y_M_batch.desc).map (fun d => d.parameters.length) = some 1 := by decide +kernel
abbrev rm_M_isIn : Room := { frames := 0, cells := 0, slots := 0, locals := 0 }
theorem hd_M_isIn : y_M_isIn.cls = R_M ∧ y_M_isIn.cls ≠ "java/lang/invoke/MethodHandle" ∧ y_M_isIn.cls ≠ "java/lang/invoke/VarHandle" ∧ (parseMethodDescriptor y_M_isIn.desc).map (fun d => d.parameters.length) = some 3 := by decide +kernel
abbrev rm_M_add : Room := { frames := 0, cells := 0, slots := 0, locals := 0 }
theorem hd_M_add : y_M_add.cls = R_M ∧ y_M_add.cls ≠ "java/lang/invoke/MethodHandle" ∧ y_M_add.cls ≠ "java/lang/invoke/VarHandle" ∧ (parseMethodDescriptor y_M_add.desc).map (fun d => d.parameters.length) = some 2 := by decide +kernel
abbrev rm_M_parts : Room := { frames := 1, cells := 0, slots := 0, locals := 25 }
theorem hd_M_parts : y_M_parts.cls = R_M ∧ y_M_parts.cls ≠ "java/lang/invoke/MethodHandle" ∧ y_M_parts.cls ≠ "java/lang/invoke/VarHandle" ∧ (parseMethodDescriptor y_M_parts.desc).map (fun d => d.parameters.length) = some 3 := by decide +kernel
abbrev rm_M_isBatch : Room := { frames := 0, cells := 0, slots := 0, locals := 0 }
theorem hd_M_isBatch : y_M_isBatch.cls = R_M ∧ y_M_isBatch.cls ≠ "java/lang/invoke/MethodHandle" ∧ y_M_isBatch.cls ≠ "java/lang/invoke/VarHandle" ∧ (parseMethodDescriptor y_M_isBatch.desc).map (fun d => d.parameters.length) = some 1 := by decide +kernel
abbrev rm_M_isMetal : Room := { frames := 0, cells := 0, slots := 0, locals := 0 }
theorem hd_M_isMetal : y_M_isMetal.cls = R_M ∧ y_M_isMetal.cls ≠ "java/lang/invoke/MethodHandle" ∧ y_M_isMetal.cls ≠ "java/lang/invoke/VarHandle" ∧ (parseMethodDescriptor y_M_isMetal.desc).map (fun d => d.parameters.length) = some 1 := by decide +kernel
abbrev rm_M_today : Room := { frames := 1, cells := 0, slots := 0, locals := 25 }
theorem hd_M_today : y_M_today.cls = R_M ∧ y_M_today.cls ≠ "java/lang/invoke/MethodHandle" ∧ y_M_today.cls ≠ "java/lang/invoke/VarHandle" ∧ (parseMethodDescriptor y_M_today.desc).map (fun d => d.parameters.length) = some 1 := by decide +kernel
abbrev rm_M_left : Room := { frames := 1, cells := 0, slots := 0, locals := 21 }
theorem hd_M_left : y_M_left.cls = R_M ∧ y_M_left.cls ≠ "java/lang/invoke/MethodHandle" ∧ y_M_left.cls ≠ "java/lang/invoke/VarHandle" ∧ (parseMethodDescriptor y_M_left.desc).map (fun d => d.parameters.length) = some 2 := by decide +kernel
abbrev rm_M_grams : Room := { frames := 1, cells := 0, slots := 0, locals := 21 }
theorem hd_M_grams : y_M_grams.cls = R_M ∧ y_M_grams.cls ≠ "java/lang/invoke/MethodHandle" ∧ y_M_grams.cls ≠ "java/lang/invoke/VarHandle" ∧ (parseMethodDescriptor y_M_grams.desc).map (fun d => d.parameters.length) = some 1 := by decide +kernel
abbrev rm_M_stage : Room := { frames := 1, cells := 0, slots := 0, locals := 25 }
theorem hd_M_stage : y_M_stage.cls = R_M ∧ y_M_stage.cls ≠ "java/lang/invoke/MethodHandle" ∧ y_M_stage.cls ≠ "java/lang/invoke/VarHandle" ∧ (parseMethodDescriptor y_M_stage.desc).map (fun d => d.parameters.length) = some 3 := by decide +kernel
abbrev rm_M_run : Room := { frames := 1, cells := 0, slots := 0, locals := 21 }
theorem hd_M_run : y_M_run.cls = R_M ∧ y_M_run.cls ≠ "java/lang/invoke/MethodHandle" ∧ y_M_run.cls ≠ "java/lang/invoke/VarHandle" ∧ (parseMethodDescriptor y_M_run.desc).map (fun d => d.parameters.length) = some 1 := by decide +kernel
abbrev rm_M_taken : Room := { frames := 1, cells := 0, slots := 0, locals := 21 }
theorem hd_M_taken : y_M_taken.cls = R_M ∧ y_M_taken.cls ≠ "java/lang/invoke/MethodHandle" ∧ y_M_taken.cls ≠ "java/lang/invoke/VarHandle" ∧ (parseMethodDescriptor y_M_taken.desc).map (fun d => d.parameters.length) = some 3 := by decide +kernel
abbrev rm_M_stock : Room := { frames := 1, cells := 0, slots := 0, locals := 21 }
theorem hd_M_stock : y_M_stock.cls = R_M ∧ y_M_stock.cls ≠ "java/lang/invoke/MethodHandle" ∧ y_M_stock.cls ≠ "java/lang/invoke/VarHandle" ∧ (parseMethodDescriptor y_M_stock.desc).map (fun d => d.parameters.length) = some 2 := by decide +kernel
abbrev rm_M_isStage : Room := { frames := 0, cells := 0, slots := 0, locals := 0 }
theorem hd_M_isStage : y_M_isStage.cls = R_M ∧ y_M_isStage.cls ≠ "java/lang/invoke/MethodHandle" ∧ y_M_isStage.cls ≠ "java/lang/invoke/VarHandle" ∧ (parseMethodDescriptor y_M_isStage.desc).map (fun d => d.parameters.length) = some 1 := by decide +kernel
abbrev rm_M_price : Room := { frames := 1, cells := 0, slots := 0, locals := 25 }
theorem hd_M_price : y_M_price.cls = R_M ∧ y_M_price.cls ≠ "java/lang/invoke/MethodHandle" ∧ y_M_price.cls ≠ "java/lang/invoke/VarHandle" ∧ (parseMethodDescriptor y_M_price.desc).map (fun d => d.parameters.length) = some 3 := by decide +kernel
abbrev rm_M_worth : Room := { frames := 2, cells := 0, slots := 0, locals := 53 }
theorem hd_M_worth : y_M_worth.cls = R_M ∧ y_M_worth.cls ≠ "java/lang/invoke/MethodHandle" ∧ y_M_worth.cls ≠ "java/lang/invoke/VarHandle" ∧ (parseMethodDescriptor y_M_worth.desc).map (fun d => d.parameters.length) = some 2 := by decide +kernel
abbrev rm_M_worthOf : Room := { frames := 1, cells := 0, slots := 0, locals := 25 }
theorem hd_M_worthOf : y_M_worthOf.cls = R_M ∧ y_M_worthOf.cls ≠ "java/lang/invoke/MethodHandle" ∧ y_M_worthOf.cls ≠ "java/lang/invoke/VarHandle" ∧ (parseMethodDescriptor y_M_worthOf.desc).map (fun d => d.parameters.length) = some 3 := by decide +kernel
abbrev rm_M_priceOn : Room := { frames := 0, cells := 0, slots := 0, locals := 0 }
theorem hd_M_priceOn : y_M_priceOn.cls = R_M ∧ y_M_priceOn.cls ≠ "java/lang/invoke/MethodHandle" ∧ y_M_priceOn.cls ≠ "java/lang/invoke/VarHandle" ∧ (parseMethodDescriptor y_M_priceOn.desc).map (fun d => d.parameters.length) = some 2 := by decide +kernel
abbrev rm_M_sell : Room := { frames := 2, cells := 0, slots := 0, locals := 53 }
theorem hd_M_sell : y_M_sell.cls = R_M ∧ y_M_sell.cls ≠ "java/lang/invoke/MethodHandle" ∧ y_M_sell.cls ≠ "java/lang/invoke/VarHandle" ∧ (parseMethodDescriptor y_M_sell.desc).map (fun d => d.parameters.length) = some 1 := by decide +kernel
abbrev rm_M_money : Room := { frames := 0, cells := 0, slots := 0, locals := 0 }
theorem hd_M_money : y_M_money.cls = R_M ∧ y_M_money.cls ≠ "java/lang/invoke/MethodHandle" ∧ y_M_money.cls ≠ "java/lang/invoke/VarHandle" ∧ (parseMethodDescriptor y_M_money.desc).map (fun d => d.parameters.length) = some 0 := by decide +kernel
abbrev rm_M_assay : Room := { frames := 1, cells := 0, slots := 0, locals := 25 }
theorem hd_M_assay : y_M_assay.cls = R_M ∧ y_M_assay.cls ≠ "java/lang/invoke/MethodHandle" ∧ y_M_assay.cls ≠ "java/lang/invoke/VarHandle" ∧ (parseMethodDescriptor y_M_assay.desc).map (fun d => d.parameters.length) = some 4 := by decide +kernel
abbrev rm_M_settled : Room := { frames := 2, cells := 0, slots := 0, locals := 50 }
theorem hd_M_settled : y_M_settled.cls = R_M ∧ y_M_settled.cls ≠ "java/lang/invoke/MethodHandle" ∧ y_M_settled.cls ≠ "java/lang/invoke/VarHandle" ∧ (parseMethodDescriptor y_M_settled.desc).map (fun d => d.parameters.length) = some 2 := by decide +kernel
abbrev rm_M_told : Room := { frames := 1, cells := 0, slots := 0, locals := 21 }
theorem hd_M_told : y_M_told.cls = R_M ∧ y_M_told.cls ≠ "java/lang/invoke/MethodHandle" ∧ y_M_told.cls ≠ "java/lang/invoke/VarHandle" ∧ (parseMethodDescriptor y_M_told.desc).map (fun d => d.parameters.length) = some 3 := by decide +kernel
abbrev rm_M_least : Room := { frames := 0, cells := 0, slots := 0, locals := 0 }
theorem hd_M_least : y_M_least.cls = R_M ∧ y_M_least.cls ≠ "java/lang/invoke/MethodHandle" ∧ y_M_least.cls ≠ "java/lang/invoke/VarHandle" ∧ (parseMethodDescriptor y_M_least.desc).map (fun d => d.parameters.length) = some 2 := by decide +kernel
abbrev rm_M_greatest : Room := { frames := 0, cells := 0, slots := 0, locals := 0 }
theorem hd_M_greatest : y_M_greatest.cls = R_M ∧ y_M_greatest.cls ≠ "java/lang/invoke/MethodHandle" ∧ y_M_greatest.cls ≠ "java/lang/invoke/VarHandle" ∧ (parseMethodDescriptor y_M_greatest.desc).map (fun d => d.parameters.length) = some 2 := by decide +kernel
abbrev rm_M_disputed : Room := { frames := 2, cells := 0, slots := 0, locals := 50 }
theorem hd_M_disputed : y_M_disputed.cls = R_M ∧ y_M_disputed.cls ≠ "java/lang/invoke/MethodHandle" ∧ y_M_disputed.cls ≠ "java/lang/invoke/VarHandle" ∧ (parseMethodDescriptor y_M_disputed.desc).map (fun d => d.parameters.length) = some 2 := by decide +kernel
abbrev rm_M_tolerance : Room := { frames := 1, cells := 0, slots := 0, locals := 25 }
theorem hd_M_tolerance : y_M_tolerance.cls = R_M ∧ y_M_tolerance.cls ≠ "java/lang/invoke/MethodHandle" ∧ y_M_tolerance.cls ≠ "java/lang/invoke/VarHandle" ∧ (parseMethodDescriptor y_M_tolerance.desc).map (fun d => d.parameters.length) = some 1 := by decide +kernel
abbrev rm_M_rule : Room := { frames := 1, cells := 0, slots := 0, locals := 25 }
theorem hd_M_rule : y_M_rule.cls = R_M ∧ y_M_rule.cls ≠ "java/lang/invoke/MethodHandle" ∧ y_M_rule.cls ≠ "java/lang/invoke/VarHandle" ∧ (parseMethodDescriptor y_M_rule.desc).map (fun d => d.parameters.length) = some 4 := by decide +kernel
abbrev rm_M_cls : Room := { frames := 3, cells := 0, slots := 0, locals := 72 }
theorem hd_M_cls : y_M_cls.cls = R_M ∧ y_M_cls.cls ≠ "java/lang/invoke/MethodHandle" ∧ y_M_cls.cls ≠ "java/lang/invoke/VarHandle" ∧ (parseMethodDescriptor y_M_cls.desc).map (fun d => d.parameters.length) = some 1 := by decide +kernel
abbrev rm_M_mix : Room := { frames := 1, cells := 0, slots := 0, locals := 24 }
theorem hd_M_mix : y_M_mix.cls = R_M ∧ y_M_mix.cls ≠ "java/lang/invoke/MethodHandle" ∧ y_M_mix.cls ≠ "java/lang/invoke/VarHandle" ∧ (parseMethodDescriptor y_M_mix.desc).map (fun d => d.parameters.length) = some 2 := by decide +kernel
abbrev rm_M_dispute : Room := { frames := 3, cells := 0, slots := 0, locals := 72 }
theorem hd_M_dispute : y_M_dispute.cls = R_M ∧ y_M_dispute.cls ≠ "java/lang/invoke/MethodHandle" ∧ y_M_dispute.cls ≠ "java/lang/invoke/VarHandle" ∧ (parseMethodDescriptor y_M_dispute.desc).map (fun d => d.parameters.length) = some 1 := by decide +kernel
end
section
/-! THE STATE, as numbers: counts, ints, longs, truths, by row and place -/
abbrev xS : Type := (Nat → Nat) × (Nat → Nat → Int32) × (Nat → Nat → Int64) × (Nat → Nat → Bool)
def row {α : Type} (f : Nat → α) (k : Nat) (v : α) : Nat → α := fun j => if j = k then v else f j
theorem row_eq {α : Type} {f : Nat → α} {k : Nat} {v : α} : row f k v k = v := by simp [row]
theorem row_ne {α : Type} {f : Nat → α} {k j : Nat} {v : α} (h : j ≠ k) : row f k v j = f j := by simp [row, h]
def pN (σ : xS) (k v : Nat) : xS := (row σ.1 k v, σ.2)
def pI (σ : xS) (k : Nat) (f : Nat → Int32) : xS := (σ.1, row σ.2.1 k f, σ.2.2)
def pL (σ : xS) (k : Nat) (f : Nat → Int64) : xS := (σ.1, σ.2.1, row σ.2.2.1 k f, σ.2.2.2)
def pZ (σ : xS) (k : Nat) (f : Nat → Bool) : xS := (σ.1, σ.2.1, σ.2.2.1, row σ.2.2.2 k f)
/-- the number that an argument names, of n -/
def xi (n : Nat) (x : Int32) : Option Nat := if 0 ≤ x.toInt ∧ x.toInt < (n : Int) then some x.toNatClampNeg else none
theorem xi_nI {n i : Nat} (h : i < n) (hn : n < 2 ^ 31) : xi n (nI i) = some i := by
  unfold xi
  rw [nI_toInt (by omega), nI_clamp (by omega), if_pos (by omega)]
theorem xi_none {n : Nat} {x : Int32} (h : ¬ (0 ≤ x.toInt ∧ x.toInt < (n : Int))) : xi n x = none := if_neg h
theorem xi_some {n : Nat} {x : Int32} (h : 0 ≤ x.toInt ∧ x.toInt < (n : Int)) (hn : n < 2 ^ 31) : ∃ i, i < n ∧ x = nI i := by
  have h0 : ¬ x < 0 := by rw [Int32.lt_iff_toInt_lt, Int32.toInt_zero]; omega
  obtain ⟨j, hj, rfl⟩ := nI_of h0
  rw [nI_toInt hj] at h
  exact ⟨j, by omega, rfl⟩
def xin (a b c : Int64) : Bool := decide (b ≤ a) && decide (a ≤ c)
def xm (x : Int32) : Bool := decide (0 ≤ x.toInt ∧ x.toInt < 4)
theorem vp_cell_congrL {cA : ClassId} {n : Nat} {f g : Nat → Int64} (h : ∀ j, j < n → f j = g j) : vp_cell cA (n, .inr (.inl f)) = vp_cell cA (n, .inr (.inl g)) := by
  rw [vp_cell_l, vp_cell_l]
  unfold arrV
  congr 1
  congr 1
  funext j
  show Value.long (f j.val) = Value.long (g j.val)
  rw [h j.val j.isLt]
theorem vp_cell_congrI {cA : ClassId} {n : Nat} {f g : Nat → Int32} (h : ∀ j, j < n → f j = g j) : vp_cell cA (n, .inl f) = vp_cell cA (n, .inl g) := by
  rw [vp_cell_i, vp_cell_i]
  unfold arrV
  congr 1
  congr 1
  funext j
  show Value.int (f j.val) = Value.int (g j.val)
  rw [h j.val j.isLt]
theorem vp_cell_congrQ {cA : ClassId} {n : Nat} {f g : Nat → Option Nat} (h : ∀ j, j < n → f j = g j) : vp_cell cA (n, .inr (.inr (.inr (.inr f)))) = vp_cell cA (n, .inr (.inr (.inr (.inr g)))) := by
  rw [vp_cell_q, vp_cell_q]
  unfold arrV
  congr 1
  congr 1
  funext j
  show va_rf (f j.val) = va_rf (g j.val)
  rw [h j.val j.isLt]
/-- a cell said in other words -/
theorem xw.as {D : va_G} {cl : List vw_C} {B : Nat} {ad : Nat → Nat} {w : Nat → Option va_E} {H : Heap} (t : Nat) {cA : ClassId} {a b : vp_A} (h : xw D cl B ad w H) (ht : w t = some (.inl (cA, a))) (hab : vp_cell cA a = vp_cell cA b) : xw D cl B ad (xu w t (.inl (cA, b))) H := by
  refine h.set ht ?_ (fun _ _ => rfl)
  show H[ad t]? = some (vp_cell cA b)
  rw [← hab]
  exact h.1 t _ ht
theorem i32_nn {x : Int32} (h : ¬ x < 0) : 0 ≤ x.toInt := by rw [Int32.lt_iff_toInt_lt, Int32.toInt_zero] at h; omega
theorem i32_n {x : Int32} (h : x < 0) : x.toInt < 0 := by rw [Int32.lt_iff_toInt_lt, Int32.toInt_zero] at h; omega
theorem i32_4 : (4 : Int32).toInt = 4 := by decide
theorem xm_0 {x : Int32} (h : x < 0) : xm x = false := by
  have := i32_n h
  exact decide_eq_false (by omega)
theorem xm_4 {x : Int32} (h : 4 ≤ x) : xm x = false := by
  rw [Int32.le_iff_toInt_le, i32_4] at h
  exact decide_eq_false (by omega)
theorem xm_t {x : Int32} (h : ¬ x < 0) (h4 : ¬ 4 ≤ x) : xm x = true := by
  have := i32_nn h
  rw [Int32.le_iff_toInt_le, i32_4] at h4
  exact decide_eq_true (by omega)
theorem xm_nI {k : Nat} (h : k < 4) : xm (nI k) = true := decide_eq_true (by rw [nI_toInt (by omega)]; omega)
theorem xm_of {x : Int32} (h : xm x = true) : ∃ k, k < 4 ∧ x = nI k := xi_some (n := 4) (of_decide_eq_true h) (by decide)
theorem xin_1 {a b c : Int64} (h : a < b) : xin a b c = false := by
  simp only [xin, Bool.and_eq_false_iff, decide_eq_false_iff_not]
  exact Or.inl (Int64.not_le.mpr h)
theorem xin_2 {a b c : Int64} (h : c < a) : xin a b c = false := by
  simp only [xin, Bool.and_eq_false_iff, decide_eq_false_iff_not]
  exact Or.inr (Int64.not_le.mpr h)
theorem xin_t {a b c : Int64} (h : ¬ a < b) (h2 : ¬ c < a) : xin a b c = true := by
  simp only [xin, Bool.and_eq_true, decide_eq_true_eq]
  exact ⟨Int64.not_lt.mp h, Int64.not_lt.mp h2⟩
theorem xi_0 {n : Nat} {x : Int32} (h : x < 0) : xi n x = none := by
  have := i32_n h
  exact xi_none (by omega)
theorem xi_n {n : Nat} {x : Int32} (h : nI n ≤ x) (hn : n < 2147483648) : xi n x = none := by
  rw [Int32.le_iff_toInt_le, nI_toInt hn] at h
  exact xi_none (by omega)
theorem xi_t {n : Nat} {x : Int32} (h : ¬ x < 0) (h2 : ¬ nI n ≤ x) (hn : n < 2147483648) : ∃ i, i < n ∧ x = nI i := by
  have := i32_nn h
  rw [Int32.le_iff_toInt_le, nI_toInt hn] at h2
  exact xi_some (by omega) hn
/-- the machine's greater and lesser -/
def mx (x y : Int32) : Int32 := if x < y then y else x
def mn (x y : Int32) : Int32 := if y < x then y else x
def mxL (x y : Int64) : Int64 := if y < x then x else y
/-- of three labs' words T on metal k: told by all; the middle; how far apart -/
def allT (T : Nat → Int32) (k : Nat) : Bool := !(decide (T (k * 3) = -1)) && (!(decide (T (k * 3 + 1) = -1)) && !(decide (T (k * 3 + 2) = -1)))
def mid (T : Nat → Int32) (k : Nat) : Int32 := if allT T k then mx (mn (T (k * 3)) (T (k * 3 + 1))) (mn (mx (T (k * 3)) (T (k * 3 + 1))) (T (k * 3 + 2))) else -1
def spr (T : Nat → Int32) (k : Nat) : Int32 := if allT T k then mx (mx (T (k * 3)) (T (k * 3 + 1))) (T (k * 3 + 2)) - mn (mn (T (k * 3)) (T (k * 3 + 1))) (T (k * 3 + 2)) else -1
/-- the price of metal k on a day, of its first n prices; of all -/
def prN (σ : xS) (k : Nat) (d : Int32) : Nat → Int64
  | 0 => 0
  | n + 1 => if σ.2.1 40 (k * 6 + n) ≤ d then σ.2.2.1 40 (k * 6 + n) else prN σ k d n
def pr (σ : xS) (d : Int32) (k : Nat) : Int64 := prN σ k d (σ.1 (11 + 2 * k))
/-- what amounts A come to on a day -/
def wor (σ : xS) (A : Nat → Int64) (d : Int32) : Int64 :=
  (0 + A 0 / 1000000 * pr σ d 0 + A 1 / 1000000 * pr σ d 1 + A 2 / 1000000 * pr σ d 2 + A 3 / 1000000 * pr σ d 3) +
  (0 + (A 0 - A 0 / 1000000 * 1000000) * pr σ d 0 + (A 1 - A 1 / 1000000 * 1000000) * pr σ d 1 + (A 2 - A 2 / 1000000 * 1000000) * pr σ d 2 + (A 3 - A 3 / 1000000 * 1000000) * pr σ d 3) / 1000000
/-- what always holds of the numbers -/
def Inv (σ : xS) : Prop :=
  σ.1 0 ≤ 8 ∧ σ.1 1 ≤ 6 ∧ σ.1 2 ≤ 8 ∧ (∀ k, k < 4 → σ.1 (11 + 2 * k) ≤ 6) ∧ (∀ i, σ.1 (10 + 2 * i) ≤ 6) ∧
  (∀ i j, i < σ.1 0 → j < 12 → σ.2.1 (20 + i) j = -1 ∨ 0 ≤ σ.2.1 (20 + i) j) ∧ 0 ≤ σ.2.1 0 1 ∧ (∀ i, i < σ.1 2 → ∃ k, k < 4 ∧ σ.2.1 7 i = nI k) ∧
  (∀ i, i < σ.1 0 → (σ.2.1 10 i = -1 ∧ σ.1 (10 + 2 * i) = 0) ∨ σ.2.1 10 i = nI (σ.1 (10 + 2 * i))) ∧
  (∀ i, i < σ.1 0 → 0 ≤ (σ.2.2.1 1 i).toInt ∧ (σ.2.2.1 1 i).toInt ≤ 2 ^ 47 * (2 ^ (i + 1) - (if σ.2.2.2 1 i then 1 else 2))) ∧
  (∀ i, σ.1 0 ≤ i → i < 8 → σ.2.2.2 0 i = false ∧ σ.2.2.2 1 i = false ∧ σ.2.2.2 2 i = false ∧ σ.1 (10 + 2 * i) = 0 ∧ (σ.2.2.1 (10 + i) = fun _ => 0) ∧ (σ.2.2.1 (20 + i) = fun _ => 0)) ∧
  (∀ i, σ.1 1 ≤ i → i < 6 → σ.2.2.1 (30 + i) = fun _ => 0)
def opt {α : Type} (o : Option Nat) (d : α) (f : Nat → α) : α := match o with
  | none => d
  | some i => f i
theorem opt_n {α : Type} {d : α} {f : Nat → α} : opt none d f = d := rfl
theorem opt_s {α : Type} {d : α} {f : Nat → α} {i : Nat} : opt (some i) d f = f i := rfl
theorem xm_xi {x : Int32} (h : xm x = false) : xi 4 x = none := xi_none (of_decide_eq_false h)
theorem nLT {a b : Nat} (ha : a < 2147483648) (hb : b < 2147483648) : nI a < nI b ↔ a < b := nI_ltI ha hb
theorem nLE {a b : Nat} (ha : a < 2147483648) (hb : b < 2147483648) : nI a ≤ nI b ↔ a ≤ b := nI_leI ha hb
theorem nEQ {a b : Nat} (ha : a < 2147483648) (hb : b < 2147483648) : nI a = nI b ↔ a = b := nI_eq ha hb
/-- a loop: an invariant by a number that goes up to N -/
theorem xloop {p : Program} {l : Launch} {e : Env} {R : Room} {s : State} {m : MethodId} {args : Array Value} {below : List Frame} {meth : Method} {c : Code} {cells slots : Nat} {Q : State → Prop} {pc : Nat} {H : Heap} {locs : List Loc} {ls : Array Slot}
    (N : Nat) (I : Nat → Heap → List Loc → Array Slot → Prop) (n0 : Nat) (h0 : n0 ≤ N) (hI : I n0 H locs ls)
    (hs : ∀ (n : Nat) (H : Heap) (locs : List Loc) (ls : Array Slot), n ≤ N → I n H locs ls → (n < N → ∀ (H1 : Heap) (locs1 : List Loc) (ls1 : Array Slot), I (n + 1) H1 locs1 ls1 → W p l e R s m args below meth c H1 locs1 cells slots Q (F0 m pc ls1 [])) → W p l e R s m args below meth c H locs cells slots Q (F0 m pc ls [])) :
    W p l e R s m args below meth c H locs cells slots Q (F0 m pc ls []) := by
  have key : ∀ (r n : Nat) (H : Heap) (locs : List Loc) (ls : Array Slot), n + r = N → I n H locs ls → W p l e R s m args below meth c H locs cells slots Q (F0 m pc ls []) := by
    intro r
    induction r with
    | zero => intro n H locs ls hn hI; exact hs n H locs ls (by omega) hI (fun h => absurd h (by omega))
    | succ r ih => intro n H locs ls hn hI; exact hs n H locs ls (by omega) hI (fun _ H1 locs1 ls1 h => ih (n + 1) H1 locs1 ls1 (by omega) h)
  exact key (N - n0) n0 H locs ls (by omega) hI
def hasS (T : Nat → Int32) (x : Int32) : Bool := !(decide (spr T 0 ≤ x)) || (!(decide (spr T 1 ≤ x)) || (!(decide (spr T 2 ≤ x)) || !(decide (spr T 3 ≤ x))))
def thou (σ : xS) (j : Nat) (x : Int32) : Int32 := if x = σ.2.1 3 j then σ.2.1 4 j else σ.2.1 5 j
/-- whether rule r gives batch i its class -/
def fits_ (σ : xS) (r i : Nat) : Bool := opt (xi 4 (σ.2.1 7 r)) false fun k => !(decide (mid (σ.2.1 (20 + i)) k = -1)) && (decide (mid (σ.2.1 (20 + i)) k ≤ σ.2.1 8 r) && (decide (spr (σ.2.1 (20 + i)) k ≤ σ.2.1 0 1) && decide (σ.2.1 9 r ≤ σ.2.1 0 0 - σ.2.1 1 i)))
def fst_ (p : Nat → Bool) : Nat → Nat → Option Nat
  | 0, _ => none
  | m + 1, n => if p n then some n else fst_ p m (n + 1)
theorem fst_s {p : Nat → Bool} {N n : Nat} (h : n < N) : fst_ p (N - n) n = if p n then some n else fst_ p (N - (n + 1)) (n + 1) := by
  rw [show N - n = (N - (n + 1)) + 1 by omega]; rfl
def dsp (p : Nat → Bool) (k : Int32) : Nat → Nat → Int32 → Int32
  | 0, _, _ => -1
  | m + 1, n, c => if p n then (if c = k then nI n else dsp p k m (n + 1) (c + 1)) else dsp p k m (n + 1) c
theorem dsp_s {p : Nat → Bool} {k c : Int32} {N n : Nat} (h : n < N) : dsp p k (N - n) n c = if p n then (if c = k then nI n else dsp p k (N - (n + 1)) (n + 1) (c + 1)) else dsp p k (N - (n + 1)) (n + 1) c := by
  rw [show N - n = (N - (n + 1)) + 1 by omega]; rfl
def f_settled (σ : xS) (x1 x2 : Int32) : Int32 := opt (xi (σ.1 0) x1) (-1) fun i => opt (xi 4 x2) (-1) fun k => mid (σ.2.1 (20 + i)) k
def f_disputed (σ : xS) (x1 x2 : Int32) : Bool := opt (xi (σ.1 0) x1) false fun i => opt (xi 4 x2) false fun k => !(decide (spr (σ.2.1 (20 + i)) k ≤ σ.2.1 0 1))
def f_worth (σ : xS) (x1 x2 : Int32) : Int64 := opt (xi (σ.1 0) x1) (-1) fun i => if 0 ≤ x2 then wor σ (σ.2.2.1 (10 + i)) x2 else -1
def f_cls (σ : xS) (x1 : Int32) : Int32 := opt (xi (σ.1 0) x1) (-1) fun i => if σ.2.2.2 2 i then -1 else opt (fst_ (fun r => fits_ σ r i) (σ.1 2) 0) 99 fun r => σ.2.1 6 r
def disp (σ : xS) (i : Nat) : Bool := !σ.2.2.2 2 i && hasS (σ.2.1 (20 + i)) (σ.2.1 0 1)
def f_dispute (σ : xS) (x1 : Int32) : Int32 := dsp (disp σ) x1 (σ.1 0) 0 0
end
section
/-- the class: its cells, out of the numbers -/
def RepX (K : Nat → ClassId) (σ : xS) (ad : Nat → Nat) (w : Nat → Option va_E) : Prop :=
  w 0 = some (.inr (0, [.ref (ad 1), .int (nI (σ.1 0)), .ref (ad 2), .int (nI (σ.1 1)), .ref (ad 3), .int (nI (σ.1 2)), .ref (ad 4), .int (σ.2.1 0 0), .int (σ.2.1 0 1), .long (σ.2.2.1 0 0)])) ∧
  w 1 = some (.inl (K 2, 8, .inr (.inr (.inr (.inr (fun i => if i < σ.1 0 then some (ad (100 + i)) else none)))))) ∧
  w 2 = some (.inl (K 3, 6, .inr (.inr (.inr (.inr (fun i => if i < σ.1 1 then some (ad (140 + i)) else none)))))) ∧
  w 3 = some (.inl (K 4, 8, .inr (.inr (.inr (.inr (fun i => if i < σ.1 2 then some (ad (160 + i)) else none)))))) ∧
  w 4 = some (.inr (4, [.ref (ad 5), .ref (ad 6), .ref (ad 7)])) ∧
  w 5 = some (.inl (K 0, 4, .inl (fun k => nI (σ.1 (11 + 2 * k))))) ∧
  w 6 = some (.inl (K 0, 24, .inl (σ.2.1 40))) ∧
  w 7 = some (.inl (K 1, 24, .inr (.inl (σ.2.2.1 40)))) ∧
  (∀ i, i < σ.1 0 → w (100 + i) = some (.inr (1, [.int (σ.2.1 1 i), .int (bI (σ.2.2.2 0 i)), .ref (ad (110 + i)), .ref (ad (120 + i)), .ref (ad (130 + i)), .long (σ.2.2.1 1 i), .int (bI (σ.2.2.2 1 i)), .int (bI (σ.2.2.2 2 i)), .int (nI (σ.1 (10 + 2 * i)))]))) ∧
  (∀ i, i < σ.1 0 → w (110 + i) = some (.inl (K 1, 4, .inr (.inl (σ.2.2.1 (10 + i)))))) ∧
  (∀ i, i < σ.1 0 → w (120 + i) = some (.inl (K 1, 24, .inr (.inl (σ.2.2.1 (20 + i)))))) ∧
  (∀ i, i < σ.1 0 → w (130 + i) = some (.inl (K 0, 12, .inl (σ.2.1 (20 + i))))) ∧
  (∀ i, i < σ.1 1 → w (140 + i) = some (.inr (2, [.int (σ.2.1 3 i), .int (σ.2.1 4 i), .int (σ.2.1 5 i), .ref (ad (150 + i))]))) ∧
  (∀ i, i < σ.1 1 → w (150 + i) = some (.inl (K 1, 4, .inr (.inl (σ.2.2.1 (30 + i)))))) ∧
  (∀ i, i < σ.1 2 → w (160 + i) = some (.inr (3, [.int (σ.2.1 6 i), .int (σ.2.1 7 i), .int (σ.2.1 8 i), .int (σ.2.1 9 i)])))
/-- the reference -/
def RepM (K : Nat → ClassId) (σ : xS) (ad : Nat → Nat) (w : Nat → Option va_E) : Prop :=
  ∃ (FA : Nat → Int64) (FT : Nat → Int64) (FS : Nat → Int64) (FO : Nat → Int32),
  w 200 = some (.inr (5, [.int (σ.2.1 0 0), .int (nI (σ.1 0)), .ref (ad 203), .ref (ad 204), .ref (ad 205), .ref (ad 206), .ref (ad 207), .ref (ad 208), .ref (ad 209), .ref (ad 210), .int (nI (σ.1 1)), .ref (ad 212), .ref (ad 213), .ref (ad 214), .ref (ad 215), .ref (ad 216), .ref (ad 217), .ref (ad 218), .long (σ.2.2.1 0 0), .ref (ad 220), .int (σ.2.1 0 1), .int (nI (σ.1 2)), .ref (ad 223), .ref (ad 224), .ref (ad 225), .ref (ad 226)])) ∧
  w 203 = some (.inl (K 1, 8, .inr (.inl (σ.2.2.1 1)))) ∧
  w 204 = some (.inl (K 0, 8, .inl (σ.2.1 1))) ∧
  w 205 = some (.inl (K 5, 8, .inl (fun b => bI (σ.2.2.2 2 b)))) ∧
  w 206 = some (.inl (K 5, 8, .inl (fun b => bI (σ.2.2.2 0 b)))) ∧
  w 207 = some (.inl (K 5, 8, .inl (fun b => bI (σ.2.2.2 1 b)))) ∧
  w 208 = some (.inl (K 0, 8, .inl (σ.2.1 10))) ∧
  w 209 = some (.inl (K 1, 32, .inr (.inl FA))) ∧
  w 210 = some (.inl (K 1, 192, .inr (.inl FT))) ∧
  w 212 = some (.inl (K 0, 6, .inl (σ.2.1 3))) ∧
  w 213 = some (.inl (K 0, 6, .inl (σ.2.1 4))) ∧
  w 214 = some (.inl (K 0, 6, .inl (σ.2.1 5))) ∧
  w 215 = some (.inl (K 1, 24, .inr (.inl FS))) ∧
  w 216 = some (.inl (K 0, 4, .inl (fun k => nI (σ.1 (11 + 2 * k))))) ∧
  w 217 = some (.inl (K 0, 24, .inl (σ.2.1 40))) ∧
  w 218 = some (.inl (K 1, 24, .inr (.inl (σ.2.2.1 40)))) ∧
  w 220 = some (.inl (K 0, 96, .inl FO)) ∧
  w 223 = some (.inl (K 0, 8, .inl (σ.2.1 6))) ∧
  w 224 = some (.inl (K 0, 8, .inl (σ.2.1 7))) ∧
  w 225 = some (.inl (K 0, 8, .inl (σ.2.1 8))) ∧
  w 226 = some (.inl (K 0, 8, .inl (σ.2.1 9))) ∧
  (∀ b k, b < 8 → k < 4 → FA (4 * b + k) = σ.2.2.1 (10 + b) k) ∧
  (∀ b j, b < 8 → j < 24 → FT (24 * b + j) = σ.2.2.1 (20 + b) j) ∧
  (∀ b k, b < 6 → k < 4 → FS (4 * b + k) = σ.2.2.1 (30 + b) k) ∧
  (∀ b j, b < 8 → j < 12 → FO (12 * b + j) = σ.2.1 (20 + b) j)
end
section
set_option maxHeartbeats 4000000 in
set_option maxRecDepth 100000 in
theorem c_A_isWithin {l : Launch} {D : va_G} {K : Nat → ClassId} {B : Nat} {H : Heap} (u1 u2 u3 : Int64) : xC l D K B y_A_isWithin b_A_isWithin 6 (some .boolean) rm_A_isWithin [.long u1, .long u2, .long u3] H (fun v H1 => v = some (.int (bI (xin u1 u2 u3))) ∧ H1 = H) := by
  refine Met.ofW (cc := b_A_isWithin) (maxL := 6) (ret := (some .boolean)) (by decide) rfl ?_
  intro p e s m args below meth c s₁ B0 hml hv
  obtain ⟨rfl, hsz, hK, hN⟩ := hv
  have hx := B0.exec
  have hb := B0.bytes
  have hr := B0.returns
  have htw : ∀ w ∈ xW0, w.before [.long u1, .long u2, .long u3].toArray s = true := fun w h => atoms_spec (ws := Cond.code y_A_isWithin b_A_isWithin 6 (some .boolean) :: xW0) B0.pre w (List.mem_cons_of_mem _ h)
  have hown : s.vm.findClass R_A = some m.cls := findClass_of_methodNamed B0.named
  have hlocks := B0.notSynchronized
  subst hsz
  have hS : va_S (fun q => B ≤ q) s.heap s.heap [] := va_S.rf
  have hl := lv_entry ([.long u1, .long u2, .long u3]) (n := 6) (Nat.le_of_ble_eq_true rfl)
  rw [lg_entry_eq]
  generalize (lg_sl ([.long u1, .long u2, .long u3]) ++ List.replicate (6 - (lg_sl ([.long u1, .long u2, .long u3])).length) Slot.unset).toArray = ls at hl ⊢
  have hl : lv_has ls 6 [(0, .long u1), (2, .long u2), (4, .long u3)] := hl
  have hH : s.heap = s.heap := rfl
  refine lv_lload_n hx hb d_A_isWithin_0 rfl (lv_at hl 0 rfl) ?_
  refine lv_lload_n hx hb d_A_isWithin_1 rfl (lv_at hl 1 rfl) ?_
  refine xr_lc_lt (tgt := 17) hx hb d_A_isWithin_2 d_A_isWithin_3 (by decide) (fun c_1 => ?_) (fun c_1 => ?_)
  · refine lv_iconst (v := 0) hx hb d_A_isWithin_17 (by decide) ?_
    exact W.zret (v := 0) hx hb hr (by decide) (fun t ht _ => ⟨_, rfl, ⟨bI_0 (xin_1 c_1), ht⟩, hS.F ht⟩) hS.2.2 d_A_isWithin_18
  · refine lv_lload_n hx hb d_A_isWithin_6 rfl (lv_at hl 0 rfl) ?_
    refine lv_lload hx hb d_A_isWithin_7 (lv_at hl 2 rfl) ?_
    refine xr_lc_gt (tgt := 17) hx hb d_A_isWithin_9 d_A_isWithin_10 (by decide) (fun c_2 => ?_) (fun c_2 => ?_)
    · refine lv_iconst (v := 0) hx hb d_A_isWithin_17 (by decide) ?_
      exact W.zret (v := 0) hx hb hr (by decide) (fun t ht _ => ⟨_, rfl, ⟨bI_0 (xin_2 c_2), ht⟩, hS.F ht⟩) hS.2.2 d_A_isWithin_18
    · refine lv_iconst (v := 1) hx hb d_A_isWithin_13 (by decide) ?_
      refine lv_goto (tgt := 18) hx hb d_A_isWithin_14 (by decide) ?_
      exact W.zret (v := 1) hx hb hr (by decide) (fun t ht _ => ⟨_, rfl, ⟨bI_1 (xin_t c_1 c_2), ht⟩, hS.F ht⟩) hS.2.2 d_A_isWithin_18
set_option maxHeartbeats 4000000 in
set_option maxRecDepth 100000 in
theorem c_M_isIn {l : Launch} {D : va_G} {K : Nat → ClassId} {B : Nat} {H : Heap} (u1 u2 u3 : Int64) : xC l D K B y_M_isIn b_M_isIn 6 (some .boolean) rm_M_isIn [.long u1, .long u2, .long u3] H (fun v H1 => v = some (.int (bI (xin u1 u2 u3))) ∧ H1 = H) := by
  refine Met.ofW (cc := b_M_isIn) (maxL := 6) (ret := (some .boolean)) (by decide) rfl ?_
  intro p e s m args below meth c s₁ B0 hml hv
  obtain ⟨rfl, hsz, hK, hN⟩ := hv
  have hx := B0.exec
  have hb := B0.bytes
  have hr := B0.returns
  have htw : ∀ w ∈ xW0, w.before [.long u1, .long u2, .long u3].toArray s = true := fun w h => atoms_spec (ws := Cond.code y_M_isIn b_M_isIn 6 (some .boolean) :: xW0) B0.pre w (List.mem_cons_of_mem _ h)
  have hown : s.vm.findClass R_M = some m.cls := findClass_of_methodNamed B0.named
  have hlocks := B0.notSynchronized
  subst hsz
  have hS : va_S (fun q => B ≤ q) s.heap s.heap [] := va_S.rf
  have hl := lv_entry ([.long u1, .long u2, .long u3]) (n := 6) (Nat.le_of_ble_eq_true rfl)
  rw [lg_entry_eq]
  generalize (lg_sl ([.long u1, .long u2, .long u3]) ++ List.replicate (6 - (lg_sl ([.long u1, .long u2, .long u3])).length) Slot.unset).toArray = ls at hl ⊢
  have hl : lv_has ls 6 [(0, .long u1), (2, .long u2), (4, .long u3)] := hl
  have hH : s.heap = s.heap := rfl
  refine lv_lload_n hx hb d_M_isIn_0 rfl (lv_at hl 0 rfl) ?_
  refine lv_lload_n hx hb d_M_isIn_1 rfl (lv_at hl 1 rfl) ?_
  refine xr_lc_lt (tgt := 17) hx hb d_M_isIn_2 d_M_isIn_3 (by decide) (fun c_1 => ?_) (fun c_1 => ?_)
  · refine lv_iconst (v := 0) hx hb d_M_isIn_17 (by decide) ?_
    exact W.zret (v := 0) hx hb hr (by decide) (fun t ht _ => ⟨_, rfl, ⟨bI_0 (xin_1 c_1), ht⟩, hS.F ht⟩) hS.2.2 d_M_isIn_18
  · refine lv_lload_n hx hb d_M_isIn_6 rfl (lv_at hl 0 rfl) ?_
    refine lv_lload hx hb d_M_isIn_7 (lv_at hl 2 rfl) ?_
    refine xr_lc_gt (tgt := 17) hx hb d_M_isIn_9 d_M_isIn_10 (by decide) (fun c_2 => ?_) (fun c_2 => ?_)
    · refine lv_iconst (v := 0) hx hb d_M_isIn_17 (by decide) ?_
      exact W.zret (v := 0) hx hb hr (by decide) (fun t ht _ => ⟨_, rfl, ⟨bI_0 (xin_2 c_2), ht⟩, hS.F ht⟩) hS.2.2 d_M_isIn_18
    · refine lv_iconst (v := 1) hx hb d_M_isIn_13 (by decide) ?_
      refine lv_goto (tgt := 18) hx hb d_M_isIn_14 (by decide) ?_
      exact W.zret (v := 1) hx hb hr (by decide) (fun t ht _ => ⟨_, rfl, ⟨bI_1 (xin_t c_1 c_2), ht⟩, hS.F ht⟩) hS.2.2 d_M_isIn_18
set_option maxHeartbeats 4000000 in
set_option maxRecDepth 100000 in
theorem c_A_isMetal {l : Launch} {D : va_G} {K : Nat → ClassId} {B : Nat} {H : Heap} (x1 : Int32) : xC l D K B y_A_isMetal b_A_isMetal 1 (some .boolean) rm_A_isMetal [.int x1] H (fun v H1 => v = some (.int (bI (xm x1))) ∧ H1 = H) := by
  refine Met.ofW (cc := b_A_isMetal) (maxL := 1) (ret := (some .boolean)) (by decide) rfl ?_
  intro p e s m args below meth c s₁ B0 hml hv
  obtain ⟨rfl, hsz, hK, hN⟩ := hv
  have hx := B0.exec
  have hb := B0.bytes
  have hr := B0.returns
  have htw : ∀ w ∈ xW0, w.before [.int x1].toArray s = true := fun w h => atoms_spec (ws := Cond.code y_A_isMetal b_A_isMetal 1 (some .boolean) :: xW0) B0.pre w (List.mem_cons_of_mem _ h)
  have hown : s.vm.findClass R_A = some m.cls := findClass_of_methodNamed B0.named
  have hlocks := B0.notSynchronized
  subst hsz
  have hS : va_S (fun q => B ≤ q) s.heap s.heap [] := va_S.rf
  have hl := lv_entry ([.int x1]) (n := 1) (Nat.le_of_ble_eq_true rfl)
  rw [lg_entry_eq]
  generalize (lg_sl ([.int x1]) ++ List.replicate (1 - (lg_sl ([.int x1])).length) Slot.unset).toArray = ls at hl ⊢
  have hl : lv_has ls 1 [(0, .int x1)] := hl
  have hH : s.heap = s.heap := rfl
  refine lv_iload_n hx hb d_A_isMetal_0 rfl (lv_at hl 0 rfl) ?_
  refine lv_if_lt (tgt := 13) hx hb d_A_isMetal_1 (by decide) (fun c_1 => ?_) (fun c_1 => ?_)
  · refine lv_iconst (v := 0) hx hb d_A_isMetal_13 (by decide) ?_
    exact W.zret (v := 0) hx hb hr (by decide) (fun t ht _ => ⟨_, rfl, ⟨bI_0 (xm_0 c_1), ht⟩, hS.F ht⟩) hS.2.2 d_A_isMetal_14
  · refine lv_iload_n hx hb d_A_isMetal_4 rfl (lv_at hl 0 rfl) ?_
    refine lv_iconst (v := 4) hx hb d_A_isMetal_5 (by decide) ?_
    refine lv_icmp_ge (tgt := 13) hx hb d_A_isMetal_6 (by decide) (fun c_2 => ?_) (fun c_2 => ?_)
    · refine lv_iconst (v := 0) hx hb d_A_isMetal_13 (by decide) ?_
      exact W.zret (v := 0) hx hb hr (by decide) (fun t ht _ => ⟨_, rfl, ⟨bI_0 (xm_4 c_2), ht⟩, hS.F ht⟩) hS.2.2 d_A_isMetal_14
    · refine lv_iconst (v := 1) hx hb d_A_isMetal_9 (by decide) ?_
      refine lv_goto (tgt := 14) hx hb d_A_isMetal_10 (by decide) ?_
      exact W.zret (v := 1) hx hb hr (by decide) (fun t ht _ => ⟨_, rfl, ⟨bI_1 (xm_t c_1 c_2), ht⟩, hS.F ht⟩) hS.2.2 d_A_isMetal_14
set_option maxHeartbeats 4000000 in
set_option maxRecDepth 100000 in
theorem c_M_isMetal {l : Launch} {D : va_G} {K : Nat → ClassId} {B : Nat} {H : Heap} (x1 : Int32) : xC l D K B y_M_isMetal b_M_isMetal 1 (some .boolean) rm_M_isMetal [.int x1] H (fun v H1 => v = some (.int (bI (xm x1))) ∧ H1 = H) := by
  refine Met.ofW (cc := b_M_isMetal) (maxL := 1) (ret := (some .boolean)) (by decide) rfl ?_
  intro p e s m args below meth c s₁ B0 hml hv
  obtain ⟨rfl, hsz, hK, hN⟩ := hv
  have hx := B0.exec
  have hb := B0.bytes
  have hr := B0.returns
  have htw : ∀ w ∈ xW0, w.before [.int x1].toArray s = true := fun w h => atoms_spec (ws := Cond.code y_M_isMetal b_M_isMetal 1 (some .boolean) :: xW0) B0.pre w (List.mem_cons_of_mem _ h)
  have hown : s.vm.findClass R_M = some m.cls := findClass_of_methodNamed B0.named
  have hlocks := B0.notSynchronized
  subst hsz
  have hS : va_S (fun q => B ≤ q) s.heap s.heap [] := va_S.rf
  have hl := lv_entry ([.int x1]) (n := 1) (Nat.le_of_ble_eq_true rfl)
  rw [lg_entry_eq]
  generalize (lg_sl ([.int x1]) ++ List.replicate (1 - (lg_sl ([.int x1])).length) Slot.unset).toArray = ls at hl ⊢
  have hl : lv_has ls 1 [(0, .int x1)] := hl
  have hH : s.heap = s.heap := rfl
  refine lv_iload_n hx hb d_M_isMetal_0 rfl (lv_at hl 0 rfl) ?_
  refine lv_if_lt (tgt := 13) hx hb d_M_isMetal_1 (by decide) (fun c_1 => ?_) (fun c_1 => ?_)
  · refine lv_iconst (v := 0) hx hb d_M_isMetal_13 (by decide) ?_
    exact W.zret (v := 0) hx hb hr (by decide) (fun t ht _ => ⟨_, rfl, ⟨bI_0 (xm_0 c_1), ht⟩, hS.F ht⟩) hS.2.2 d_M_isMetal_14
  · refine lv_iload_n hx hb d_M_isMetal_4 rfl (lv_at hl 0 rfl) ?_
    refine lv_iconst (v := 4) hx hb d_M_isMetal_5 (by decide) ?_
    refine lv_icmp_ge (tgt := 13) hx hb d_M_isMetal_6 (by decide) (fun c_2 => ?_) (fun c_2 => ?_)
    · refine lv_iconst (v := 0) hx hb d_M_isMetal_13 (by decide) ?_
      exact W.zret (v := 0) hx hb hr (by decide) (fun t ht _ => ⟨_, rfl, ⟨bI_0 (xm_4 c_2), ht⟩, hS.F ht⟩) hS.2.2 d_M_isMetal_14
    · refine lv_iconst (v := 1) hx hb d_M_isMetal_9 (by decide) ?_
      refine lv_goto (tgt := 14) hx hb d_M_isMetal_10 (by decide) ?_
      exact W.zret (v := 1) hx hb hr (by decide) (fun t ht _ => ⟨_, rfl, ⟨bI_1 (xm_t c_1 c_2), ht⟩, hS.F ht⟩) hS.2.2 d_M_isMetal_14
end
section
/-! what the class answers -/
def f_money (σ : xS) : Int64 := σ.2.2.1 0 0
def f_grams (σ : xS) (x1 : Int32) : Int64 := opt (xi (σ.1 0) x1) (-1) fun i => σ.2.2.1 1 i
def f_left (σ : xS) (x1 x2 : Int32) : Int64 := opt (xi (σ.1 0) x1) (-1) fun i => opt (xi 4 x2) (-1) fun k => σ.2.2.1 (10 + i) k
def f_stock (σ : xS) (x1 x2 : Int32) : Int64 := opt (xi (σ.1 1) x1) (-1) fun i => opt (xi 4 x2) (-1) fun k => σ.2.2.1 (30 + i) k
def f_taken (σ : xS) (x1 x2 x3 : Int32) : Int64 := opt (xi (σ.1 0) x1) (-1) fun i => opt (xi 4 x3) (-1) fun k => opt (xi (σ.1 (10 + 2 * i)) x2) (-1) fun j => σ.2.2.1 (20 + i) (j * 4 + k)
set_option maxHeartbeats 4000000 in
set_option maxRecDepth 100000 in
theorem c_A_batchAt {l : Launch} {D : va_G} {K : Nat → ClassId} {B : Nat} {ad : Nat → Nat} {w : Nat → Option va_E} {H : Heap} {σ : xS} (hR : RepX K σ ad w) (hnb : σ.1 0 ≤ 8) (hns : σ.1 1 ≤ 6) (hw : xw D vwCl B ad w H) (x1 : Int32) : xC l D K B y_A_batchAt b_A_batchAt 2 (some (.object "AshMetals$Batch")) rm_A_batchAt [.ref (ad 0), .int x1] H (fun v H1 => H1 = H ∧ ((xi (σ.1 0) x1 = none ∧ v = some .null) ∨ ∃ i, i < σ.1 0 ∧ x1 = nI i ∧ v = some (.ref (ad (100 + i))))) := by
  refine Met.ofW (cc := b_A_batchAt) (maxL := 2) (ret := (some (.object "AshMetals$Batch"))) (by decide) rfl ?_
  intro p e s m args below meth c s₁ B0 hml hv
  obtain ⟨rfl, hsz, hK, hN⟩ := hv
  have hx := B0.exec
  have hb := B0.bytes
  have hr := B0.returns
  have htw : ∀ w ∈ xW0, w.before [.ref (ad 0), .int x1].toArray s = true := fun w h => atoms_spec (ws := Cond.code y_A_batchAt b_A_batchAt 2 (some (.object "AshMetals$Batch")) :: xW0) B0.pre w (List.mem_cons_of_mem _ h)
  have hown : s.vm.findClass R_A = some m.cls := findClass_of_methodNamed B0.named
  have hlocks := B0.notSynchronized
  subst hsz
  have hS : va_S (fun q => B ≤ q) s.heap s.heap [] := va_S.rf
  have hl := lv_entry ([.ref (ad 0), .int x1]) (n := 2) (Nat.le_of_ble_eq_true rfl)
  rw [lg_entry_eq]
  generalize (lg_sl ([.ref (ad 0), .int x1]) ++ List.replicate (2 - (lg_sl ([.ref (ad 0), .int x1])).length) Slot.unset).toArray = ls at hl ⊢
  have hl : lv_has ls 2 [(0, .ref (ad 0)), (1, .int x1)] := hl
  have hH : s.heap = s.heap := rfl
  obtain ⟨r0, r1, r2, r3, r4, r5, r6, r7, rb, rba, rbt, rbo, rs, rss, rr⟩ := id hR
  refine lv_iload_n hx hb d_A_batchAt_0 rfl (lv_at hl 1 rfl) ?_
  refine lv_if_lt (tgt := 21) hx hb d_A_batchAt_1 (by decide) (fun c_1 => ?_) (fun c_1 => ?_)
  · refine lv_null hx hb d_A_batchAt_21 ?_
    exact W.aret (v := .null) hx hb hr (Or.inl ⟨_, rfl⟩) (Or.inl rfl) (fun t ht _ => ⟨_, rfl, ⟨ht, Or.inl ⟨xi_0 c_1, rfl⟩⟩, hS.F ht⟩) hS.2.2 d_A_batchAt_22
  · refine lv_iload_n hx hb d_A_batchAt_4 rfl (lv_at hl 1 rfl) ?_
    refine lv_aload_n hx hb d_A_batchAt_5 rfl (lv_at hl 0 rfl) ?_
    refine xr_get (ci := 0) (v := .int (nI (σ.1 0))) (C := R_A) (T := T_A) (N := 10) hx hb htw in_A hown hK hw 0 r0 rfl rfl 1 (by decide) (htw _ u_42) (fun _ h9 => h9) rfl d_A_batchAt_6 ?_
    refine lv_icmp_ge (tgt := 21) hx hb d_A_batchAt_9 (by decide) (fun c_2 => ?_) (fun c_2 => ?_)
    · refine lv_null hx hb d_A_batchAt_21 ?_
      exact W.aret (v := .null) hx hb hr (Or.inl ⟨_, rfl⟩) (Or.inl rfl) (fun t ht _ => ⟨_, rfl, ⟨ht, Or.inl ⟨xi_n c_2 (by omega), rfl⟩⟩, hS.F ht⟩) hS.2.2 d_A_batchAt_22
    · obtain ⟨i, hi, rfl⟩ := xi_t c_1 c_2 (by omega)
      refine lv_aload_n hx hb d_A_batchAt_12 rfl (lv_at hl 0 rfl) ?_
      refine xr_get (ci := 0) (v := .ref (ad 1)) (C := R_A) (T := T_A) (N := 10) hx hb htw in_A hown hK hw 0 r0 rfl rfl 0 (by decide) (htw _ u_41) (fun _ h9 => h9) rfl d_A_batchAt_13 ?_
      refine lv_iload_n hx hb d_A_batchAt_16 rfl (lv_at hl 1 rfl) ?_
      refine xr_aldq (i := nI i) hx hb hK hw 1 2 r1 rfl rfl (xvin (a := i) rfl (by omega) (by omega)) d_A_batchAt_17 ?_
      refine W.eq (g2 := F0 m 18 ls (.ref (ad (100 + i)) :: [])) (congrArg (fun z => F0 m 18 ls (va_rf z :: [])) (show (if (nI i).toNatClampNeg < σ.1 0 then some (ad (100 + (nI i).toNatClampNeg)) else none) = some (ad (100 + i)) by rw [xcl (a := i) rfl (by omega)]; exact if_pos hi)) ?_
      refine lv_goto (tgt := 22) hx hb d_A_batchAt_18 (by decide) ?_
      exact W.aret (v := .ref (ad (100 + i))) hx hb hr (Or.inl ⟨_, rfl⟩) (Or.inr ⟨_, rfl⟩) (fun t ht _ => ⟨_, rfl, ⟨ht, Or.inr ⟨i, hi, rfl, rfl⟩⟩, hS.F ht⟩) hS.2.2 d_A_batchAt_22
set_option maxHeartbeats 4000000 in
set_option maxRecDepth 100000 in
theorem c_A_stageAt {l : Launch} {D : va_G} {K : Nat → ClassId} {B : Nat} {ad : Nat → Nat} {w : Nat → Option va_E} {H : Heap} {σ : xS} (hR : RepX K σ ad w) (hnb : σ.1 0 ≤ 8) (hns : σ.1 1 ≤ 6) (hw : xw D vwCl B ad w H) (x1 : Int32) : xC l D K B y_A_stageAt b_A_stageAt 2 (some (.object "AshMetals$Stage")) rm_A_stageAt [.ref (ad 0), .int x1] H (fun v H1 => H1 = H ∧ ((xi (σ.1 1) x1 = none ∧ v = some .null) ∨ ∃ i, i < σ.1 1 ∧ x1 = nI i ∧ v = some (.ref (ad (140 + i))))) := by
  refine Met.ofW (cc := b_A_stageAt) (maxL := 2) (ret := (some (.object "AshMetals$Stage"))) (by decide) rfl ?_
  intro p e s m args below meth c s₁ B0 hml hv
  obtain ⟨rfl, hsz, hK, hN⟩ := hv
  have hx := B0.exec
  have hb := B0.bytes
  have hr := B0.returns
  have htw : ∀ w ∈ xW0, w.before [.ref (ad 0), .int x1].toArray s = true := fun w h => atoms_spec (ws := Cond.code y_A_stageAt b_A_stageAt 2 (some (.object "AshMetals$Stage")) :: xW0) B0.pre w (List.mem_cons_of_mem _ h)
  have hown : s.vm.findClass R_A = some m.cls := findClass_of_methodNamed B0.named
  have hlocks := B0.notSynchronized
  subst hsz
  have hS : va_S (fun q => B ≤ q) s.heap s.heap [] := va_S.rf
  have hl := lv_entry ([.ref (ad 0), .int x1]) (n := 2) (Nat.le_of_ble_eq_true rfl)
  rw [lg_entry_eq]
  generalize (lg_sl ([.ref (ad 0), .int x1]) ++ List.replicate (2 - (lg_sl ([.ref (ad 0), .int x1])).length) Slot.unset).toArray = ls at hl ⊢
  have hl : lv_has ls 2 [(0, .ref (ad 0)), (1, .int x1)] := hl
  have hH : s.heap = s.heap := rfl
  obtain ⟨r0, r1, r2, r3, r4, r5, r6, r7, rb, rba, rbt, rbo, rs, rss, rr⟩ := id hR
  refine lv_iload_n hx hb d_A_stageAt_0 rfl (lv_at hl 1 rfl) ?_
  refine lv_if_lt (tgt := 21) hx hb d_A_stageAt_1 (by decide) (fun c_1 => ?_) (fun c_1 => ?_)
  · refine lv_null hx hb d_A_stageAt_21 ?_
    exact W.aret (v := .null) hx hb hr (Or.inl ⟨_, rfl⟩) (Or.inl rfl) (fun t ht _ => ⟨_, rfl, ⟨ht, Or.inl ⟨xi_0 c_1, rfl⟩⟩, hS.F ht⟩) hS.2.2 d_A_stageAt_22
  · refine lv_iload_n hx hb d_A_stageAt_4 rfl (lv_at hl 1 rfl) ?_
    refine lv_aload_n hx hb d_A_stageAt_5 rfl (lv_at hl 0 rfl) ?_
    refine xr_get (ci := 0) (v := .int (nI (σ.1 1))) (C := R_A) (T := T_A) (N := 10) hx hb htw in_A hown hK hw 0 r0 rfl rfl 3 (by decide) (htw _ u_44) (fun _ h9 => h9) rfl d_A_stageAt_6 ?_
    refine lv_icmp_ge (tgt := 21) hx hb d_A_stageAt_9 (by decide) (fun c_2 => ?_) (fun c_2 => ?_)
    · refine lv_null hx hb d_A_stageAt_21 ?_
      exact W.aret (v := .null) hx hb hr (Or.inl ⟨_, rfl⟩) (Or.inl rfl) (fun t ht _ => ⟨_, rfl, ⟨ht, Or.inl ⟨xi_n c_2 (by omega), rfl⟩⟩, hS.F ht⟩) hS.2.2 d_A_stageAt_22
    · obtain ⟨i, hi, rfl⟩ := xi_t c_1 c_2 (by omega)
      refine lv_aload_n hx hb d_A_stageAt_12 rfl (lv_at hl 0 rfl) ?_
      refine xr_get (ci := 0) (v := .ref (ad 2)) (C := R_A) (T := T_A) (N := 10) hx hb htw in_A hown hK hw 0 r0 rfl rfl 2 (by decide) (htw _ u_43) (fun _ h9 => h9) rfl d_A_stageAt_13 ?_
      refine lv_iload_n hx hb d_A_stageAt_16 rfl (lv_at hl 1 rfl) ?_
      refine xr_aldq (i := nI i) hx hb hK hw 2 3 r2 rfl rfl (xvin (a := i) rfl (by omega) (by omega)) d_A_stageAt_17 ?_
      refine W.eq (g2 := F0 m 18 ls (.ref (ad (140 + i)) :: [])) (congrArg (fun z => F0 m 18 ls (va_rf z :: [])) (show (if (nI i).toNatClampNeg < σ.1 1 then some (ad (140 + (nI i).toNatClampNeg)) else none) = some (ad (140 + i)) by rw [xcl (a := i) rfl (by omega)]; exact if_pos hi)) ?_
      refine lv_goto (tgt := 22) hx hb d_A_stageAt_18 (by decide) ?_
      exact W.aret (v := .ref (ad (140 + i))) hx hb hr (Or.inl ⟨_, rfl⟩) (Or.inr ⟨_, rfl⟩) (fun t ht _ => ⟨_, rfl, ⟨ht, Or.inr ⟨i, hi, rfl, rfl⟩⟩, hS.F ht⟩) hS.2.2 d_A_stageAt_22
set_option maxHeartbeats 4000000 in
set_option maxRecDepth 100000 in
theorem c_A_money {l : Launch} {D : va_G} {K : Nat → ClassId} {B : Nat} {ad : Nat → Nat} {w : Nat → Option va_E} {H : Heap} {σ : xS} (hR : RepX K σ ad w) (hI : Inv σ) (hw : xw D vwCl B ad w H) : xC l D K B y_A_money b_A_money 1 (some .long) rm_A_money [.ref (ad 0)] H (fun v H1 => v = some (.long (f_money σ)) ∧ H1 = H) := by
  refine Met.ofW (cc := b_A_money) (maxL := 1) (ret := (some .long)) (by decide) rfl ?_
  intro p e s m args below meth c s₁ B0 hml hv
  obtain ⟨rfl, hsz, hK, hN⟩ := hv
  have hx := B0.exec
  have hb := B0.bytes
  have hr := B0.returns
  have htw : ∀ w ∈ xW0, w.before [.ref (ad 0)].toArray s = true := fun w h => atoms_spec (ws := Cond.code y_A_money b_A_money 1 (some .long) :: xW0) B0.pre w (List.mem_cons_of_mem _ h)
  have hown : s.vm.findClass R_A = some m.cls := findClass_of_methodNamed B0.named
  have hlocks := B0.notSynchronized
  subst hsz
  have hS : va_S (fun q => B ≤ q) s.heap s.heap [] := va_S.rf
  have hl := lv_entry ([.ref (ad 0)]) (n := 1) (Nat.le_of_ble_eq_true rfl)
  rw [lg_entry_eq]
  generalize (lg_sl ([.ref (ad 0)]) ++ List.replicate (1 - (lg_sl ([.ref (ad 0)])).length) Slot.unset).toArray = ls at hl ⊢
  have hl : lv_has ls 1 [(0, .ref (ad 0))] := hl
  have hH : s.heap = s.heap := rfl
  obtain ⟨r0, r1, r2, r3, r4, r5, r6, r7, rb, rba, rbt, rbo, rs, rss, rr⟩ := id hR
  obtain ⟨hnb, hns, hnr, hpc, hst, hto, htl, hrm, hpa, hwt, hdf, hds⟩ := id hI
  refine lv_aload_n hx hb d_A_money_0 rfl (lv_at hl 0 rfl) ?_
  refine xr_get (ci := 0) (v := .long (σ.2.2.1 0 0)) (C := R_A) (T := T_A) (N := 10) hx hb htw in_A hown hK hw 0 r0 rfl rfl 9 (by decide) (htw _ u_50) (fun _ h9 => h9) rfl d_A_money_1 ?_
  exact W.lret (v := σ.2.2.1 0 0) hx hb hr (fun t ht _ => ⟨_, rfl, ⟨by simp [f_money, opt_n, opt_s], ht⟩, hS.F ht⟩) hS.2.2 d_A_money_4
set_option maxHeartbeats 4000000 in
set_option maxRecDepth 100000 in
theorem c_A_grams {l : Launch} {D : va_G} {K : Nat → ClassId} {B : Nat} {ad : Nat → Nat} {w : Nat → Option va_E} {H : Heap} {σ : xS} (hR : RepX K σ ad w) (hI : Inv σ) (hw : xw D vwCl B ad w H) (x1 : Int32) : xC l D K B y_A_grams b_A_grams 3 (some .long) rm_A_grams [.ref (ad 0), .int x1] H (fun v H1 => v = some (.long (f_grams σ x1)) ∧ H1 = H) := by
  refine Met.ofW (cc := b_A_grams) (maxL := 3) (ret := (some .long)) (by decide) rfl ?_
  intro p e s m args below meth c s₁ B0 hml hv
  obtain ⟨rfl, hsz, hK, hN⟩ := hv
  have hx := B0.exec
  have hb := B0.bytes
  have hr := B0.returns
  have htw : ∀ w ∈ xW0, w.before [.ref (ad 0), .int x1].toArray s = true := fun w h => atoms_spec (ws := Cond.code y_A_grams b_A_grams 3 (some .long) :: xW0) B0.pre w (List.mem_cons_of_mem _ h)
  have hown : s.vm.findClass R_A = some m.cls := findClass_of_methodNamed B0.named
  have hlocks := B0.notSynchronized
  subst hsz
  have hS : va_S (fun q => B ≤ q) s.heap s.heap [] := va_S.rf
  have hl := lv_entry ([.ref (ad 0), .int x1]) (n := 3) (Nat.le_of_ble_eq_true rfl)
  rw [lg_entry_eq]
  generalize (lg_sl ([.ref (ad 0), .int x1]) ++ List.replicate (3 - (lg_sl ([.ref (ad 0), .int x1])).length) Slot.unset).toArray = ls at hl ⊢
  have hl : lv_has ls 3 [(0, .ref (ad 0)), (1, .int x1)] := hl
  have hH : s.heap = s.heap := rfl
  obtain ⟨r0, r1, r2, r3, r4, r5, r6, r7, rb, rba, rbt, rbo, rs, rss, rr⟩ := id hR
  obtain ⟨hnb, hns, hnr, hpc, hst, hto, htl, hrm, hpa, hwt, hdf, hds⟩ := id hI
  refine lv_aload_n hx hb d_A_grams_0 rfl (lv_at hl 0 rfl) ?_
  refine lv_iload_n hx hb d_A_grams_1 rfl (lv_at hl 1 rfl) ?_
  refine xr_call (va_runV (As := [.int x1]) (rest := []) ⟨hx, hb, hml, hown, htw⟩ (c_A_batchAt (ad := ad) hR hnb hns hw x1) (cwV 1 htw (gV u_131 u_133 us_1 u_1 u_134) rfl rfl rfl hd_A_batchAt ⟨Nat.le_of_ble_eq_true rfl, Nat.le_of_ble_eq_true rfl⟩) ⟨xP_blind, hw.recv hK (ci := 0) (t := 0) rfl r0 rfl, xP_of hK hN⟩ rfl rfl hl.1 rfl (lv_room (Nat.le_of_ble_eq_true rfl)) d_A_grams_2 ⟨by decide, by decide⟩) hS (fun v H_ locs hp hS => ?_)
  obtain ⟨hHe, hp⟩ := hp
  rw [hHe] at hS ⊢
  rcases hp with ⟨f2, rfl⟩ | ⟨i1, hi1, rfl, rfl⟩
  · refine W.eq (g2 := F0 m 5 ls [.null]) rfl ?_
    refine lv_astore_nN (lv' := [(2, .null), (0, .ref (ad 0)), (1, .int x1)]) hx hb d_A_grams_5 rfl hl (by decide) rfl (fun ls hl => ?_)
    refine lv_aload_nN hx hb d_A_grams_6 rfl (lv_at hl 0 rfl) ?_
    refine lv_ifnonnullN hx hb d_A_grams_7 ?_
    refine lv_ldc2 (v := (-1)) hx hb hown (htw _ u_191) d_A_grams_10 ?_
    refine lv_goto (tgt := 20) hx hb d_A_grams_13 (by decide) ?_
    exact W.lret (v := (-1)) hx hb hr (fun t ht _ => ⟨_, rfl, ⟨by simp [f_grams, opt_n, opt_s, f2], ht⟩, hS.F ht⟩) hS.2.2 d_A_grams_20
  · have fi1 : xi (σ.1 0) (nI i1) = some i1 := xi_nI hi1 (by omega)
    refine W.eq (g2 := F0 m 5 ls [.ref (ad (100 + i1))]) rfl ?_
    refine lv_astore_n (lv' := [(2, .ref (ad (100 + i1))), (0, .ref (ad 0)), (1, .int (nI i1))]) hx hb d_A_grams_5 rfl hl (by decide) rfl (fun ls hl => ?_)
    refine lv_aload_n hx hb d_A_grams_6 rfl (lv_at hl 0 rfl) ?_
    refine lv_ifnonnull (tgt := 16) hx hb d_A_grams_7 (by decide) ?_
    refine lv_aload_n hx hb d_A_grams_16 rfl (lv_at hl 0 rfl) ?_
    refine xr_get (ci := 1) (v := .long (σ.2.2.1 1 i1)) (C := R_B) (T := T_B) (N := 9) hx hb htw in_B hown hK hw (100 + i1) (rb i1 hi1) rfl rfl 5 (by decide) (htw _ u_100) (fun _ h9 => h9) rfl d_A_grams_17 ?_
    exact W.lret (v := σ.2.2.1 1 i1) hx hb hr (fun t ht _ => ⟨_, rfl, ⟨by simp [f_grams, opt_n, opt_s, fi1], ht⟩, hS.F ht⟩) hS.2.2 d_A_grams_20
set_option maxHeartbeats 4000000 in
set_option maxRecDepth 100000 in
theorem c_A_left {l : Launch} {D : va_G} {K : Nat → ClassId} {B : Nat} {ad : Nat → Nat} {w : Nat → Option va_E} {H : Heap} {σ : xS} (hR : RepX K σ ad w) (hI : Inv σ) (hw : xw D vwCl B ad w H) (x1 x2 : Int32) : xC l D K B y_A_left b_A_left 4 (some .long) rm_A_left [.ref (ad 0), .int x1, .int x2] H (fun v H1 => v = some (.long (f_left σ x1 x2)) ∧ H1 = H) := by
  refine Met.ofW (cc := b_A_left) (maxL := 4) (ret := (some .long)) (by decide) rfl ?_
  intro p e s m args below meth c s₁ B0 hml hv
  obtain ⟨rfl, hsz, hK, hN⟩ := hv
  have hx := B0.exec
  have hb := B0.bytes
  have hr := B0.returns
  have htw : ∀ w ∈ xW0, w.before [.ref (ad 0), .int x1, .int x2].toArray s = true := fun w h => atoms_spec (ws := Cond.code y_A_left b_A_left 4 (some .long) :: xW0) B0.pre w (List.mem_cons_of_mem _ h)
  have hown : s.vm.findClass R_A = some m.cls := findClass_of_methodNamed B0.named
  have hlocks := B0.notSynchronized
  subst hsz
  have hS : va_S (fun q => B ≤ q) s.heap s.heap [] := va_S.rf
  have hl := lv_entry ([.ref (ad 0), .int x1, .int x2]) (n := 4) (Nat.le_of_ble_eq_true rfl)
  rw [lg_entry_eq]
  generalize (lg_sl ([.ref (ad 0), .int x1, .int x2]) ++ List.replicate (4 - (lg_sl ([.ref (ad 0), .int x1, .int x2])).length) Slot.unset).toArray = ls at hl ⊢
  have hl : lv_has ls 4 [(0, .ref (ad 0)), (1, .int x1), (2, .int x2)] := hl
  have hH : s.heap = s.heap := rfl
  obtain ⟨r0, r1, r2, r3, r4, r5, r6, r7, rb, rba, rbt, rbo, rs, rss, rr⟩ := id hR
  obtain ⟨hnb, hns, hnr, hpc, hst, hto, htl, hrm, hpa, hwt, hdf, hds⟩ := id hI
  refine lv_aload_n hx hb d_A_left_0 rfl (lv_at hl 0 rfl) ?_
  refine lv_iload_n hx hb d_A_left_1 rfl (lv_at hl 1 rfl) ?_
  refine xr_call (va_runV (As := [.int x1]) (rest := []) ⟨hx, hb, hml, hown, htw⟩ (c_A_batchAt (ad := ad) hR hnb hns hw x1) (cwV 1 htw (gV u_131 u_133 us_1 u_1 u_134) rfl rfl rfl hd_A_batchAt ⟨Nat.le_of_ble_eq_true rfl, Nat.le_of_ble_eq_true rfl⟩) ⟨xP_blind, hw.recv hK (ci := 0) (t := 0) rfl r0 rfl, xP_of hK hN⟩ rfl rfl hl.1 rfl (lv_room (Nat.le_of_ble_eq_true rfl)) d_A_left_2 ⟨by decide, by decide⟩) hS (fun v H_ locs hp hS => ?_)
  obtain ⟨hHe, hp⟩ := hp
  rw [hHe] at hS ⊢
  rcases hp with ⟨f2, rfl⟩ | ⟨i1, hi1, rfl, rfl⟩
  · refine W.eq (g2 := F0 m 5 ls [.null]) rfl ?_
    refine lv_astore_nN (lv' := [(3, .null), (0, .ref (ad 0)), (1, .int x1), (2, .int x2)]) hx hb d_A_left_5 rfl hl (by decide) rfl (fun ls hl => ?_)
    refine lv_aload_nN hx hb d_A_left_6 rfl (lv_at hl 0 rfl) ?_
    refine lv_ifnullN (tgt := 17) hx hb d_A_left_7 (by decide) ?_
    refine lv_ldc2 (v := (-1)) hx hb hown (htw _ u_191) d_A_left_17 ?_
    exact W.lret (v := (-1)) hx hb hr (fun t ht _ => ⟨_, rfl, ⟨by simp [f_left, opt_n, opt_s, f2], ht⟩, hS.F ht⟩) hS.2.2 d_A_left_20
  · have fi1 : xi (σ.1 0) (nI i1) = some i1 := xi_nI hi1 (by omega)
    refine W.eq (g2 := F0 m 5 ls [.ref (ad (100 + i1))]) rfl ?_
    refine lv_astore_n (lv' := [(3, .ref (ad (100 + i1))), (0, .ref (ad 0)), (1, .int (nI i1)), (2, .int x2)]) hx hb d_A_left_5 rfl hl (by decide) rfl (fun ls hl => ?_)
    refine lv_aload_n hx hb d_A_left_6 rfl (lv_at hl 0 rfl) ?_
    refine lv_ifnull hx hb d_A_left_7 ?_
    refine lv_iload_n hx hb d_A_left_10 rfl (lv_at hl 3 rfl) ?_
    refine xr_call (va_runS (As := [.int x2]) (rest := []) ⟨hx, hb, hml, hown, htw⟩ (c_A_isMetal x2) (va_cwS 1 htw (gS u_135 u_136 u_1 u_137) rfl rfl rfl hd_A_isMetal.2 ⟨Nat.le_of_ble_eq_true rfl, Nat.le_of_ble_eq_true rfl⟩) ⟨xP_blind, xP_of hK hN⟩ rfl rfl hl.1 rfl (lv_room (Nat.le_of_ble_eq_true rfl)) d_A_left_11 ⟨by decide, by decide⟩) hS (fun v H_ locs hp hS => ?_)
    obtain ⟨rfl, hHe⟩ := hp
    rw [hHe] at hS ⊢
    refine W.eq (g2 := F0 m 14 ls [.int (bI (xm x2))]) rfl ?_
    refine lv_if_ne (tgt := 21) hx hb d_A_left_14 (by decide) (fun c_3 => ?_) (fun c_3 => ?_)
    · have c_3 : (xm x2) = true := bI_t.mp c_3
      obtain ⟨k4, hk4, rfl⟩ := xm_of c_3
      have xk4 : xi 4 (nI k4) = some k4 := xi_nI hk4 (by decide)
      refine lv_aload_n hx hb d_A_left_21 rfl (lv_at hl 0 rfl) ?_
      refine xr_get (ci := 1) (v := .ref (ad (110 + i1))) (C := R_B) (T := T_B) (N := 9) hx hb htw in_B hown hK hw (100 + i1) (rb i1 hi1) rfl rfl 2 (by decide) (htw _ u_94) (fun _ h9 => h9) rfl d_A_left_22 ?_
      refine lv_iload_n hx hb d_A_left_25 rfl (lv_at hl 3 rfl) ?_
      refine xr_lald (i := nI k4) hx hb hK hw (110 + i1) 1 (rba i1 hi1) rfl rfl (xvin (a := k4) rfl (by omega) (by omega)) d_A_left_26 ?_
      refine lv_topl (fun x_5 ex_5 => ?_)
      obtain rfl : x_5 = (σ.2.2.1 (10 + i1)) k4 := ex_5.trans ((congrArg (σ.2.2.1 (10 + i1)) (xcl (a := k4) rfl (by omega))).trans rfl)
      exact W.lret (v := (σ.2.2.1 (10 + i1)) k4) hx hb hr (fun t ht _ => ⟨_, rfl, ⟨by simp [f_left, opt_n, opt_s, fi1, xk4, c_3], ht⟩, hS.F ht⟩) hS.2.2 d_A_left_27
    · have c_3 : (xm x2) = false := bI_f.mp c_3
      have f6 : xi 4 x2 = none := xm_xi c_3
      refine lv_ldc2 (v := (-1)) hx hb hown (htw _ u_191) d_A_left_17 ?_
      exact W.lret (v := (-1)) hx hb hr (fun t ht _ => ⟨_, rfl, ⟨by simp [f_left, opt_n, opt_s, fi1, f6, c_3], ht⟩, hS.F ht⟩) hS.2.2 d_A_left_20
set_option maxHeartbeats 4000000 in
set_option maxRecDepth 100000 in
theorem c_A_stock {l : Launch} {D : va_G} {K : Nat → ClassId} {B : Nat} {ad : Nat → Nat} {w : Nat → Option va_E} {H : Heap} {σ : xS} (hR : RepX K σ ad w) (hI : Inv σ) (hw : xw D vwCl B ad w H) (x1 x2 : Int32) : xC l D K B y_A_stock b_A_stock 4 (some .long) rm_A_stock [.ref (ad 0), .int x1, .int x2] H (fun v H1 => v = some (.long (f_stock σ x1 x2)) ∧ H1 = H) := by
  refine Met.ofW (cc := b_A_stock) (maxL := 4) (ret := (some .long)) (by decide) rfl ?_
  intro p e s m args below meth c s₁ B0 hml hv
  obtain ⟨rfl, hsz, hK, hN⟩ := hv
  have hx := B0.exec
  have hb := B0.bytes
  have hr := B0.returns
  have htw : ∀ w ∈ xW0, w.before [.ref (ad 0), .int x1, .int x2].toArray s = true := fun w h => atoms_spec (ws := Cond.code y_A_stock b_A_stock 4 (some .long) :: xW0) B0.pre w (List.mem_cons_of_mem _ h)
  have hown : s.vm.findClass R_A = some m.cls := findClass_of_methodNamed B0.named
  have hlocks := B0.notSynchronized
  subst hsz
  have hS : va_S (fun q => B ≤ q) s.heap s.heap [] := va_S.rf
  have hl := lv_entry ([.ref (ad 0), .int x1, .int x2]) (n := 4) (Nat.le_of_ble_eq_true rfl)
  rw [lg_entry_eq]
  generalize (lg_sl ([.ref (ad 0), .int x1, .int x2]) ++ List.replicate (4 - (lg_sl ([.ref (ad 0), .int x1, .int x2])).length) Slot.unset).toArray = ls at hl ⊢
  have hl : lv_has ls 4 [(0, .ref (ad 0)), (1, .int x1), (2, .int x2)] := hl
  have hH : s.heap = s.heap := rfl
  obtain ⟨r0, r1, r2, r3, r4, r5, r6, r7, rb, rba, rbt, rbo, rs, rss, rr⟩ := id hR
  obtain ⟨hnb, hns, hnr, hpc, hst, hto, htl, hrm, hpa, hwt, hdf, hds⟩ := id hI
  refine lv_aload_n hx hb d_A_stock_0 rfl (lv_at hl 0 rfl) ?_
  refine lv_iload_n hx hb d_A_stock_1 rfl (lv_at hl 1 rfl) ?_
  refine xr_call (va_runV (As := [.int x1]) (rest := []) ⟨hx, hb, hml, hown, htw⟩ (c_A_stageAt (ad := ad) hR hnb hns hw x1) (cwV 1 htw (gV u_176 u_178 us_3 u_1 u_179) rfl rfl rfl hd_A_stageAt ⟨Nat.le_of_ble_eq_true rfl, Nat.le_of_ble_eq_true rfl⟩) ⟨xP_blind, hw.recv hK (ci := 0) (t := 0) rfl r0 rfl, xP_of hK hN⟩ rfl rfl hl.1 rfl (lv_room (Nat.le_of_ble_eq_true rfl)) d_A_stock_2 ⟨by decide, by decide⟩) hS (fun v H_ locs hp hS => ?_)
  obtain ⟨hHe, hp⟩ := hp
  rw [hHe] at hS ⊢
  rcases hp with ⟨f2, rfl⟩ | ⟨i1, hi1, rfl, rfl⟩
  · refine W.eq (g2 := F0 m 5 ls [.null]) rfl ?_
    refine lv_astore_nN (lv' := [(3, .null), (0, .ref (ad 0)), (1, .int x1), (2, .int x2)]) hx hb d_A_stock_5 rfl hl (by decide) rfl (fun ls hl => ?_)
    refine lv_aload_nN hx hb d_A_stock_6 rfl (lv_at hl 0 rfl) ?_
    refine lv_ifnullN (tgt := 17) hx hb d_A_stock_7 (by decide) ?_
    refine lv_ldc2 (v := (-1)) hx hb hown (htw _ u_191) d_A_stock_17 ?_
    exact W.lret (v := (-1)) hx hb hr (fun t ht _ => ⟨_, rfl, ⟨by simp [f_stock, opt_n, opt_s, f2], ht⟩, hS.F ht⟩) hS.2.2 d_A_stock_20
  · have fi1 : xi (σ.1 1) (nI i1) = some i1 := xi_nI hi1 (by omega)
    refine W.eq (g2 := F0 m 5 ls [.ref (ad (140 + i1))]) rfl ?_
    refine lv_astore_n (lv' := [(3, .ref (ad (140 + i1))), (0, .ref (ad 0)), (1, .int (nI i1)), (2, .int x2)]) hx hb d_A_stock_5 rfl hl (by decide) rfl (fun ls hl => ?_)
    refine lv_aload_n hx hb d_A_stock_6 rfl (lv_at hl 0 rfl) ?_
    refine lv_ifnull hx hb d_A_stock_7 ?_
    refine lv_iload_n hx hb d_A_stock_10 rfl (lv_at hl 3 rfl) ?_
    refine xr_call (va_runS (As := [.int x2]) (rest := []) ⟨hx, hb, hml, hown, htw⟩ (c_A_isMetal x2) (va_cwS 1 htw (gS u_135 u_136 u_1 u_137) rfl rfl rfl hd_A_isMetal.2 ⟨Nat.le_of_ble_eq_true rfl, Nat.le_of_ble_eq_true rfl⟩) ⟨xP_blind, xP_of hK hN⟩ rfl rfl hl.1 rfl (lv_room (Nat.le_of_ble_eq_true rfl)) d_A_stock_11 ⟨by decide, by decide⟩) hS (fun v H_ locs hp hS => ?_)
    obtain ⟨rfl, hHe⟩ := hp
    rw [hHe] at hS ⊢
    refine W.eq (g2 := F0 m 14 ls [.int (bI (xm x2))]) rfl ?_
    refine lv_if_ne (tgt := 21) hx hb d_A_stock_14 (by decide) (fun c_3 => ?_) (fun c_3 => ?_)
    · have c_3 : (xm x2) = true := bI_t.mp c_3
      obtain ⟨k4, hk4, rfl⟩ := xm_of c_3
      have xk4 : xi 4 (nI k4) = some k4 := xi_nI hk4 (by decide)
      refine lv_aload_n hx hb d_A_stock_21 rfl (lv_at hl 0 rfl) ?_
      refine xr_get (ci := 2) (v := .ref (ad (150 + i1))) (C := R_S) (T := T_S) (N := 4) hx hb htw in_S hown hK hw (140 + i1) (rs i1 hi1) rfl rfl 3 (by decide) (htw _ u_158) (fun _ h9 => h9) rfl d_A_stock_22 ?_
      refine lv_iload_n hx hb d_A_stock_25 rfl (lv_at hl 3 rfl) ?_
      refine xr_lald (i := nI k4) hx hb hK hw (150 + i1) 1 (rss i1 hi1) rfl rfl (xvin (a := k4) rfl (by omega) (by omega)) d_A_stock_26 ?_
      refine lv_topl (fun x_5 ex_5 => ?_)
      obtain rfl : x_5 = (σ.2.2.1 (30 + i1)) k4 := ex_5.trans ((congrArg (σ.2.2.1 (30 + i1)) (xcl (a := k4) rfl (by omega))).trans rfl)
      exact W.lret (v := (σ.2.2.1 (30 + i1)) k4) hx hb hr (fun t ht _ => ⟨_, rfl, ⟨by simp [f_stock, opt_n, opt_s, fi1, xk4, c_3], ht⟩, hS.F ht⟩) hS.2.2 d_A_stock_27
    · have c_3 : (xm x2) = false := bI_f.mp c_3
      have f6 : xi 4 x2 = none := xm_xi c_3
      refine lv_ldc2 (v := (-1)) hx hb hown (htw _ u_191) d_A_stock_17 ?_
      exact W.lret (v := (-1)) hx hb hr (fun t ht _ => ⟨_, rfl, ⟨by simp [f_stock, opt_n, opt_s, fi1, f6, c_3], ht⟩, hS.F ht⟩) hS.2.2 d_A_stock_20
set_option maxHeartbeats 4000000 in
set_option maxRecDepth 100000 in
theorem c_A_taken {l : Launch} {D : va_G} {K : Nat → ClassId} {B : Nat} {ad : Nat → Nat} {w : Nat → Option va_E} {H : Heap} {σ : xS} (hR : RepX K σ ad w) (hI : Inv σ) (hw : xw D vwCl B ad w H) (x1 x2 x3 : Int32) : xC l D K B y_A_taken b_A_taken 5 (some .long) rm_A_taken [.ref (ad 0), .int x1, .int x2, .int x3] H (fun v H1 => v = some (.long (f_taken σ x1 x2 x3)) ∧ H1 = H) := by
  refine Met.ofW (cc := b_A_taken) (maxL := 5) (ret := (some .long)) (by decide) rfl ?_
  intro p e s m args below meth c s₁ B0 hml hv
  obtain ⟨rfl, hsz, hK, hN⟩ := hv
  have hx := B0.exec
  have hb := B0.bytes
  have hr := B0.returns
  have htw : ∀ w ∈ xW0, w.before [.ref (ad 0), .int x1, .int x2, .int x3].toArray s = true := fun w h => atoms_spec (ws := Cond.code y_A_taken b_A_taken 5 (some .long) :: xW0) B0.pre w (List.mem_cons_of_mem _ h)
  have hown : s.vm.findClass R_A = some m.cls := findClass_of_methodNamed B0.named
  have hlocks := B0.notSynchronized
  subst hsz
  have hS : va_S (fun q => B ≤ q) s.heap s.heap [] := va_S.rf
  have hl := lv_entry ([.ref (ad 0), .int x1, .int x2, .int x3]) (n := 5) (Nat.le_of_ble_eq_true rfl)
  rw [lg_entry_eq]
  generalize (lg_sl ([.ref (ad 0), .int x1, .int x2, .int x3]) ++ List.replicate (5 - (lg_sl ([.ref (ad 0), .int x1, .int x2, .int x3])).length) Slot.unset).toArray = ls at hl ⊢
  have hl : lv_has ls 5 [(0, .ref (ad 0)), (1, .int x1), (2, .int x2), (3, .int x3)] := hl
  have hH : s.heap = s.heap := rfl
  obtain ⟨r0, r1, r2, r3, r4, r5, r6, r7, rb, rba, rbt, rbo, rs, rss, rr⟩ := id hR
  obtain ⟨hnb, hns, hnr, hpc, hst, hto, htl, hrm, hpa, hwt, hdf, hds⟩ := id hI
  refine lv_aload_n hx hb d_A_taken_0 rfl (lv_at hl 0 rfl) ?_
  refine lv_iload_n hx hb d_A_taken_1 rfl (lv_at hl 1 rfl) ?_
  refine xr_call (va_runV (As := [.int x1]) (rest := []) ⟨hx, hb, hml, hown, htw⟩ (c_A_batchAt (ad := ad) hR hnb hns hw x1) (cwV 1 htw (gV u_131 u_133 us_1 u_1 u_134) rfl rfl rfl hd_A_batchAt ⟨Nat.le_of_ble_eq_true rfl, Nat.le_of_ble_eq_true rfl⟩) ⟨xP_blind, hw.recv hK (ci := 0) (t := 0) rfl r0 rfl, xP_of hK hN⟩ rfl rfl hl.1 rfl (lv_room (Nat.le_of_ble_eq_true rfl)) d_A_taken_2 ⟨by decide, by decide⟩) hS (fun v H_ locs hp hS => ?_)
  obtain ⟨hHe, hp⟩ := hp
  rw [hHe] at hS ⊢
  rcases hp with ⟨f2, rfl⟩ | ⟨i1, hi1, rfl, rfl⟩
  · refine W.eq (g2 := F0 m 5 ls [.null]) rfl ?_
    refine lv_astoreN (lv' := [(4, .null), (0, .ref (ad 0)), (1, .int x1), (2, .int x2), (3, .int x3)]) hx hb d_A_taken_5 hl (by decide) rfl (fun ls hl => ?_)
    refine lv_aloadN hx hb d_A_taken_7 (lv_at hl 0 rfl) ?_
    refine lv_ifnullN (tgt := 19) hx hb d_A_taken_9 (by decide) ?_
    refine lv_ldc2 (v := (-1)) hx hb hown (htw _ u_191) d_A_taken_19 ?_
    exact W.lret (v := (-1)) hx hb hr (fun t ht _ => ⟨_, rfl, ⟨by simp [f_taken, opt_n, opt_s, f2], ht⟩, hS.F ht⟩) hS.2.2 d_A_taken_22
  · have fi1 : xi (σ.1 0) (nI i1) = some i1 := xi_nI hi1 (by omega)
    refine W.eq (g2 := F0 m 5 ls [.ref (ad (100 + i1))]) rfl ?_
    refine lv_astore (lv' := [(4, .ref (ad (100 + i1))), (0, .ref (ad 0)), (1, .int (nI i1)), (2, .int x2), (3, .int x3)]) hx hb d_A_taken_5 hl (by decide) rfl (fun ls hl => ?_)
    refine lv_aload hx hb d_A_taken_7 (lv_at hl 0 rfl) ?_
    refine lv_ifnull hx hb d_A_taken_9 ?_
    refine lv_iload_n hx hb d_A_taken_12 rfl (lv_at hl 4 rfl) ?_
    refine xr_call (va_runS (As := [.int x3]) (rest := []) ⟨hx, hb, hml, hown, htw⟩ (c_A_isMetal x3) (va_cwS 1 htw (gS u_135 u_136 u_1 u_137) rfl rfl rfl hd_A_isMetal.2 ⟨Nat.le_of_ble_eq_true rfl, Nat.le_of_ble_eq_true rfl⟩) ⟨xP_blind, xP_of hK hN⟩ rfl rfl hl.1 rfl (lv_room (Nat.le_of_ble_eq_true rfl)) d_A_taken_13 ⟨by decide, by decide⟩) hS (fun v H_ locs hp hS => ?_)
    obtain ⟨rfl, hHe⟩ := hp
    rw [hHe] at hS ⊢
    refine W.eq (g2 := F0 m 16 ls [.int (bI (xm x3))]) rfl ?_
    refine lv_if_ne (tgt := 23) hx hb d_A_taken_16 (by decide) (fun c_3 => ?_) (fun c_3 => ?_)
    · have c_3 : (xm x3) = true := bI_t.mp c_3
      obtain ⟨k4, hk4, rfl⟩ := xm_of c_3
      have xk4 : xi 4 (nI k4) = some k4 := xi_nI hk4 (by decide)
      refine lv_iload_n hx hb d_A_taken_23 rfl (lv_at hl 3 rfl) ?_
      refine lv_if_lt (tgt := 42) hx hb d_A_taken_24 (by decide) (fun c_5 => ?_) (fun c_5 => ?_)
      · refine lv_ldc2 (v := (-1)) hx hb hown (htw _ u_191) d_A_taken_42 ?_
        exact W.lret (v := (-1)) hx hb hr (fun t ht _ => ⟨_, rfl, ⟨by simp [f_taken, opt_n, opt_s, fi1, xk4, c_3, xi_0 c_5], ht⟩, hS.F ht⟩) hS.2.2 d_A_taken_45
      · refine lv_iload_n hx hb d_A_taken_27 rfl (lv_at hl 3 rfl) ?_
        refine lv_aload hx hb d_A_taken_28 (lv_at hl 0 rfl) ?_
        refine xr_get (ci := 1) (v := .int (nI (σ.1 (10 + 2 * i1)))) (C := R_B) (T := T_B) (N := 9) hx hb htw in_B hown hK hw (100 + i1) (rb i1 hi1) rfl rfl 8 (by decide) (htw _ u_103) (fun _ h9 => h9) rfl d_A_taken_30 ?_
        refine lv_icmp_ge (tgt := 42) hx hb d_A_taken_33 (by decide) (fun c_6 => ?_) (fun c_6 => ?_)
        · refine lv_ldc2 (v := (-1)) hx hb hown (htw _ u_191) d_A_taken_42 ?_
          exact W.lret (v := (-1)) hx hb hr (fun t ht _ => ⟨_, rfl, ⟨by simp [f_taken, opt_n, opt_s, fi1, xk4, c_3, xi_n c_6 (by have := hst i1; omega)], ht⟩, hS.F ht⟩) hS.2.2 d_A_taken_45
        · refine lv_iload_n hx hb d_A_taken_36 rfl (lv_at hl 3 rfl) ?_
          refine lv_bipush (v := 6) hx hb d_A_taken_37 (by decide) ?_
          refine lv_icmp_lt (tgt := 46) hx hb d_A_taken_39 (by decide) (fun c_7 => ?_) (fun c_7 => ?_)
          · obtain ⟨j, hj, rfl⟩ := xi_t c_5 c_6 (by have := hst i1; omega)
            have := hst i1
            have xj : xi (σ.1 (10 + 2 * i1)) (nI j) = some j := xi_nI hj (by omega)
            refine lv_aload hx hb d_A_taken_46 (lv_at hl 0 rfl) ?_
            refine xr_get (ci := 1) (v := .ref (ad (120 + i1))) (C := R_B) (T := T_B) (N := 9) hx hb htw in_B hown hK hw (100 + i1) (rb i1 hi1) rfl rfl 3 (by decide) (htw _ u_96) (fun _ h9 => h9) rfl d_A_taken_48 ?_
            refine lv_iload_n hx hb d_A_taken_51 rfl (lv_at hl 3 rfl) ?_
            refine lv_iconst (v := 4) hx hb d_A_taken_52 (by decide) ?_
            refine lv_imul hx hb d_A_taken_53 ?_
            refine lv_iload_n hx hb d_A_taken_54 rfl (lv_at hl 4 rfl) ?_
            refine lv_iadd hx hb d_A_taken_55 ?_
            refine xr_lald (i := ((nI j) * 4) + (nI k4)) hx hb hK hw (120 + i1) 1 (rbt i1 hi1) rfl rfl (xvin (a := (j * 4) + k4) (xadd (a := j * 4) (b := k4) (xmul (a := j) (b := 4) rfl rfl) rfl) (by omega) (by omega)) d_A_taken_56 ?_
            refine lv_topl (fun x_8 ex_8 => ?_)
            obtain rfl : x_8 = (σ.2.2.1 (20 + i1)) ((j * 4) + k4) := ex_8.trans ((congrArg (σ.2.2.1 (20 + i1)) (xcl (a := (j * 4) + k4) (xadd (a := j * 4) (b := k4) (xmul (a := j) (b := 4) rfl rfl) rfl) (by omega))).trans rfl)
            exact W.lret (v := (σ.2.2.1 (20 + i1)) ((j * 4) + k4)) hx hb hr (fun t ht _ => ⟨_, rfl, ⟨by simp [f_taken, opt_n, opt_s, fi1, xk4, xj, c_3], ht⟩, hS.F ht⟩) hS.2.2 d_A_taken_57
          · refine lv_ldc2 (v := (-1)) hx hb hown (htw _ u_191) d_A_taken_42 ?_
            exact absurd (show x2 < 6 from by have h6 := hst i1; obtain ⟨j, hj, rfl⟩ := xi_t c_5 c_6 (by omega); exact (nLT (b := 6) (by omega) (by decide)).mpr (by omega)) c_7
    · have c_3 : (xm x3) = false := bI_f.mp c_3
      have f9 : xi 4 x3 = none := xm_xi c_3
      refine lv_ldc2 (v := (-1)) hx hb hown (htw _ u_191) d_A_taken_19 ?_
      exact W.lret (v := (-1)) hx hb hr (fun t ht _ => ⟨_, rfl, ⟨by simp [f_taken, opt_n, opt_s, fi1, f9, c_3], ht⟩, hS.F ht⟩) hS.2.2 d_A_taken_22
end
section
set_option maxHeartbeats 4000000 in
set_option maxRecDepth 100000 in
theorem c_B_allTold {l : Launch} {D : va_G} {K : Nat → ClassId} {B : Nat} {ad : Nat → Nat} {w : Nat → Option va_E} {H : Heap} {σ : xS} (hR : RepX K σ ad w) (hI : Inv σ) (hw : xw D vwCl B ad w H) (i : Nat) (hi : i < σ.1 0) (k : Nat) (hk : k < 4) : xC l D K B y_B_allTold b_B_allTold 3 (some .boolean) rm_B_allTold [.ref (ad (100 + i)), .int (nI k)] H (fun v H1 => v = some (.int (bI (allT (σ.2.1 (20 + i)) k))) ∧ H1 = H) := by
  refine Met.ofW (cc := b_B_allTold) (maxL := 3) (ret := (some .boolean)) (by decide) rfl ?_
  intro p e s m args below meth c s₁ B0 hml hv
  obtain ⟨rfl, hsz, hK, hN⟩ := hv
  have hx := B0.exec
  have hb := B0.bytes
  have hr := B0.returns
  have htw : ∀ w ∈ xW0, w.before [.ref (ad (100 + i)), .int (nI k)].toArray s = true := fun w h => atoms_spec (ws := Cond.code y_B_allTold b_B_allTold 3 (some .boolean) :: xW0) B0.pre w (List.mem_cons_of_mem _ h)
  have hown : s.vm.findClass R_B = some m.cls := findClass_of_methodNamed B0.named
  have hlocks := B0.notSynchronized
  subst hsz
  have hS : va_S (fun q => B ≤ q) s.heap s.heap [] := va_S.rf
  have hl := lv_entry ([.ref (ad (100 + i)), .int (nI k)]) (n := 3) (Nat.le_of_ble_eq_true rfl)
  rw [lg_entry_eq]
  generalize (lg_sl ([.ref (ad (100 + i)), .int (nI k)]) ++ List.replicate (3 - (lg_sl ([.ref (ad (100 + i)), .int (nI k)])).length) Slot.unset).toArray = ls at hl ⊢
  have hl : lv_has ls 3 [(0, .ref (ad (100 + i))), (1, .int (nI k))] := hl
  have hH : s.heap = s.heap := rfl
  obtain ⟨r0, r1, r2, r3, r4, r5, r6, r7, rb, rba, rbt, rbo, rs, rss, rr⟩ := id hR
  obtain ⟨hnb, hns, hnr, hpc, hst, hto, htl, hrm, hpa, hwt, hdf, hds⟩ := id hI
  refine lv_iload_n hx hb d_B_allTold_0 rfl (lv_at hl 1 rfl) ?_
  refine xr_call (va_runSN (As := [.int (nI k)]) (rest := []) ⟨hx, hb, hml, hown, htw⟩ (c_A_isMetal (nI k)) ⟨va_cnB 1 htw (gC u_137) rfl rfl rfl (hN (.methodLinkNest R_B 57 y_A_isMetal R_A) (by decide +kernel)).1 (htw _ u_1) hd_A_isMetal.2 ⟨Nat.le_of_ble_eq_true rfl, Nat.le_of_ble_eq_true rfl⟩, htw _ u_136, trivial⟩ ⟨xP_blind, xP_of hK hN⟩ rfl rfl hl.1 rfl (lv_room (Nat.le_of_ble_eq_true rfl)) d_B_allTold_1 ⟨by decide, by decide⟩) hS (fun v H_ locs hp hS => ?_)
  obtain ⟨rfl, hHe⟩ := hp
  rw [hHe] at hS ⊢
  refine W.eq (g2 := F0 m 4 ls [.int (bI (xm (nI k)))]) rfl ?_
  refine lv_if_ne (tgt := 9) hx hb d_B_allTold_4 (by decide) (fun c_1 => ?_) (fun c_1 => absurd c_1 (by rw [xm_nI hk]; decide))
  have c_1 : (xm (nI k)) = true := bI_t.mp c_1
  refine lv_iconst (v := 0) hx hb d_B_allTold_9 (by decide) ?_
  refine lv_istore_n (lv' := [(2, .int 0), (0, .ref (ad (100 + i))), (1, .int (nI k))]) hx hb d_B_allTold_10 rfl hl (by decide) rfl (fun ls hl => ?_)
  refine lv_iload_n hx hb d_B_allTold_11 rfl (lv_at hl 0 rfl) ?_
  refine lv_iconst (v := 3) hx hb d_B_allTold_12 (by decide) ?_
  refine lv_icmp_ge (tgt := 38) hx hb d_B_allTold_13 (by decide) (fun c_2 => absurd c_2 (by decide)) (fun c_2 => ?_)
  refine lv_aload_n hx hb d_B_allTold_16 rfl (lv_at hl 1 rfl) ?_
  refine xr_get (ci := 1) (v := .ref (ad (130 + i))) (C := R_B) (T := T_B) (N := 9) hx hb htw in_B hown hK hw (100 + i) (rb i hi) rfl rfl 4 (by decide) (htw _ u_97) (fun _ h9 => h9) rfl d_B_allTold_17 ?_
  refine lv_iload_n hx hb d_B_allTold_20 rfl (lv_at hl 2 rfl) ?_
  refine lv_iconst (v := 3) hx hb d_B_allTold_21 (by decide) ?_
  refine lv_imul hx hb d_B_allTold_22 ?_
  refine lv_iload_n hx hb d_B_allTold_23 rfl (lv_at hl 0 rfl) ?_
  refine lv_iadd hx hb d_B_allTold_24 ?_
  refine xr_iald (i := ((nI k) * 3) + 0) hx hb hK hw (130 + i) 0 (rbo i hi) rfl rfl (xvin (a := k * 3) (xadd (a := k * 3) (b := 0) (xmul (a := k) (b := 3) rfl rfl) rfl) (by omega) (by omega)) d_B_allTold_25 ?_
  refine lv_topi (fun x_3 ex_3 => ?_)
  obtain rfl : x_3 = (σ.2.1 (20 + i)) (k * 3) := ex_3.trans ((congrArg (σ.2.1 (20 + i)) (xcl (a := k * 3) (xadd (a := k * 3) (b := 0) (xmul (a := k) (b := 3) rfl rfl) rfl) (by omega))).trans rfl)
  refine lv_iconst (v := (-1)) hx hb d_B_allTold_26 (by decide) ?_
  refine lv_icmp_ne (tgt := 32) hx hb d_B_allTold_27 (by decide) (fun c_4 => ?_) (fun c_4 => ?_)
  · refine lv_iinc (v := 1) (lv' := [(2, .int 1), (0, .ref (ad (100 + i))), (1, .int (nI k))]) hx hb d_B_allTold_32 hl (k := 0) rfl (by decide) (by decide) rfl (fun ls hl => ?_)
    refine lv_goto (tgt := 11) hx hb d_B_allTold_35 (by decide) ?_
    refine lv_iload_n hx hb d_B_allTold_11 rfl (lv_at hl 0 rfl) ?_
    refine lv_iconst (v := 3) hx hb d_B_allTold_12 (by decide) ?_
    refine lv_icmp_ge (tgt := 38) hx hb d_B_allTold_13 (by decide) (fun c_5 => absurd c_5 (by decide)) (fun c_5 => ?_)
    refine lv_aload_n hx hb d_B_allTold_16 rfl (lv_at hl 1 rfl) ?_
    refine xr_get (ci := 1) (v := .ref (ad (130 + i))) (C := R_B) (T := T_B) (N := 9) hx hb htw in_B hown hK hw (100 + i) (rb i hi) rfl rfl 4 (by decide) (htw _ u_97) (fun _ h9 => h9) rfl d_B_allTold_17 ?_
    refine lv_iload_n hx hb d_B_allTold_20 rfl (lv_at hl 2 rfl) ?_
    refine lv_iconst (v := 3) hx hb d_B_allTold_21 (by decide) ?_
    refine lv_imul hx hb d_B_allTold_22 ?_
    refine lv_iload_n hx hb d_B_allTold_23 rfl (lv_at hl 0 rfl) ?_
    refine lv_iadd hx hb d_B_allTold_24 ?_
    refine xr_iald (i := ((nI k) * 3) + 1) hx hb hK hw (130 + i) 0 (rbo i hi) rfl rfl (xvin (a := (k * 3) + 1) (xadd (a := k * 3) (b := 1) (xmul (a := k) (b := 3) rfl rfl) rfl) (by omega) (by omega)) d_B_allTold_25 ?_
    refine lv_topi (fun x_6 ex_6 => ?_)
    obtain rfl : x_6 = (σ.2.1 (20 + i)) ((k * 3) + 1) := ex_6.trans ((congrArg (σ.2.1 (20 + i)) (xcl (a := (k * 3) + 1) (xadd (a := k * 3) (b := 1) (xmul (a := k) (b := 3) rfl rfl) rfl) (by omega))).trans rfl)
    refine lv_iconst (v := (-1)) hx hb d_B_allTold_26 (by decide) ?_
    refine lv_icmp_ne (tgt := 32) hx hb d_B_allTold_27 (by decide) (fun c_7 => ?_) (fun c_7 => ?_)
    · refine lv_iinc (v := 2) (lv' := [(2, .int 2), (0, .ref (ad (100 + i))), (1, .int (nI k))]) hx hb d_B_allTold_32 hl (k := 0) rfl (by decide) (by decide) rfl (fun ls hl => ?_)
      refine lv_goto (tgt := 11) hx hb d_B_allTold_35 (by decide) ?_
      refine lv_iload_n hx hb d_B_allTold_11 rfl (lv_at hl 0 rfl) ?_
      refine lv_iconst (v := 3) hx hb d_B_allTold_12 (by decide) ?_
      refine lv_icmp_ge (tgt := 38) hx hb d_B_allTold_13 (by decide) (fun c_8 => absurd c_8 (by decide)) (fun c_8 => ?_)
      refine lv_aload_n hx hb d_B_allTold_16 rfl (lv_at hl 1 rfl) ?_
      refine xr_get (ci := 1) (v := .ref (ad (130 + i))) (C := R_B) (T := T_B) (N := 9) hx hb htw in_B hown hK hw (100 + i) (rb i hi) rfl rfl 4 (by decide) (htw _ u_97) (fun _ h9 => h9) rfl d_B_allTold_17 ?_
      refine lv_iload_n hx hb d_B_allTold_20 rfl (lv_at hl 2 rfl) ?_
      refine lv_iconst (v := 3) hx hb d_B_allTold_21 (by decide) ?_
      refine lv_imul hx hb d_B_allTold_22 ?_
      refine lv_iload_n hx hb d_B_allTold_23 rfl (lv_at hl 0 rfl) ?_
      refine lv_iadd hx hb d_B_allTold_24 ?_
      refine xr_iald (i := ((nI k) * 3) + 2) hx hb hK hw (130 + i) 0 (rbo i hi) rfl rfl (xvin (a := (k * 3) + 2) (xadd (a := k * 3) (b := 2) (xmul (a := k) (b := 3) rfl rfl) rfl) (by omega) (by omega)) d_B_allTold_25 ?_
      refine lv_topi (fun x_9 ex_9 => ?_)
      obtain rfl : x_9 = (σ.2.1 (20 + i)) ((k * 3) + 2) := ex_9.trans ((congrArg (σ.2.1 (20 + i)) (xcl (a := (k * 3) + 2) (xadd (a := k * 3) (b := 2) (xmul (a := k) (b := 3) rfl rfl) rfl) (by omega))).trans rfl)
      refine lv_iconst (v := (-1)) hx hb d_B_allTold_26 (by decide) ?_
      refine lv_icmp_ne (tgt := 32) hx hb d_B_allTold_27 (by decide) (fun c_10 => ?_) (fun c_10 => ?_)
      · refine lv_iinc (v := 3) (lv' := [(2, .int 3), (0, .ref (ad (100 + i))), (1, .int (nI k))]) hx hb d_B_allTold_32 hl (k := 0) rfl (by decide) (by decide) rfl (fun ls hl => ?_)
        refine lv_goto (tgt := 11) hx hb d_B_allTold_35 (by decide) ?_
        refine lv_iload_n hx hb d_B_allTold_11 rfl (lv_at hl 0 rfl) ?_
        refine lv_iconst (v := 3) hx hb d_B_allTold_12 (by decide) ?_
        refine lv_icmp_ge (tgt := 38) hx hb d_B_allTold_13 (by decide) (fun c_11 => ?_) (fun c_11 => absurd (by decide) c_11)
        refine lv_iconst (v := 1) hx hb d_B_allTold_38 (by decide) ?_
        exact W.zret (v := 1) hx hb hr (by decide) (fun t ht _ => ⟨_, rfl, ⟨bI_1 (by simp [allT, c_4, c_7, c_10]), ht⟩, hS.F ht⟩) hS.2.2 d_B_allTold_39
      · refine lv_iconst (v := 0) hx hb d_B_allTold_30 (by decide) ?_
        exact W.zret (v := 0) hx hb hr (by decide) (fun t ht _ => ⟨_, rfl, ⟨bI_0 (by simp [allT, c_4, c_7, c_10]), ht⟩, hS.F ht⟩) hS.2.2 d_B_allTold_31
    · refine lv_iconst (v := 0) hx hb d_B_allTold_30 (by decide) ?_
      exact W.zret (v := 0) hx hb hr (by decide) (fun t ht _ => ⟨_, rfl, ⟨bI_0 (by simp [allT, c_4, c_7]), ht⟩, hS.F ht⟩) hS.2.2 d_B_allTold_31
  · refine lv_iconst (v := 0) hx hb d_B_allTold_30 (by decide) ?_
    exact W.zret (v := 0) hx hb hr (by decide) (fun t ht _ => ⟨_, rfl, ⟨bI_0 (by simp [allT, c_4]), ht⟩, hS.F ht⟩) hS.2.2 d_B_allTold_31
set_option maxHeartbeats 4000000 in
set_option maxRecDepth 100000 in
theorem c_B_middleOf {l : Launch} {D : va_G} {K : Nat → ClassId} {B : Nat} {ad : Nat → Nat} {w : Nat → Option va_E} {H : Heap} {σ : xS} (hR : RepX K σ ad w) (hI : Inv σ) (hw : xw D vwCl B ad w H) (i : Nat) (hi : i < σ.1 0) (k : Nat) (hk : k < 4) : xC l D K B y_B_middleOf b_B_middleOf 5 (some .int) rm_B_middleOf [.ref (ad (100 + i)), .int (nI k)] H (fun v H1 => v = some (.int (mid (σ.2.1 (20 + i)) k)) ∧ H1 = H) := by
  refine Met.ofW (cc := b_B_middleOf) (maxL := 5) (ret := (some .int)) (by decide) rfl ?_
  intro p e s m args below meth c s₁ B0 hml hv
  obtain ⟨rfl, hsz, hK, hN⟩ := hv
  have hx := B0.exec
  have hb := B0.bytes
  have hr := B0.returns
  have htw : ∀ w ∈ xW0, w.before [.ref (ad (100 + i)), .int (nI k)].toArray s = true := fun w h => atoms_spec (ws := Cond.code y_B_middleOf b_B_middleOf 5 (some .int) :: xW0) B0.pre w (List.mem_cons_of_mem _ h)
  have hown : s.vm.findClass R_B = some m.cls := findClass_of_methodNamed B0.named
  have hlocks := B0.notSynchronized
  subst hsz
  have hS : va_S (fun q => B ≤ q) s.heap s.heap [] := va_S.rf
  have hl := lv_entry ([.ref (ad (100 + i)), .int (nI k)]) (n := 5) (Nat.le_of_ble_eq_true rfl)
  rw [lg_entry_eq]
  generalize (lg_sl ([.ref (ad (100 + i)), .int (nI k)]) ++ List.replicate (5 - (lg_sl ([.ref (ad (100 + i)), .int (nI k)])).length) Slot.unset).toArray = ls at hl ⊢
  have hl : lv_has ls 5 [(0, .ref (ad (100 + i))), (1, .int (nI k))] := hl
  have hH : s.heap = s.heap := rfl
  obtain ⟨r0, r1, r2, r3, r4, r5, r6, r7, rb, rba, rbt, rbo, rs, rss, rr⟩ := id hR
  obtain ⟨hnb, hns, hnr, hpc, hst, hto, htl, hrm, hpa, hwt, hdf, hds⟩ := id hI
  refine lv_aload_n hx hb d_B_middleOf_0 rfl (lv_at hl 0 rfl) ?_
  refine lv_iload_n hx hb d_B_middleOf_1 rfl (lv_at hl 1 rfl) ?_
  refine xr_call (va_runV (As := [.int (nI k)]) (rest := []) ⟨hx, hb, hml, hown, htw⟩ (c_B_allTold (ad := ad) hR hI hw i hi k (by omega)) (cwV 1 htw (gV u_254 u_256 us_6 u_4 u_257) rfl rfl rfl hd_B_allTold ⟨Nat.le_of_ble_eq_true rfl, Nat.le_of_ble_eq_true rfl⟩) ⟨xP_blind, hw.recv hK (ci := 1) (t := 100 + i) rfl (rb i hi) rfl, xP_of hK hN⟩ rfl rfl hl.1 rfl (lv_room (Nat.le_of_ble_eq_true rfl)) d_B_middleOf_2 ⟨by decide, by decide⟩) hS (fun v H_ locs hp hS => ?_)
  obtain ⟨rfl, hHe⟩ := hp
  rw [hHe] at hS ⊢
  refine W.eq (g2 := F0 m 5 ls [.int (bI (allT (σ.2.1 (20 + i)) k))]) rfl ?_
  refine lv_if_ne (tgt := 10) hx hb d_B_middleOf_5 (by decide) (fun c_1 => ?_) (fun c_1 => ?_)
  · have c_1 : (allT (σ.2.1 (20 + i)) k) = true := bI_t.mp c_1
    refine lv_aload_n hx hb d_B_middleOf_10 rfl (lv_at hl 0 rfl) ?_
    refine xr_get (ci := 1) (v := .ref (ad (130 + i))) (C := R_B) (T := T_B) (N := 9) hx hb htw in_B hown hK hw (100 + i) (rb i hi) rfl rfl 4 (by decide) (htw _ u_97) (fun _ h9 => h9) rfl d_B_middleOf_11 ?_
    refine lv_iload_n hx hb d_B_middleOf_14 rfl (lv_at hl 1 rfl) ?_
    refine lv_iconst (v := 3) hx hb d_B_middleOf_15 (by decide) ?_
    refine lv_imul hx hb d_B_middleOf_16 ?_
    refine xr_iald (i := (nI k) * 3) hx hb hK hw (130 + i) 0 (rbo i hi) rfl rfl (xvin (a := k * 3) (xmul (a := k) (b := 3) rfl rfl) (by omega) (by omega)) d_B_middleOf_17 ?_
    refine lv_topi (fun x_2 ex_2 => ?_)
    obtain rfl : x_2 = (σ.2.1 (20 + i)) (k * 3) := ex_2.trans ((congrArg (σ.2.1 (20 + i)) (xcl (a := k * 3) (xmul (a := k) (b := 3) rfl rfl) (by omega))).trans rfl)
    refine lv_istore_n (lv' := [(2, .int ((σ.2.1 (20 + i)) (k * 3))), (0, .ref (ad (100 + i))), (1, .int (nI k))]) hx hb d_B_middleOf_18 rfl hl (by decide) rfl (fun ls hl => ?_)
    refine lv_aload_n hx hb d_B_middleOf_19 rfl (lv_at hl 1 rfl) ?_
    refine xr_get (ci := 1) (v := .ref (ad (130 + i))) (C := R_B) (T := T_B) (N := 9) hx hb htw in_B hown hK hw (100 + i) (rb i hi) rfl rfl 4 (by decide) (htw _ u_97) (fun _ h9 => h9) rfl d_B_middleOf_20 ?_
    refine lv_iload_n hx hb d_B_middleOf_23 rfl (lv_at hl 2 rfl) ?_
    refine lv_iconst (v := 3) hx hb d_B_middleOf_24 (by decide) ?_
    refine lv_imul hx hb d_B_middleOf_25 ?_
    refine lv_iconst (v := 1) hx hb d_B_middleOf_26 (by decide) ?_
    refine lv_iadd hx hb d_B_middleOf_27 ?_
    refine xr_iald (i := ((nI k) * 3) + 1) hx hb hK hw (130 + i) 0 (rbo i hi) rfl rfl (xvin (a := (k * 3) + 1) (xadd (a := k * 3) (b := 1) (xmul (a := k) (b := 3) rfl rfl) rfl) (by omega) (by omega)) d_B_middleOf_28 ?_
    refine lv_topi (fun x_3 ex_3 => ?_)
    obtain rfl : x_3 = (σ.2.1 (20 + i)) ((k * 3) + 1) := ex_3.trans ((congrArg (σ.2.1 (20 + i)) (xcl (a := (k * 3) + 1) (xadd (a := k * 3) (b := 1) (xmul (a := k) (b := 3) rfl rfl) rfl) (by omega))).trans rfl)
    refine lv_istore_n (lv' := [(3, .int ((σ.2.1 (20 + i)) ((k * 3) + 1))), (2, .int ((σ.2.1 (20 + i)) (k * 3))), (0, .ref (ad (100 + i))), (1, .int (nI k))]) hx hb d_B_middleOf_29 rfl hl (by decide) rfl (fun ls hl => ?_)
    refine lv_aload_n hx hb d_B_middleOf_30 rfl (lv_at hl 2 rfl) ?_
    refine xr_get (ci := 1) (v := .ref (ad (130 + i))) (C := R_B) (T := T_B) (N := 9) hx hb htw in_B hown hK hw (100 + i) (rb i hi) rfl rfl 4 (by decide) (htw _ u_97) (fun _ h9 => h9) rfl d_B_middleOf_31 ?_
    refine lv_iload_n hx hb d_B_middleOf_34 rfl (lv_at hl 3 rfl) ?_
    refine lv_iconst (v := 3) hx hb d_B_middleOf_35 (by decide) ?_
    refine lv_imul hx hb d_B_middleOf_36 ?_
    refine lv_iconst (v := 2) hx hb d_B_middleOf_37 (by decide) ?_
    refine lv_iadd hx hb d_B_middleOf_38 ?_
    refine xr_iald (i := ((nI k) * 3) + 2) hx hb hK hw (130 + i) 0 (rbo i hi) rfl rfl (xvin (a := (k * 3) + 2) (xadd (a := k * 3) (b := 2) (xmul (a := k) (b := 3) rfl rfl) rfl) (by omega) (by omega)) d_B_middleOf_39 ?_
    refine lv_topi (fun x_4 ex_4 => ?_)
    obtain rfl : x_4 = (σ.2.1 (20 + i)) ((k * 3) + 2) := ex_4.trans ((congrArg (σ.2.1 (20 + i)) (xcl (a := (k * 3) + 2) (xadd (a := k * 3) (b := 2) (xmul (a := k) (b := 3) rfl rfl) rfl) (by omega))).trans rfl)
    refine lv_istore (lv' := [(4, .int ((σ.2.1 (20 + i)) ((k * 3) + 2))), (3, .int ((σ.2.1 (20 + i)) ((k * 3) + 1))), (2, .int ((σ.2.1 (20 + i)) (k * 3))), (0, .ref (ad (100 + i))), (1, .int (nI k))]) hx hb d_B_middleOf_40 hl (by decide) rfl (fun ls hl => ?_)
    refine lv_iload_n hx hb d_B_middleOf_42 rfl (lv_at hl 2 rfl) ?_
    refine lv_iload_n hx hb d_B_middleOf_43 rfl (lv_at hl 1 rfl) ?_
    refine va_mmin hx hb (by rw [hml, hl.1]) hown (htw _ u_259) (htw _ u_260) (htw _ u_7) (htw _ u_261) (Nat.le_of_ble_eq_true rfl) (Nat.le_of_ble_eq_true rfl) (Nat.le_of_ble_eq_true rfl) (Nat.le_of_ble_eq_true rfl) d_B_middleOf_44 ?_
    refine lv_topi (fun x_5 ex_5 => ?_)
    obtain rfl : x_5 = mn ((σ.2.1 (20 + i)) (k * 3)) ((σ.2.1 (20 + i)) ((k * 3) + 1)) := ex_5
    refine lv_iload_n hx hb d_B_middleOf_47 rfl (lv_at hl 2 rfl) ?_
    refine lv_iload_n hx hb d_B_middleOf_48 rfl (lv_at hl 1 rfl) ?_
    refine va_mmax hx hb (by rw [hml, hl.1]) hown (htw _ u_262) (htw _ u_263) (htw _ u_7) (htw _ u_264) (Nat.le_of_ble_eq_true rfl) (Nat.le_of_ble_eq_true rfl) (Nat.le_of_ble_eq_true rfl) (Nat.le_of_ble_eq_true rfl) d_B_middleOf_49 ?_
    refine lv_topi (fun x_6 ex_6 => ?_)
    obtain rfl : x_6 = mx ((σ.2.1 (20 + i)) (k * 3)) ((σ.2.1 (20 + i)) ((k * 3) + 1)) := ex_6
    refine lv_iload hx hb d_B_middleOf_52 (lv_at hl 0 rfl) ?_
    refine va_mmin hx hb (by rw [hml, hl.1]) hown (htw _ u_259) (htw _ u_260) (htw _ u_7) (htw _ u_261) (Nat.le_of_ble_eq_true rfl) (Nat.le_of_ble_eq_true rfl) (Nat.le_of_ble_eq_true rfl) (Nat.le_of_ble_eq_true rfl) d_B_middleOf_54 ?_
    refine lv_topi (fun x_7 ex_7 => ?_)
    obtain rfl : x_7 = mn (mx ((σ.2.1 (20 + i)) (k * 3)) ((σ.2.1 (20 + i)) ((k * 3) + 1))) ((σ.2.1 (20 + i)) ((k * 3) + 2)) := ex_7
    refine va_mmax hx hb (by rw [hml, hl.1]) hown (htw _ u_262) (htw _ u_263) (htw _ u_7) (htw _ u_264) (Nat.le_of_ble_eq_true rfl) (Nat.le_of_ble_eq_true rfl) (Nat.le_of_ble_eq_true rfl) (Nat.le_of_ble_eq_true rfl) d_B_middleOf_57 ?_
    refine lv_topi (fun x_8 ex_8 => ?_)
    obtain rfl : x_8 = mx (mn ((σ.2.1 (20 + i)) (k * 3)) ((σ.2.1 (20 + i)) ((k * 3) + 1))) (mn (mx ((σ.2.1 (20 + i)) (k * 3)) ((σ.2.1 (20 + i)) ((k * 3) + 1))) ((σ.2.1 (20 + i)) ((k * 3) + 2))) := ex_8
    exact W.iret (v := mx (mn ((σ.2.1 (20 + i)) (k * 3)) ((σ.2.1 (20 + i)) ((k * 3) + 1))) (mn (mx ((σ.2.1 (20 + i)) (k * 3)) ((σ.2.1 (20 + i)) ((k * 3) + 1))) ((σ.2.1 (20 + i)) ((k * 3) + 2)))) hx hb hr (fun t ht _ => ⟨_, rfl, ⟨by simp [mid, c_1], ht⟩, hS.F ht⟩) hS.2.2 d_B_middleOf_60
  · have c_1 : (allT (σ.2.1 (20 + i)) k) = false := bI_f.mp c_1
    refine lv_iconst (v := (-1)) hx hb d_B_middleOf_8 (by decide) ?_
    exact W.iret (v := (-1)) hx hb hr (fun t ht _ => ⟨_, rfl, ⟨by simp [mid, c_1], ht⟩, hS.F ht⟩) hS.2.2 d_B_middleOf_9
set_option maxHeartbeats 4000000 in
set_option maxRecDepth 100000 in
theorem c_B_spreadOf {l : Launch} {D : va_G} {K : Nat → ClassId} {B : Nat} {ad : Nat → Nat} {w : Nat → Option va_E} {H : Heap} {σ : xS} (hR : RepX K σ ad w) (hI : Inv σ) (hw : xw D vwCl B ad w H) (i : Nat) (hi : i < σ.1 0) (k : Nat) (hk : k < 4) : xC l D K B y_B_spreadOf b_B_spreadOf 5 (some .int) rm_B_spreadOf [.ref (ad (100 + i)), .int (nI k)] H (fun v H1 => v = some (.int (spr (σ.2.1 (20 + i)) k)) ∧ H1 = H) := by
  refine Met.ofW (cc := b_B_spreadOf) (maxL := 5) (ret := (some .int)) (by decide) rfl ?_
  intro p e s m args below meth c s₁ B0 hml hv
  obtain ⟨rfl, hsz, hK, hN⟩ := hv
  have hx := B0.exec
  have hb := B0.bytes
  have hr := B0.returns
  have htw : ∀ w ∈ xW0, w.before [.ref (ad (100 + i)), .int (nI k)].toArray s = true := fun w h => atoms_spec (ws := Cond.code y_B_spreadOf b_B_spreadOf 5 (some .int) :: xW0) B0.pre w (List.mem_cons_of_mem _ h)
  have hown : s.vm.findClass R_B = some m.cls := findClass_of_methodNamed B0.named
  have hlocks := B0.notSynchronized
  subst hsz
  have hS : va_S (fun q => B ≤ q) s.heap s.heap [] := va_S.rf
  have hl := lv_entry ([.ref (ad (100 + i)), .int (nI k)]) (n := 5) (Nat.le_of_ble_eq_true rfl)
  rw [lg_entry_eq]
  generalize (lg_sl ([.ref (ad (100 + i)), .int (nI k)]) ++ List.replicate (5 - (lg_sl ([.ref (ad (100 + i)), .int (nI k)])).length) Slot.unset).toArray = ls at hl ⊢
  have hl : lv_has ls 5 [(0, .ref (ad (100 + i))), (1, .int (nI k))] := hl
  have hH : s.heap = s.heap := rfl
  obtain ⟨r0, r1, r2, r3, r4, r5, r6, r7, rb, rba, rbt, rbo, rs, rss, rr⟩ := id hR
  obtain ⟨hnb, hns, hnr, hpc, hst, hto, htl, hrm, hpa, hwt, hdf, hds⟩ := id hI
  refine lv_aload_n hx hb d_B_spreadOf_0 rfl (lv_at hl 0 rfl) ?_
  refine lv_iload_n hx hb d_B_spreadOf_1 rfl (lv_at hl 1 rfl) ?_
  refine xr_call (va_runV (As := [.int (nI k)]) (rest := []) ⟨hx, hb, hml, hown, htw⟩ (c_B_allTold (ad := ad) hR hI hw i hi k (by omega)) (cwV 1 htw (gV u_254 u_256 us_6 u_4 u_257) rfl rfl rfl hd_B_allTold ⟨Nat.le_of_ble_eq_true rfl, Nat.le_of_ble_eq_true rfl⟩) ⟨xP_blind, hw.recv hK (ci := 1) (t := 100 + i) rfl (rb i hi) rfl, xP_of hK hN⟩ rfl rfl hl.1 rfl (lv_room (Nat.le_of_ble_eq_true rfl)) d_B_spreadOf_2 ⟨by decide, by decide⟩) hS (fun v H_ locs hp hS => ?_)
  obtain ⟨rfl, hHe⟩ := hp
  rw [hHe] at hS ⊢
  refine W.eq (g2 := F0 m 5 ls [.int (bI (allT (σ.2.1 (20 + i)) k))]) rfl ?_
  refine lv_if_ne (tgt := 10) hx hb d_B_spreadOf_5 (by decide) (fun c_1 => ?_) (fun c_1 => ?_)
  · have c_1 : (allT (σ.2.1 (20 + i)) k) = true := bI_t.mp c_1
    refine lv_aload_n hx hb d_B_spreadOf_10 rfl (lv_at hl 0 rfl) ?_
    refine xr_get (ci := 1) (v := .ref (ad (130 + i))) (C := R_B) (T := T_B) (N := 9) hx hb htw in_B hown hK hw (100 + i) (rb i hi) rfl rfl 4 (by decide) (htw _ u_97) (fun _ h9 => h9) rfl d_B_spreadOf_11 ?_
    refine lv_iload_n hx hb d_B_spreadOf_14 rfl (lv_at hl 1 rfl) ?_
    refine lv_iconst (v := 3) hx hb d_B_spreadOf_15 (by decide) ?_
    refine lv_imul hx hb d_B_spreadOf_16 ?_
    refine xr_iald (i := (nI k) * 3) hx hb hK hw (130 + i) 0 (rbo i hi) rfl rfl (xvin (a := k * 3) (xmul (a := k) (b := 3) rfl rfl) (by omega) (by omega)) d_B_spreadOf_17 ?_
    refine lv_topi (fun x_2 ex_2 => ?_)
    obtain rfl : x_2 = (σ.2.1 (20 + i)) (k * 3) := ex_2.trans ((congrArg (σ.2.1 (20 + i)) (xcl (a := k * 3) (xmul (a := k) (b := 3) rfl rfl) (by omega))).trans rfl)
    refine lv_istore_n (lv' := [(2, .int ((σ.2.1 (20 + i)) (k * 3))), (0, .ref (ad (100 + i))), (1, .int (nI k))]) hx hb d_B_spreadOf_18 rfl hl (by decide) rfl (fun ls hl => ?_)
    refine lv_aload_n hx hb d_B_spreadOf_19 rfl (lv_at hl 1 rfl) ?_
    refine xr_get (ci := 1) (v := .ref (ad (130 + i))) (C := R_B) (T := T_B) (N := 9) hx hb htw in_B hown hK hw (100 + i) (rb i hi) rfl rfl 4 (by decide) (htw _ u_97) (fun _ h9 => h9) rfl d_B_spreadOf_20 ?_
    refine lv_iload_n hx hb d_B_spreadOf_23 rfl (lv_at hl 2 rfl) ?_
    refine lv_iconst (v := 3) hx hb d_B_spreadOf_24 (by decide) ?_
    refine lv_imul hx hb d_B_spreadOf_25 ?_
    refine lv_iconst (v := 1) hx hb d_B_spreadOf_26 (by decide) ?_
    refine lv_iadd hx hb d_B_spreadOf_27 ?_
    refine xr_iald (i := ((nI k) * 3) + 1) hx hb hK hw (130 + i) 0 (rbo i hi) rfl rfl (xvin (a := (k * 3) + 1) (xadd (a := k * 3) (b := 1) (xmul (a := k) (b := 3) rfl rfl) rfl) (by omega) (by omega)) d_B_spreadOf_28 ?_
    refine lv_topi (fun x_3 ex_3 => ?_)
    obtain rfl : x_3 = (σ.2.1 (20 + i)) ((k * 3) + 1) := ex_3.trans ((congrArg (σ.2.1 (20 + i)) (xcl (a := (k * 3) + 1) (xadd (a := k * 3) (b := 1) (xmul (a := k) (b := 3) rfl rfl) rfl) (by omega))).trans rfl)
    refine lv_istore_n (lv' := [(3, .int ((σ.2.1 (20 + i)) ((k * 3) + 1))), (2, .int ((σ.2.1 (20 + i)) (k * 3))), (0, .ref (ad (100 + i))), (1, .int (nI k))]) hx hb d_B_spreadOf_29 rfl hl (by decide) rfl (fun ls hl => ?_)
    refine lv_aload_n hx hb d_B_spreadOf_30 rfl (lv_at hl 2 rfl) ?_
    refine xr_get (ci := 1) (v := .ref (ad (130 + i))) (C := R_B) (T := T_B) (N := 9) hx hb htw in_B hown hK hw (100 + i) (rb i hi) rfl rfl 4 (by decide) (htw _ u_97) (fun _ h9 => h9) rfl d_B_spreadOf_31 ?_
    refine lv_iload_n hx hb d_B_spreadOf_34 rfl (lv_at hl 3 rfl) ?_
    refine lv_iconst (v := 3) hx hb d_B_spreadOf_35 (by decide) ?_
    refine lv_imul hx hb d_B_spreadOf_36 ?_
    refine lv_iconst (v := 2) hx hb d_B_spreadOf_37 (by decide) ?_
    refine lv_iadd hx hb d_B_spreadOf_38 ?_
    refine xr_iald (i := ((nI k) * 3) + 2) hx hb hK hw (130 + i) 0 (rbo i hi) rfl rfl (xvin (a := (k * 3) + 2) (xadd (a := k * 3) (b := 2) (xmul (a := k) (b := 3) rfl rfl) rfl) (by omega) (by omega)) d_B_spreadOf_39 ?_
    refine lv_topi (fun x_4 ex_4 => ?_)
    obtain rfl : x_4 = (σ.2.1 (20 + i)) ((k * 3) + 2) := ex_4.trans ((congrArg (σ.2.1 (20 + i)) (xcl (a := (k * 3) + 2) (xadd (a := k * 3) (b := 2) (xmul (a := k) (b := 3) rfl rfl) rfl) (by omega))).trans rfl)
    refine lv_istore (lv' := [(4, .int ((σ.2.1 (20 + i)) ((k * 3) + 2))), (3, .int ((σ.2.1 (20 + i)) ((k * 3) + 1))), (2, .int ((σ.2.1 (20 + i)) (k * 3))), (0, .ref (ad (100 + i))), (1, .int (nI k))]) hx hb d_B_spreadOf_40 hl (by decide) rfl (fun ls hl => ?_)
    refine lv_iload_n hx hb d_B_spreadOf_42 rfl (lv_at hl 2 rfl) ?_
    refine lv_iload_n hx hb d_B_spreadOf_43 rfl (lv_at hl 1 rfl) ?_
    refine va_mmax hx hb (by rw [hml, hl.1]) hown (htw _ u_262) (htw _ u_263) (htw _ u_7) (htw _ u_264) (Nat.le_of_ble_eq_true rfl) (Nat.le_of_ble_eq_true rfl) (Nat.le_of_ble_eq_true rfl) (Nat.le_of_ble_eq_true rfl) d_B_spreadOf_44 ?_
    refine lv_topi (fun x_5 ex_5 => ?_)
    obtain rfl : x_5 = mx ((σ.2.1 (20 + i)) (k * 3)) ((σ.2.1 (20 + i)) ((k * 3) + 1)) := ex_5
    refine lv_iload hx hb d_B_spreadOf_47 (lv_at hl 0 rfl) ?_
    refine va_mmax hx hb (by rw [hml, hl.1]) hown (htw _ u_262) (htw _ u_263) (htw _ u_7) (htw _ u_264) (Nat.le_of_ble_eq_true rfl) (Nat.le_of_ble_eq_true rfl) (Nat.le_of_ble_eq_true rfl) (Nat.le_of_ble_eq_true rfl) d_B_spreadOf_49 ?_
    refine lv_topi (fun x_6 ex_6 => ?_)
    obtain rfl : x_6 = mx (mx ((σ.2.1 (20 + i)) (k * 3)) ((σ.2.1 (20 + i)) ((k * 3) + 1))) ((σ.2.1 (20 + i)) ((k * 3) + 2)) := ex_6
    refine lv_iload_n hx hb d_B_spreadOf_52 rfl (lv_at hl 2 rfl) ?_
    refine lv_iload_n hx hb d_B_spreadOf_53 rfl (lv_at hl 1 rfl) ?_
    refine va_mmin hx hb (by rw [hml, hl.1]) hown (htw _ u_259) (htw _ u_260) (htw _ u_7) (htw _ u_261) (Nat.le_of_ble_eq_true rfl) (Nat.le_of_ble_eq_true rfl) (Nat.le_of_ble_eq_true rfl) (Nat.le_of_ble_eq_true rfl) d_B_spreadOf_54 ?_
    refine lv_topi (fun x_7 ex_7 => ?_)
    obtain rfl : x_7 = mn ((σ.2.1 (20 + i)) (k * 3)) ((σ.2.1 (20 + i)) ((k * 3) + 1)) := ex_7
    refine lv_iload hx hb d_B_spreadOf_57 (lv_at hl 0 rfl) ?_
    refine va_mmin hx hb (by rw [hml, hl.1]) hown (htw _ u_259) (htw _ u_260) (htw _ u_7) (htw _ u_261) (Nat.le_of_ble_eq_true rfl) (Nat.le_of_ble_eq_true rfl) (Nat.le_of_ble_eq_true rfl) (Nat.le_of_ble_eq_true rfl) d_B_spreadOf_59 ?_
    refine lv_topi (fun x_8 ex_8 => ?_)
    obtain rfl : x_8 = mn (mn ((σ.2.1 (20 + i)) (k * 3)) ((σ.2.1 (20 + i)) ((k * 3) + 1))) ((σ.2.1 (20 + i)) ((k * 3) + 2)) := ex_8
    refine lv_isub hx hb d_B_spreadOf_62 ?_
    exact W.iret (v := (mx (mx ((σ.2.1 (20 + i)) (k * 3)) ((σ.2.1 (20 + i)) ((k * 3) + 1))) ((σ.2.1 (20 + i)) ((k * 3) + 2))) - (mn (mn ((σ.2.1 (20 + i)) (k * 3)) ((σ.2.1 (20 + i)) ((k * 3) + 1))) ((σ.2.1 (20 + i)) ((k * 3) + 2)))) hx hb hr (fun t ht _ => ⟨_, rfl, ⟨by simp [spr, c_1], ht⟩, hS.F ht⟩) hS.2.2 d_B_spreadOf_63
  · have c_1 : (allT (σ.2.1 (20 + i)) k) = false := bI_f.mp c_1
    refine lv_iconst (v := (-1)) hx hb d_B_spreadOf_8 (by decide) ?_
    exact W.iret (v := (-1)) hx hb hr (fun t ht _ => ⟨_, rfl, ⟨by simp [spr, c_1], ht⟩, hS.F ht⟩) hS.2.2 d_B_spreadOf_9
set_option maxHeartbeats 4000000 in
set_option maxRecDepth 100000 in
theorem c_B_hasSpreadAbove {l : Launch} {D : va_G} {K : Nat → ClassId} {B : Nat} {ad : Nat → Nat} {w : Nat → Option va_E} {H : Heap} {σ : xS} (hR : RepX K σ ad w) (hI : Inv σ) (hw : xw D vwCl B ad w H) (i : Nat) (hi : i < σ.1 0) (x1 : Int32) : xC l D K B y_B_hasSpreadAbove b_B_hasSpreadAbove 3 (some .boolean) rm_B_hasSpreadAbove [.ref (ad (100 + i)), .int x1] H (fun v H1 => v = some (.int (bI (hasS (σ.2.1 (20 + i)) x1))) ∧ H1 = H) := by
  refine Met.ofW (cc := b_B_hasSpreadAbove) (maxL := 3) (ret := (some .boolean)) (by decide) rfl ?_
  intro p e s m args below meth c s₁ B0 hml hv
  obtain ⟨rfl, hsz, hK, hN⟩ := hv
  have hx := B0.exec
  have hb := B0.bytes
  have hr := B0.returns
  have htw : ∀ w ∈ xW0, w.before [.ref (ad (100 + i)), .int x1].toArray s = true := fun w h => atoms_spec (ws := Cond.code y_B_hasSpreadAbove b_B_hasSpreadAbove 3 (some .boolean) :: xW0) B0.pre w (List.mem_cons_of_mem _ h)
  have hown : s.vm.findClass R_B = some m.cls := findClass_of_methodNamed B0.named
  have hlocks := B0.notSynchronized
  subst hsz
  have hS : va_S (fun q => B ≤ q) s.heap s.heap [] := va_S.rf
  have hl := lv_entry ([.ref (ad (100 + i)), .int x1]) (n := 3) (Nat.le_of_ble_eq_true rfl)
  rw [lg_entry_eq]
  generalize (lg_sl ([.ref (ad (100 + i)), .int x1]) ++ List.replicate (3 - (lg_sl ([.ref (ad (100 + i)), .int x1])).length) Slot.unset).toArray = ls at hl ⊢
  have hl : lv_has ls 3 [(0, .ref (ad (100 + i))), (1, .int x1)] := hl
  have hH : s.heap = s.heap := rfl
  obtain ⟨r0, r1, r2, r3, r4, r5, r6, r7, rb, rba, rbt, rbo, rs, rss, rr⟩ := id hR
  obtain ⟨hnb, hns, hnr, hpc, hst, hto, htl, hrm, hpa, hwt, hdf, hds⟩ := id hI
  refine lv_iconst (v := 0) hx hb d_B_hasSpreadAbove_0 (by decide) ?_
  refine lv_istore_n (lv' := [(2, .int 0), (0, .ref (ad (100 + i))), (1, .int x1)]) hx hb d_B_hasSpreadAbove_1 rfl hl (by decide) rfl (fun ls hl => ?_)
  refine lv_iload_n hx hb d_B_hasSpreadAbove_2 rfl (lv_at hl 0 rfl) ?_
  refine lv_iconst (v := 4) hx hb d_B_hasSpreadAbove_3 (by decide) ?_
  refine lv_icmp_ge (tgt := 24) hx hb d_B_hasSpreadAbove_4 (by decide) (fun c_1 => absurd c_1 (by decide)) (fun c_1 => ?_)
  refine lv_aload_n hx hb d_B_hasSpreadAbove_7 rfl (lv_at hl 1 rfl) ?_
  refine lv_iload_n hx hb d_B_hasSpreadAbove_8 rfl (lv_at hl 0 rfl) ?_
  refine xr_call (va_runV (As := [.int 0]) (rest := []) ⟨hx, hb, hml, hown, htw⟩ (c_B_spreadOf (ad := ad) hR hI hw i hi 0 (by omega)) (cwV 1 htw (gV u_327 u_270 u_271 u_4 u_272) rfl rfl rfl hd_B_spreadOf ⟨Nat.le_of_ble_eq_true rfl, Nat.le_of_ble_eq_true rfl⟩) ⟨xP_blind, hw.recv hK (ci := 1) (t := 100 + i) rfl (rb i hi) rfl, xP_of hK hN⟩ rfl rfl hl.1 rfl (lv_room (Nat.le_of_ble_eq_true rfl)) d_B_hasSpreadAbove_9 ⟨by decide, by decide⟩) hS (fun v H_ locs hp hS => ?_)
  obtain ⟨rfl, hHe⟩ := hp
  rw [hHe] at hS ⊢
  refine W.eq (g2 := F0 m 12 ls [.int (spr (σ.2.1 (20 + i)) 0)]) rfl ?_
  refine lv_iload_n hx hb d_B_hasSpreadAbove_12 rfl (lv_at hl 2 rfl) ?_
  refine lv_icmp_le (tgt := 18) hx hb d_B_hasSpreadAbove_13 (by decide) (fun c_2 => ?_) (fun c_2 => ?_)
  · refine lv_iinc (v := 1) (lv' := [(2, .int 1), (0, .ref (ad (100 + i))), (1, .int x1)]) hx hb d_B_hasSpreadAbove_18 hl (k := 0) rfl (by decide) (by decide) rfl (fun ls hl => ?_)
    refine lv_goto (tgt := 2) hx hb d_B_hasSpreadAbove_21 (by decide) ?_
    refine lv_iload_n hx hb d_B_hasSpreadAbove_2 rfl (lv_at hl 0 rfl) ?_
    refine lv_iconst (v := 4) hx hb d_B_hasSpreadAbove_3 (by decide) ?_
    refine lv_icmp_ge (tgt := 24) hx hb d_B_hasSpreadAbove_4 (by decide) (fun c_3 => absurd c_3 (by decide)) (fun c_3 => ?_)
    refine lv_aload_n hx hb d_B_hasSpreadAbove_7 rfl (lv_at hl 1 rfl) ?_
    refine lv_iload_n hx hb d_B_hasSpreadAbove_8 rfl (lv_at hl 0 rfl) ?_
    refine xr_call (va_runV (As := [.int 1]) (rest := []) ⟨hx, hb, hml, hown, htw⟩ (c_B_spreadOf (ad := ad) hR hI hw i hi 1 (by omega)) (cwV 1 htw (gV u_327 u_270 u_271 u_4 u_272) rfl rfl rfl hd_B_spreadOf ⟨Nat.le_of_ble_eq_true rfl, Nat.le_of_ble_eq_true rfl⟩) ⟨xP_blind, hw.recv hK (ci := 1) (t := 100 + i) rfl (rb i hi) rfl, xP_of hK hN⟩ rfl rfl hl.1 rfl (lv_room (Nat.le_of_ble_eq_true rfl)) d_B_hasSpreadAbove_9 ⟨by decide, by decide⟩) hS (fun v H_ locs hp hS => ?_)
    obtain ⟨rfl, hHe⟩ := hp
    rw [hHe] at hS ⊢
    refine W.eq (g2 := F0 m 12 ls [.int (spr (σ.2.1 (20 + i)) 1)]) rfl ?_
    refine lv_iload_n hx hb d_B_hasSpreadAbove_12 rfl (lv_at hl 2 rfl) ?_
    refine lv_icmp_le (tgt := 18) hx hb d_B_hasSpreadAbove_13 (by decide) (fun c_4 => ?_) (fun c_4 => ?_)
    · refine lv_iinc (v := 2) (lv' := [(2, .int 2), (0, .ref (ad (100 + i))), (1, .int x1)]) hx hb d_B_hasSpreadAbove_18 hl (k := 0) rfl (by decide) (by decide) rfl (fun ls hl => ?_)
      refine lv_goto (tgt := 2) hx hb d_B_hasSpreadAbove_21 (by decide) ?_
      refine lv_iload_n hx hb d_B_hasSpreadAbove_2 rfl (lv_at hl 0 rfl) ?_
      refine lv_iconst (v := 4) hx hb d_B_hasSpreadAbove_3 (by decide) ?_
      refine lv_icmp_ge (tgt := 24) hx hb d_B_hasSpreadAbove_4 (by decide) (fun c_5 => absurd c_5 (by decide)) (fun c_5 => ?_)
      refine lv_aload_n hx hb d_B_hasSpreadAbove_7 rfl (lv_at hl 1 rfl) ?_
      refine lv_iload_n hx hb d_B_hasSpreadAbove_8 rfl (lv_at hl 0 rfl) ?_
      refine xr_call (va_runV (As := [.int 2]) (rest := []) ⟨hx, hb, hml, hown, htw⟩ (c_B_spreadOf (ad := ad) hR hI hw i hi 2 (by omega)) (cwV 1 htw (gV u_327 u_270 u_271 u_4 u_272) rfl rfl rfl hd_B_spreadOf ⟨Nat.le_of_ble_eq_true rfl, Nat.le_of_ble_eq_true rfl⟩) ⟨xP_blind, hw.recv hK (ci := 1) (t := 100 + i) rfl (rb i hi) rfl, xP_of hK hN⟩ rfl rfl hl.1 rfl (lv_room (Nat.le_of_ble_eq_true rfl)) d_B_hasSpreadAbove_9 ⟨by decide, by decide⟩) hS (fun v H_ locs hp hS => ?_)
      obtain ⟨rfl, hHe⟩ := hp
      rw [hHe] at hS ⊢
      refine W.eq (g2 := F0 m 12 ls [.int (spr (σ.2.1 (20 + i)) 2)]) rfl ?_
      refine lv_iload_n hx hb d_B_hasSpreadAbove_12 rfl (lv_at hl 2 rfl) ?_
      refine lv_icmp_le (tgt := 18) hx hb d_B_hasSpreadAbove_13 (by decide) (fun c_6 => ?_) (fun c_6 => ?_)
      · refine lv_iinc (v := 3) (lv' := [(2, .int 3), (0, .ref (ad (100 + i))), (1, .int x1)]) hx hb d_B_hasSpreadAbove_18 hl (k := 0) rfl (by decide) (by decide) rfl (fun ls hl => ?_)
        refine lv_goto (tgt := 2) hx hb d_B_hasSpreadAbove_21 (by decide) ?_
        refine lv_iload_n hx hb d_B_hasSpreadAbove_2 rfl (lv_at hl 0 rfl) ?_
        refine lv_iconst (v := 4) hx hb d_B_hasSpreadAbove_3 (by decide) ?_
        refine lv_icmp_ge (tgt := 24) hx hb d_B_hasSpreadAbove_4 (by decide) (fun c_7 => absurd c_7 (by decide)) (fun c_7 => ?_)
        refine lv_aload_n hx hb d_B_hasSpreadAbove_7 rfl (lv_at hl 1 rfl) ?_
        refine lv_iload_n hx hb d_B_hasSpreadAbove_8 rfl (lv_at hl 0 rfl) ?_
        refine xr_call (va_runV (As := [.int 3]) (rest := []) ⟨hx, hb, hml, hown, htw⟩ (c_B_spreadOf (ad := ad) hR hI hw i hi 3 (by omega)) (cwV 1 htw (gV u_327 u_270 u_271 u_4 u_272) rfl rfl rfl hd_B_spreadOf ⟨Nat.le_of_ble_eq_true rfl, Nat.le_of_ble_eq_true rfl⟩) ⟨xP_blind, hw.recv hK (ci := 1) (t := 100 + i) rfl (rb i hi) rfl, xP_of hK hN⟩ rfl rfl hl.1 rfl (lv_room (Nat.le_of_ble_eq_true rfl)) d_B_hasSpreadAbove_9 ⟨by decide, by decide⟩) hS (fun v H_ locs hp hS => ?_)
        obtain ⟨rfl, hHe⟩ := hp
        rw [hHe] at hS ⊢
        refine W.eq (g2 := F0 m 12 ls [.int (spr (σ.2.1 (20 + i)) 3)]) rfl ?_
        refine lv_iload_n hx hb d_B_hasSpreadAbove_12 rfl (lv_at hl 2 rfl) ?_
        refine lv_icmp_le (tgt := 18) hx hb d_B_hasSpreadAbove_13 (by decide) (fun c_8 => ?_) (fun c_8 => ?_)
        · refine lv_iinc (v := 4) (lv' := [(2, .int 4), (0, .ref (ad (100 + i))), (1, .int x1)]) hx hb d_B_hasSpreadAbove_18 hl (k := 0) rfl (by decide) (by decide) rfl (fun ls hl => ?_)
          refine lv_goto (tgt := 2) hx hb d_B_hasSpreadAbove_21 (by decide) ?_
          refine lv_iload_n hx hb d_B_hasSpreadAbove_2 rfl (lv_at hl 0 rfl) ?_
          refine lv_iconst (v := 4) hx hb d_B_hasSpreadAbove_3 (by decide) ?_
          refine lv_icmp_ge (tgt := 24) hx hb d_B_hasSpreadAbove_4 (by decide) (fun c_9 => ?_) (fun c_9 => absurd (by decide) c_9)
          refine lv_iconst (v := 0) hx hb d_B_hasSpreadAbove_24 (by decide) ?_
          exact W.zret (v := 0) hx hb hr (by decide) (fun t ht _ => ⟨_, rfl, ⟨bI_0 (by simp [hasS, c_2, c_4, c_6, c_8]), ht⟩, hS.F ht⟩) hS.2.2 d_B_hasSpreadAbove_25
        · refine lv_iconst (v := 1) hx hb d_B_hasSpreadAbove_16 (by decide) ?_
          exact W.zret (v := 1) hx hb hr (by decide) (fun t ht _ => ⟨_, rfl, ⟨bI_1 (by simp [hasS, c_2, c_4, c_6, c_8]), ht⟩, hS.F ht⟩) hS.2.2 d_B_hasSpreadAbove_17
      · refine lv_iconst (v := 1) hx hb d_B_hasSpreadAbove_16 (by decide) ?_
        exact W.zret (v := 1) hx hb hr (by decide) (fun t ht _ => ⟨_, rfl, ⟨bI_1 (by simp [hasS, c_2, c_4, c_6]), ht⟩, hS.F ht⟩) hS.2.2 d_B_hasSpreadAbove_17
    · refine lv_iconst (v := 1) hx hb d_B_hasSpreadAbove_16 (by decide) ?_
      exact W.zret (v := 1) hx hb hr (by decide) (fun t ht _ => ⟨_, rfl, ⟨bI_1 (by simp [hasS, c_2, c_4]), ht⟩, hS.F ht⟩) hS.2.2 d_B_hasSpreadAbove_17
  · refine lv_iconst (v := 1) hx hb d_B_hasSpreadAbove_16 (by decide) ?_
    exact W.zret (v := 1) hx hb hr (by decide) (fun t ht _ => ⟨_, rfl, ⟨bI_1 (by simp [hasS, c_2]), ht⟩, hS.F ht⟩) hS.2.2 d_B_hasSpreadAbove_17
set_option maxHeartbeats 4000000 in
set_option maxRecDepth 100000 in
theorem c_S_thousandthsOf {l : Launch} {D : va_G} {K : Nat → ClassId} {B : Nat} {ad : Nat → Nat} {w : Nat → Option va_E} {H : Heap} {σ : xS} (hw : xw D vwCl B ad w H) (t j : Nat) (v3 : Value) (h0 : w t = some (.inr (2, [.int (σ.2.1 3 j), .int (σ.2.1 4 j), .int (σ.2.1 5 j), v3]))) (a : Nat) (ha : ad t = a) (x1 : Int32) : xC l D K B y_S_thousandthsOf b_S_thousandthsOf 2 (some .int) rm_S_thousandthsOf [.ref a, .int x1] H (fun v H1 => v = some (.int (thou σ j x1)) ∧ H1 = H) := by
  refine Met.ofW (cc := b_S_thousandthsOf) (maxL := 2) (ret := (some .int)) (by decide) rfl ?_
  intro p e s m args below meth c s₁ B0 hml hv
  obtain ⟨rfl, hsz, hK, hN⟩ := hv
  have hx := B0.exec
  have hb := B0.bytes
  have hr := B0.returns
  have htw : ∀ w ∈ xW0, w.before [.ref a, .int x1].toArray s = true := fun w h => atoms_spec (ws := Cond.code y_S_thousandthsOf b_S_thousandthsOf 2 (some .int) :: xW0) B0.pre w (List.mem_cons_of_mem _ h)
  have hown : s.vm.findClass R_S = some m.cls := findClass_of_methodNamed B0.named
  have hlocks := B0.notSynchronized
  subst hsz
  have hS : va_S (fun q => B ≤ q) s.heap s.heap [] := va_S.rf
  have hl := lv_entry ([.ref a, .int x1]) (n := 2) (Nat.le_of_ble_eq_true rfl)
  rw [lg_entry_eq]
  generalize (lg_sl ([.ref a, .int x1]) ++ List.replicate (2 - (lg_sl ([.ref a, .int x1])).length) Slot.unset).toArray = ls at hl ⊢
  have hl : lv_has ls 2 [(0, .ref a), (1, .int x1)] := hl
  have hH : s.heap = s.heap := rfl
  refine lv_iload_n hx hb d_S_thousandthsOf_0 rfl (lv_at hl 1 rfl) ?_
  refine lv_aload_n hx hb d_S_thousandthsOf_1 rfl (lv_at hl 0 rfl) ?_
  refine xr_get (ci := 2) (v := .int (σ.2.1 3 j)) (C := R_S) (T := T_S) (N := 4) hx hb htw in_S hown hK hw t h0 ha rfl 0 (by decide) (htw _ u_154) (fun _ h9 => h9) rfl d_S_thousandthsOf_2 ?_
  refine lv_icmp_ne (tgt := 15) hx hb d_S_thousandthsOf_5 (by decide) (fun c_1 => ?_) (fun c_1 => ?_)
  · refine lv_aload_n hx hb d_S_thousandthsOf_15 rfl (lv_at hl 0 rfl) ?_
    refine xr_get (ci := 2) (v := .int (σ.2.1 5 j)) (C := R_S) (T := T_S) (N := 4) hx hb htw in_S hown hK hw t h0 ha rfl 2 (by decide) (htw _ u_156) (fun _ h9 => h9) rfl d_S_thousandthsOf_16 ?_
    exact W.iret (v := σ.2.1 5 j) hx hb hr (fun t ht _ => ⟨_, rfl, ⟨by simp [thou, c_1], ht⟩, hS.F ht⟩) hS.2.2 d_S_thousandthsOf_19
  · refine lv_aload_n hx hb d_S_thousandthsOf_8 rfl (lv_at hl 0 rfl) ?_
    refine xr_get (ci := 2) (v := .int (σ.2.1 4 j)) (C := R_S) (T := T_S) (N := 4) hx hb htw in_S hown hK hw t h0 ha rfl 1 (by decide) (htw _ u_155) (fun _ h9 => h9) rfl d_S_thousandthsOf_9 ?_
    refine lv_goto (tgt := 19) hx hb d_S_thousandthsOf_12 (by decide) ?_
    exact W.iret (v := σ.2.1 4 j) hx hb hr (fun t ht _ => ⟨_, rfl, ⟨by simp [thou, c_1], ht⟩, hS.F ht⟩) hS.2.2 d_S_thousandthsOf_19
set_option maxHeartbeats 4000000 in
set_option maxRecDepth 100000 in
theorem c_P_countOf {l : Launch} {D : va_G} {K : Nat → ClassId} {B : Nat} {ad : Nat → Nat} {w : Nat → Option va_E} {H : Heap} {σ : xS} (hR : RepX K σ ad w) (hI : Inv σ) (hw : xw D vwCl B ad w H) (k : Nat) (hk : k < 4) : xC l D K B y_P_countOf b_P_countOf 2 (some .int) rm_P_countOf [.ref (ad 4), .int (nI k)] H (fun v H1 => v = some (.int (nI (σ.1 (11 + 2 * k)))) ∧ H1 = H) := by
  refine Met.ofW (cc := b_P_countOf) (maxL := 2) (ret := (some .int)) (by decide) rfl ?_
  intro p e s m args below meth c s₁ B0 hml hv
  obtain ⟨rfl, hsz, hK, hN⟩ := hv
  have hx := B0.exec
  have hb := B0.bytes
  have hr := B0.returns
  have htw : ∀ w ∈ xW0, w.before [.ref (ad 4), .int (nI k)].toArray s = true := fun w h => atoms_spec (ws := Cond.code y_P_countOf b_P_countOf 2 (some .int) :: xW0) B0.pre w (List.mem_cons_of_mem _ h)
  have hown : s.vm.findClass R_P = some m.cls := findClass_of_methodNamed B0.named
  have hlocks := B0.notSynchronized
  subst hsz
  have hS : va_S (fun q => B ≤ q) s.heap s.heap [] := va_S.rf
  have hl := lv_entry ([.ref (ad 4), .int (nI k)]) (n := 2) (Nat.le_of_ble_eq_true rfl)
  rw [lg_entry_eq]
  generalize (lg_sl ([.ref (ad 4), .int (nI k)]) ++ List.replicate (2 - (lg_sl ([.ref (ad 4), .int (nI k)])).length) Slot.unset).toArray = ls at hl ⊢
  have hl : lv_has ls 2 [(0, .ref (ad 4)), (1, .int (nI k))] := hl
  have hH : s.heap = s.heap := rfl
  obtain ⟨r0, r1, r2, r3, r4, r5, r6, r7, rb, rba, rbt, rbo, rs, rss, rr⟩ := id hR
  obtain ⟨hnb, hns, hnr, hpc, hst, hto, htl, hrm, hpa, hwt, hdf, hds⟩ := id hI
  refine lv_iload_n hx hb d_P_countOf_0 rfl (lv_at hl 1 rfl) ?_
  refine xr_call (va_runSN (As := [.int (nI k)]) (rest := []) ⟨hx, hb, hml, hown, htw⟩ (c_A_isMetal (nI k)) ⟨va_cnB 1 htw (gC u_137) rfl rfl rfl (hN (.methodLinkNest R_P 26 y_A_isMetal R_A) (by decide +kernel)).1 (htw _ u_1) hd_A_isMetal.2 ⟨Nat.le_of_ble_eq_true rfl, Nat.le_of_ble_eq_true rfl⟩, htw _ u_136, trivial⟩ ⟨xP_blind, xP_of hK hN⟩ rfl rfl hl.1 rfl (lv_room (Nat.le_of_ble_eq_true rfl)) d_P_countOf_1 ⟨by decide, by decide⟩) hS (fun v H_ locs hp hS => ?_)
  obtain ⟨rfl, hHe⟩ := hp
  rw [hHe] at hS ⊢
  refine W.eq (g2 := F0 m 4 ls [.int (bI (xm (nI k)))]) rfl ?_
  refine lv_if_eq (tgt := 16) hx hb d_P_countOf_4 (by decide) (fun c_1 => absurd c_1 (by rw [xm_nI hk]; decide)) (fun c_1 => ?_)
  have c_1 : (xm (nI k)) = true := bI_t.mp c_1
  refine lv_aload_n hx hb d_P_countOf_7 rfl (lv_at hl 0 rfl) ?_
  refine xr_get (ci := 4) (v := .ref (ad 5)) (C := R_P) (T := T_P) (N := 3) hx hb htw in_P hown hK hw 4 r4 rfl rfl 0 (by decide) (htw _ u_29) (fun _ h9 => h9) rfl d_P_countOf_8 ?_
  refine lv_iload_n hx hb d_P_countOf_11 rfl (lv_at hl 1 rfl) ?_
  refine xr_iald (i := nI k) hx hb hK hw 5 0 r5 rfl rfl (xvin (a := k) rfl (by omega) (by omega)) d_P_countOf_12 ?_
  refine lv_topi (fun x_2 ex_2 => ?_)
  obtain rfl : x_2 = nI (σ.1 (11 + 2 * k)) := ex_2.trans ((congrArg (fun k => nI (σ.1 (11 + 2 * k))) (xcl (a := k) rfl (by omega))).trans rfl)
  refine lv_goto (tgt := 17) hx hb d_P_countOf_13 (by decide) ?_
  exact W.iret (v := nI (σ.1 (11 + 2 * k))) hx hb hr (fun t ht _ => ⟨_, rfl, ⟨rfl, ht⟩, hS.F ht⟩) hS.2.2 d_P_countOf_17
set_option maxHeartbeats 4000000 in
set_option maxRecDepth 100000 in
theorem c_P_centsOn {l : Launch} {D : va_G} {K : Nat → ClassId} {B : Nat} {ad : Nat → Nat} {w : Nat → Option va_E} {H : Heap} {σ : xS} (hR : RepX K σ ad w) (hI : Inv σ) (hw : xw D vwCl B ad w H) (k : Nat) (hk : k < 4) (d : Int32) : xC l D K B y_P_centsOn b_P_centsOn 8 (some .long) rm_P_centsOn [.ref (ad 4), .int (nI k), .int d] H (fun v H1 => v = some (.long (prN σ k d (σ.1 (11 + 2 * k)))) ∧ H1 = H) := by
  refine Met.ofW (cc := b_P_centsOn) (maxL := 8) (ret := (some .long)) (by decide) rfl ?_
  intro p e s m args below meth c s₁ B0 hml hv
  obtain ⟨rfl, hsz, hK, hN⟩ := hv
  have hx := B0.exec
  have hb := B0.bytes
  have hr := B0.returns
  have htw : ∀ w ∈ xW0, w.before [.ref (ad 4), .int (nI k), .int d].toArray s = true := fun w h => atoms_spec (ws := Cond.code y_P_centsOn b_P_centsOn 8 (some .long) :: xW0) B0.pre w (List.mem_cons_of_mem _ h)
  have hown : s.vm.findClass R_P = some m.cls := findClass_of_methodNamed B0.named
  have hlocks := B0.notSynchronized
  subst hsz
  have hS : va_S (fun q => B ≤ q) s.heap s.heap [] := va_S.rf
  have hl := lv_entry ([.ref (ad 4), .int (nI k), .int d]) (n := 8) (Nat.le_of_ble_eq_true rfl)
  rw [lg_entry_eq]
  generalize (lg_sl ([.ref (ad 4), .int (nI k), .int d]) ++ List.replicate (8 - (lg_sl ([.ref (ad 4), .int (nI k), .int d])).length) Slot.unset).toArray = ls at hl ⊢
  have hl : lv_has ls 8 [(0, .ref (ad 4)), (1, .int (nI k)), (2, .int d)] := hl
  have hH : s.heap = s.heap := rfl
  obtain ⟨r0, r1, r2, r3, r4, r5, r6, r7, rb, rba, rbt, rbo, rs, rss, rr⟩ := id hR
  obtain ⟨hnb, hns, hnr, hpc, hst, hto, htl, hrm, hpa, hwt, hdf, hds⟩ := id hI
  refine lv_lconst (v := 0) hx hb d_P_centsOn_0 (by decide) ?_
  refine lv_lstore_n (lv' := [(3, .long 0), (0, .ref (ad 4)), (1, .int (nI k)), (2, .int d)]) hx hb d_P_centsOn_1 rfl hl (by decide) rfl (fun ls hl => ?_)
  refine lv_aload_n hx hb d_P_centsOn_2 rfl (lv_at hl 1 rfl) ?_
  refine lv_iload_n hx hb d_P_centsOn_3 rfl (lv_at hl 2 rfl) ?_
  refine xr_call (va_runV (As := [.int (nI k)]) (rest := []) ⟨hx, hb, hml, hown, htw⟩ (c_P_countOf (ad := ad) hR hI hw k (by omega)) (cwV 1 htw (gV u_212 u_214 us_4 u_2 u_215) rfl rfl rfl hd_P_countOf ⟨Nat.le_of_ble_eq_true rfl, Nat.le_of_ble_eq_true rfl⟩) ⟨xP_blind, hw.recv hK (ci := 4) (t := 4) rfl r4 rfl, xP_of hK hN⟩ rfl rfl hl.1 rfl (lv_room (Nat.le_of_ble_eq_true rfl)) d_P_centsOn_4 ⟨by decide, by decide⟩) hS (fun v H_ locs hp hS => ?_)
  obtain ⟨rfl, hHe⟩ := hp
  rw [hHe] at hS ⊢
  refine W.eq (g2 := F0 m 7 ls [.int (nI (σ.1 (11 + 2 * k)))]) rfl ?_
  refine lv_istore (lv' := [(5, .int (nI (σ.1 (11 + 2 * k)))), (3, .long 0), (0, .ref (ad 4)), (1, .int (nI k)), (2, .int d)]) hx hb d_P_centsOn_7 hl (by decide) rfl (fun ls hl => ?_)
  refine lv_iconst (v := 0) hx hb d_P_centsOn_9 (by decide) ?_
  refine lv_istore (lv' := [(6, .int 0), (5, .int (nI (σ.1 (11 + 2 * k)))), (3, .long 0), (0, .ref (ad 4)), (1, .int (nI k)), (2, .int d)]) hx hb d_P_centsOn_10 hl (by decide) rfl (fun ls hl => ?_)
  have hck := hpc k hk
  refine xloop (σ.1 (11 + 2 * k)) (fun n H locs ls => H = s.heap ∧ va_S (fun q => B ≤ q) s.heap H locs ∧ lv_has ls 8 [(6, .int (nI n)), (5, .int (nI (σ.1 (11 + 2 * k)))), (3, .long (prN σ k d n)), (0, .ref (ad 4)), (1, .int (nI k)), (2, .int d)]) 0 (Nat.zero_le _) ⟨rfl, hS, hl⟩ (fun n H locs ls hn hJ ih => ?_)
  obtain ⟨rfl, hS, hl⟩ := hJ
  refine lv_iload hx hb d_P_centsOn_12 (lv_at hl 0 rfl) ?_
  refine lv_iload hx hb d_P_centsOn_14 (lv_at hl 1 rfl) ?_
  refine lv_icmp_ge (tgt := 53) hx hb d_P_centsOn_16 (by decide) (fun c_1 => ?_) (fun c_1 => ?_)
  · have c_1 : (σ.1 (11 + 2 * k)) ≤ n := (nLE (a := σ.1 (11 + 2 * k)) (b := n) (by omega) (by omega)).mp c_1
    refine lv_lload_n hx hb d_P_centsOn_53 rfl (lv_at hl 2 rfl) ?_
    exact W.lret (v := prN σ k d n) hx hb hr (fun t ht _ => ⟨_, rfl, ⟨by rw [show n = σ.1 (11 + 2 * k) by omega], ht⟩, hS.F ht⟩) hS.2.2 d_P_centsOn_54
  · have c_1 : ¬ (σ.1 (11 + 2 * k)) ≤ n := fun z => c_1 ((nLE (a := σ.1 (11 + 2 * k)) (b := n) (by omega) (by omega)).mpr z)
    refine lv_iload_n hx hb d_P_centsOn_19 rfl (lv_at hl 4 rfl) ?_
    refine lv_bipush (v := 6) hx hb d_P_centsOn_20 (by decide) ?_
    refine lv_imul hx hb d_P_centsOn_22 ?_
    refine lv_iload hx hb d_P_centsOn_23 (lv_at hl 0 rfl) ?_
    refine lv_iadd hx hb d_P_centsOn_25 ?_
    refine lv_istore (lv' := [(7, .int (((nI k) * 6) + (nI n))), (6, .int (nI n)), (5, .int (nI (σ.1 (11 + 2 * k)))), (3, .long (prN σ k d n)), (0, .ref (ad 4)), (1, .int (nI k)), (2, .int d)]) hx hb d_P_centsOn_26 hl (by decide) rfl (fun ls hl => ?_)
    refine lv_aload_n hx hb d_P_centsOn_28 rfl (lv_at hl 4 rfl) ?_
    refine xr_get (ci := 4) (v := .ref (ad 6)) (C := R_P) (T := T_P) (N := 3) hx hb htw in_P hown hK hw 4 r4 rfl rfl 1 (by decide) (htw _ u_30) (fun _ h9 => h9) rfl d_P_centsOn_29 ?_
    refine lv_iload hx hb d_P_centsOn_32 (lv_at hl 0 rfl) ?_
    refine xr_iald (i := ((nI k) * 6) + (nI n)) hx hb hK hw 6 0 r6 rfl rfl (xvin (a := (k * 6) + n) (xadd (a := k * 6) (b := n) (xmul (a := k) (b := 6) rfl rfl) rfl) (by omega) (by omega)) d_P_centsOn_34 ?_
    refine lv_topi (fun x_2 ex_2 => ?_)
    obtain rfl : x_2 = (σ.2.1 40) ((k * 6) + n) := ex_2.trans ((congrArg (σ.2.1 40) (xcl (a := (k * 6) + n) (xadd (a := k * 6) (b := n) (xmul (a := k) (b := 6) rfl rfl) rfl) (by omega))).trans rfl)
    refine lv_iload_n hx hb d_P_centsOn_35 rfl (lv_at hl 6 rfl) ?_
    refine lv_icmp_gt (tgt := 47) hx hb d_P_centsOn_36 (by decide) (fun c_3 => ?_) (fun c_3 => ?_)
    · refine lv_iinc (v := nI n + 1) (lv' := [(6, .int (nI n + 1)), (7, .int (((nI k) * 6) + (nI n))), (5, .int (nI (σ.1 (11 + 2 * k)))), (3, .long (prN σ k d n)), (0, .ref (ad 4)), (1, .int (nI k)), (2, .int d)]) hx hb d_P_centsOn_47 hl (k := 1) rfl rfl (by decide) rfl (fun ls hl => ?_)
      refine lv_goto (tgt := 12) hx hb d_P_centsOn_50 (by decide) ?_
      refine ih (by omega) _ _ _ ⟨rfl, hS, ?_⟩
      have hn1 : prN σ k d (n + 1) = prN σ k d n := by simp [prN, c_3, Int32.not_le.mpr c_3]
      have hn2 : nI (n + 1) = nI n + 1 := by rw [nI_succ]
      rw [hn1, hn2]
      exact lv_sub hl [0, 2, 3, 4, 5, 6] rfl
    · refine lv_aload_n hx hb d_P_centsOn_39 rfl (lv_at hl 4 rfl) ?_
      refine xr_get (ci := 4) (v := .ref (ad 7)) (C := R_P) (T := T_P) (N := 3) hx hb htw in_P hown hK hw 4 r4 rfl rfl 2 (by decide) (htw _ u_31) (fun _ h9 => h9) rfl d_P_centsOn_40 ?_
      refine lv_iload hx hb d_P_centsOn_43 (lv_at hl 0 rfl) ?_
      refine xr_lald (i := ((nI k) * 6) + (nI n)) hx hb hK hw 7 1 r7 rfl rfl (xvin (a := (k * 6) + n) (xadd (a := k * 6) (b := n) (xmul (a := k) (b := 6) rfl rfl) rfl) (by omega) (by omega)) d_P_centsOn_45 ?_
      refine lv_topl (fun x_4 ex_4 => ?_)
      obtain rfl : x_4 = (σ.2.2.1 40) ((k * 6) + n) := ex_4.trans ((congrArg (σ.2.2.1 40) (xcl (a := (k * 6) + n) (xadd (a := k * 6) (b := n) (xmul (a := k) (b := 6) rfl rfl) rfl) (by omega))).trans rfl)
      refine lv_lstore_n (lv' := [(3, .long ((σ.2.2.1 40) ((k * 6) + n))), (7, .int (((nI k) * 6) + (nI n))), (6, .int (nI n)), (5, .int (nI (σ.1 (11 + 2 * k)))), (0, .ref (ad 4)), (1, .int (nI k)), (2, .int d)]) hx hb d_P_centsOn_46 rfl hl (by decide) rfl (fun ls hl => ?_)
      refine lv_iinc (v := nI n + 1) (lv' := [(6, .int (nI n + 1)), (3, .long ((σ.2.2.1 40) ((k * 6) + n))), (7, .int (((nI k) * 6) + (nI n))), (5, .int (nI (σ.1 (11 + 2 * k)))), (0, .ref (ad 4)), (1, .int (nI k)), (2, .int d)]) hx hb d_P_centsOn_47 hl (k := 2) rfl rfl (by decide) rfl (fun ls hl => ?_)
      refine lv_goto (tgt := 12) hx hb d_P_centsOn_50 (by decide) ?_
      refine ih (by omega) _ _ _ ⟨rfl, hS, ?_⟩
      have hn1 : prN σ k d (n + 1) = (σ.2.2.1 40) ((k * 6) + n) := by simp [prN, c_3, Int32.not_lt.mp c_3]
      have hn2 : nI (n + 1) = nI n + 1 := by rw [nI_succ]
      rw [hn1, hn2]
      exact lv_sub hl [0, 3, 1, 4, 5, 6] rfl
set_option maxHeartbeats 4000000 in
set_option maxRecDepth 100000 in
theorem c_P_centsFor {l : Launch} {D : va_G} {K : Nat → ClassId} {B : Nat} {ad : Nat → Nat} {w : Nat → Option va_E} {H : Heap} {σ : xS} (hR : RepX K σ ad w) (hI : Inv σ) (hw : xw D vwCl B ad w H) (t : Nat) (A : Nat → Int64) (hA : w t = some (.inl (K 1, 4, .inr (.inl A)))) (x2 : Int32) : xC l D K B y_P_centsFor b_P_centsFor 10 (some .long) rm_P_centsFor [.ref (ad 4), .ref (ad t), .int x2] H (fun v H1 => v = some (.long (wor σ A x2)) ∧ H1 = H) := by
  refine Met.ofW (cc := b_P_centsFor) (maxL := 10) (ret := (some .long)) (by decide) rfl ?_
  intro p e s m args below meth c s₁ B0 hml hv
  obtain ⟨rfl, hsz, hK, hN⟩ := hv
  have hx := B0.exec
  have hb := B0.bytes
  have hr := B0.returns
  have htw : ∀ w ∈ xW0, w.before [.ref (ad 4), .ref (ad t), .int x2].toArray s = true := fun w h => atoms_spec (ws := Cond.code y_P_centsFor b_P_centsFor 10 (some .long) :: xW0) B0.pre w (List.mem_cons_of_mem _ h)
  have hown : s.vm.findClass R_P = some m.cls := findClass_of_methodNamed B0.named
  have hlocks := B0.notSynchronized
  subst hsz
  have hS : va_S (fun q => B ≤ q) s.heap s.heap [] := va_S.rf
  have hl := lv_entry ([.ref (ad 4), .ref (ad t), .int x2]) (n := 10) (Nat.le_of_ble_eq_true rfl)
  rw [lg_entry_eq]
  generalize (lg_sl ([.ref (ad 4), .ref (ad t), .int x2]) ++ List.replicate (10 - (lg_sl ([.ref (ad 4), .ref (ad t), .int x2])).length) Slot.unset).toArray = ls at hl ⊢
  have hl : lv_has ls 10 [(0, .ref (ad 4)), (1, .ref (ad t)), (2, .int x2)] := hl
  have hH : s.heap = s.heap := rfl
  obtain ⟨r0, r1, r2, r3, r4, r5, r6, r7, rb, rba, rbt, rbo, rs, rss, rr⟩ := id hR
  obtain ⟨hnb, hns, hnr, hpc, hst, hto, htl, hrm, hpa, hwt, hdf, hds⟩ := id hI
  refine lv_lconst (v := 0) hx hb d_P_centsFor_0 (by decide) ?_
  refine lv_lstore_n (lv' := [(3, .long 0), (0, .ref (ad 4)), (1, .ref (ad t)), (2, .int x2)]) hx hb d_P_centsFor_1 rfl hl (by decide) rfl (fun ls hl => ?_)
  refine lv_lconst (v := 0) hx hb d_P_centsFor_2 (by decide) ?_
  refine lv_lstore (lv' := [(5, .long 0), (3, .long 0), (0, .ref (ad 4)), (1, .ref (ad t)), (2, .int x2)]) hx hb d_P_centsFor_3 hl (by decide) rfl (fun ls hl => ?_)
  refine lv_iconst (v := 0) hx hb d_P_centsFor_5 (by decide) ?_
  refine lv_istore (lv' := [(7, .int 0), (5, .long 0), (3, .long 0), (0, .ref (ad 4)), (1, .ref (ad t)), (2, .int x2)]) hx hb d_P_centsFor_6 hl (by decide) rfl (fun ls hl => ?_)
  refine lv_iload hx hb d_P_centsFor_8 (lv_at hl 0 rfl) ?_
  refine lv_iconst (v := 4) hx hb d_P_centsFor_10 (by decide) ?_
  refine lv_icmp_ge (tgt := 66) hx hb d_P_centsFor_11 (by decide) (fun c_1 => absurd c_1 (by decide)) (fun c_1 => ?_)
  refine lv_iload hx hb d_P_centsFor_14 (lv_at hl 0 rfl) ?_
  refine lv_aload_n hx hb d_P_centsFor_16 rfl (lv_at hl 4 rfl) ?_
  refine xr_alen (v := 4) hx hb hK hw t 1 hA rfl rfl rfl d_P_centsFor_17 ?_
  refine lv_icmp_ge (tgt := 66) hx hb d_P_centsFor_18 (by decide) (fun c_2 => absurd c_2 (by decide)) (fun c_2 => ?_)
  refine lv_aload_n hx hb d_P_centsFor_21 rfl (lv_at hl 3 rfl) ?_
  refine lv_iload hx hb d_P_centsFor_22 (lv_at hl 0 rfl) ?_
  refine lv_iload_n hx hb d_P_centsFor_24 rfl (lv_at hl 5 rfl) ?_
  refine xr_call (va_runV (As := [.int 0, .int x2]) (rest := []) ⟨hx, hb, hml, hown, htw⟩ (c_P_centsOn (ad := ad) hR hI hw 0 (by omega) x2) (cwV 2 htw (gV u_225 u_227 us_5 u_2 u_228) rfl rfl rfl hd_P_centsOn ⟨Nat.le_of_ble_eq_true rfl, Nat.le_of_ble_eq_true rfl⟩) ⟨xP_blind, hw.recv hK (ci := 4) (t := 4) rfl r4 rfl, xP_of hK hN⟩ rfl rfl hl.1 rfl (lv_room (Nat.le_of_ble_eq_true rfl)) d_P_centsFor_25 ⟨by decide, by decide⟩) hS (fun v H_ locs hp hS => ?_)
  obtain ⟨rfl, hHe⟩ := hp
  rw [hHe] at hS ⊢
  refine W.eq (g2 := F0 m 28 ls [.long (pr σ x2 0)]) rfl ?_
  refine lv_lstore (lv' := [(8, .long (pr σ x2 0)), (7, .int 0), (5, .long 0), (3, .long 0), (0, .ref (ad 4)), (1, .ref (ad t)), (2, .int x2)]) hx hb d_P_centsFor_28 hl (by decide) rfl (fun ls hl => ?_)
  refine lv_lload_n hx hb d_P_centsFor_30 rfl (lv_at hl 3 rfl) ?_
  refine lv_aload_n hx hb d_P_centsFor_31 rfl (lv_at hl 5 rfl) ?_
  refine lv_iload hx hb d_P_centsFor_32 (lv_at hl 1 rfl) ?_
  refine xr_lald (i := 0) hx hb hK hw t 1 hA rfl rfl (by unfold vp_in; decide) d_P_centsFor_34 ?_
  refine lv_topl (fun x_3 ex_3 => ?_)
  obtain rfl : x_3 = A 0 := ex_3.trans ((congrArg A ((rfl : (0 : Int32).toNatClampNeg = 0))).trans rfl)
  refine lv_ldc2 (v := 1000000) hx hb hown (htw _ u_229) d_P_centsFor_35 ?_
  refine lv_ldiv hx hb d_P_centsFor_38 (by decide) ?_
  refine lv_lload hx hb d_P_centsFor_39 (lv_at hl 0 rfl) ?_
  refine lv_lmul hx hb d_P_centsFor_41 ?_
  refine lv_ladd hx hb d_P_centsFor_42 ?_
  refine lv_lstore_n (lv' := [(3, .long (0 + (((A 0) / 1000000) * (pr σ x2 0)))), (8, .long (pr σ x2 0)), (7, .int 0), (5, .long 0), (0, .ref (ad 4)), (1, .ref (ad t)), (2, .int x2)]) hx hb d_P_centsFor_43 rfl hl (by decide) rfl (fun ls hl => ?_)
  refine lv_lload hx hb d_P_centsFor_44 (lv_at hl 3 rfl) ?_
  refine lv_aload_n hx hb d_P_centsFor_46 rfl (lv_at hl 5 rfl) ?_
  refine lv_iload hx hb d_P_centsFor_47 (lv_at hl 2 rfl) ?_
  refine xr_lald (i := 0) hx hb hK hw t 1 hA rfl rfl (by unfold vp_in; decide) d_P_centsFor_49 ?_
  refine lv_topl (fun x_4 ex_4 => ?_)
  obtain rfl : x_4 = A 0 := ex_4.trans ((congrArg A ((rfl : (0 : Int32).toNatClampNeg = 0))).trans rfl)
  refine lv_ldc2 (v := 1000000) hx hb hown (htw _ u_229) d_P_centsFor_50 ?_
  refine lv_lrem hx hb d_P_centsFor_53 (by decide) ?_
  refine lv_lload hx hb d_P_centsFor_54 (lv_at hl 1 rfl) ?_
  refine lv_lmul hx hb d_P_centsFor_56 ?_
  refine lv_ladd hx hb d_P_centsFor_57 ?_
  refine lv_lstore (lv' := [(5, .long (0 + (((A 0) - (A 0) / 1000000 * 1000000) * (pr σ x2 0)))), (3, .long (0 + (((A 0) / 1000000) * (pr σ x2 0)))), (8, .long (pr σ x2 0)), (7, .int 0), (0, .ref (ad 4)), (1, .ref (ad t)), (2, .int x2)]) hx hb d_P_centsFor_58 hl (by decide) rfl (fun ls hl => ?_)
  refine lv_iinc (v := 1) (lv' := [(7, .int 1), (5, .long (0 + (((A 0) - (A 0) / 1000000 * 1000000) * (pr σ x2 0)))), (3, .long (0 + (((A 0) / 1000000) * (pr σ x2 0)))), (8, .long (pr σ x2 0)), (0, .ref (ad 4)), (1, .ref (ad t)), (2, .int x2)]) hx hb d_P_centsFor_60 hl (k := 3) rfl (by decide) (by decide) rfl (fun ls hl => ?_)
  refine lv_goto (tgt := 8) hx hb d_P_centsFor_63 (by decide) ?_
  refine lv_iload hx hb d_P_centsFor_8 (lv_at hl 0 rfl) ?_
  refine lv_iconst (v := 4) hx hb d_P_centsFor_10 (by decide) ?_
  refine lv_icmp_ge (tgt := 66) hx hb d_P_centsFor_11 (by decide) (fun c_5 => absurd c_5 (by decide)) (fun c_5 => ?_)
  refine lv_iload hx hb d_P_centsFor_14 (lv_at hl 0 rfl) ?_
  refine lv_aload_n hx hb d_P_centsFor_16 rfl (lv_at hl 5 rfl) ?_
  refine xr_alen (v := 4) hx hb hK hw t 1 hA rfl rfl rfl d_P_centsFor_17 ?_
  refine lv_icmp_ge (tgt := 66) hx hb d_P_centsFor_18 (by decide) (fun c_6 => absurd c_6 (by decide)) (fun c_6 => ?_)
  refine lv_aload_n hx hb d_P_centsFor_21 rfl (lv_at hl 4 rfl) ?_
  refine lv_iload hx hb d_P_centsFor_22 (lv_at hl 0 rfl) ?_
  refine lv_iload_n hx hb d_P_centsFor_24 rfl (lv_at hl 6 rfl) ?_
  refine xr_call (va_runV (As := [.int 1, .int x2]) (rest := []) ⟨hx, hb, hml, hown, htw⟩ (c_P_centsOn (ad := ad) hR hI hw 1 (by omega) x2) (cwV 2 htw (gV u_225 u_227 us_5 u_2 u_228) rfl rfl rfl hd_P_centsOn ⟨Nat.le_of_ble_eq_true rfl, Nat.le_of_ble_eq_true rfl⟩) ⟨xP_blind, hw.recv hK (ci := 4) (t := 4) rfl r4 rfl, xP_of hK hN⟩ rfl rfl hl.1 rfl (lv_room (Nat.le_of_ble_eq_true rfl)) d_P_centsFor_25 ⟨by decide, by decide⟩) hS (fun v H_ locs hp hS => ?_)
  obtain ⟨rfl, hHe⟩ := hp
  rw [hHe] at hS ⊢
  refine W.eq (g2 := F0 m 28 ls [.long (pr σ x2 1)]) rfl ?_
  refine lv_lstore (lv' := [(8, .long (pr σ x2 1)), (7, .int 1), (5, .long (0 + (((A 0) - (A 0) / 1000000 * 1000000) * (pr σ x2 0)))), (3, .long (0 + (((A 0) / 1000000) * (pr σ x2 0)))), (0, .ref (ad 4)), (1, .ref (ad t)), (2, .int x2)]) hx hb d_P_centsFor_28 hl (by decide) rfl (fun ls hl => ?_)
  refine lv_lload_n hx hb d_P_centsFor_30 rfl (lv_at hl 3 rfl) ?_
  refine lv_aload_n hx hb d_P_centsFor_31 rfl (lv_at hl 5 rfl) ?_
  refine lv_iload hx hb d_P_centsFor_32 (lv_at hl 1 rfl) ?_
  refine xr_lald (i := 1) hx hb hK hw t 1 hA rfl rfl (by unfold vp_in; decide) d_P_centsFor_34 ?_
  refine lv_topl (fun x_7 ex_7 => ?_)
  obtain rfl : x_7 = A 1 := ex_7.trans ((congrArg A ((rfl : (1 : Int32).toNatClampNeg = 1))).trans rfl)
  refine lv_ldc2 (v := 1000000) hx hb hown (htw _ u_229) d_P_centsFor_35 ?_
  refine lv_ldiv hx hb d_P_centsFor_38 (by decide) ?_
  refine lv_lload hx hb d_P_centsFor_39 (lv_at hl 0 rfl) ?_
  refine lv_lmul hx hb d_P_centsFor_41 ?_
  refine lv_ladd hx hb d_P_centsFor_42 ?_
  refine lv_lstore_n (lv' := [(3, .long ((0 + (((A 0) / 1000000) * (pr σ x2 0))) + (((A 1) / 1000000) * (pr σ x2 1)))), (8, .long (pr σ x2 1)), (7, .int 1), (5, .long (0 + (((A 0) - (A 0) / 1000000 * 1000000) * (pr σ x2 0)))), (0, .ref (ad 4)), (1, .ref (ad t)), (2, .int x2)]) hx hb d_P_centsFor_43 rfl hl (by decide) rfl (fun ls hl => ?_)
  refine lv_lload hx hb d_P_centsFor_44 (lv_at hl 3 rfl) ?_
  refine lv_aload_n hx hb d_P_centsFor_46 rfl (lv_at hl 5 rfl) ?_
  refine lv_iload hx hb d_P_centsFor_47 (lv_at hl 2 rfl) ?_
  refine xr_lald (i := 1) hx hb hK hw t 1 hA rfl rfl (by unfold vp_in; decide) d_P_centsFor_49 ?_
  refine lv_topl (fun x_8 ex_8 => ?_)
  obtain rfl : x_8 = A 1 := ex_8.trans ((congrArg A ((rfl : (1 : Int32).toNatClampNeg = 1))).trans rfl)
  refine lv_ldc2 (v := 1000000) hx hb hown (htw _ u_229) d_P_centsFor_50 ?_
  refine lv_lrem hx hb d_P_centsFor_53 (by decide) ?_
  refine lv_lload hx hb d_P_centsFor_54 (lv_at hl 1 rfl) ?_
  refine lv_lmul hx hb d_P_centsFor_56 ?_
  refine lv_ladd hx hb d_P_centsFor_57 ?_
  refine lv_lstore (lv' := [(5, .long ((0 + (((A 0) - (A 0) / 1000000 * 1000000) * (pr σ x2 0))) + (((A 1) - (A 1) / 1000000 * 1000000) * (pr σ x2 1)))), (3, .long ((0 + (((A 0) / 1000000) * (pr σ x2 0))) + (((A 1) / 1000000) * (pr σ x2 1)))), (8, .long (pr σ x2 1)), (7, .int 1), (0, .ref (ad 4)), (1, .ref (ad t)), (2, .int x2)]) hx hb d_P_centsFor_58 hl (by decide) rfl (fun ls hl => ?_)
  refine lv_iinc (v := 2) (lv' := [(7, .int 2), (5, .long ((0 + (((A 0) - (A 0) / 1000000 * 1000000) * (pr σ x2 0))) + (((A 1) - (A 1) / 1000000 * 1000000) * (pr σ x2 1)))), (3, .long ((0 + (((A 0) / 1000000) * (pr σ x2 0))) + (((A 1) / 1000000) * (pr σ x2 1)))), (8, .long (pr σ x2 1)), (0, .ref (ad 4)), (1, .ref (ad t)), (2, .int x2)]) hx hb d_P_centsFor_60 hl (k := 3) rfl (by decide) (by decide) rfl (fun ls hl => ?_)
  refine lv_goto (tgt := 8) hx hb d_P_centsFor_63 (by decide) ?_
  refine lv_iload hx hb d_P_centsFor_8 (lv_at hl 0 rfl) ?_
  refine lv_iconst (v := 4) hx hb d_P_centsFor_10 (by decide) ?_
  refine lv_icmp_ge (tgt := 66) hx hb d_P_centsFor_11 (by decide) (fun c_9 => absurd c_9 (by decide)) (fun c_9 => ?_)
  refine lv_iload hx hb d_P_centsFor_14 (lv_at hl 0 rfl) ?_
  refine lv_aload_n hx hb d_P_centsFor_16 rfl (lv_at hl 5 rfl) ?_
  refine xr_alen (v := 4) hx hb hK hw t 1 hA rfl rfl rfl d_P_centsFor_17 ?_
  refine lv_icmp_ge (tgt := 66) hx hb d_P_centsFor_18 (by decide) (fun c_10 => absurd c_10 (by decide)) (fun c_10 => ?_)
  refine lv_aload_n hx hb d_P_centsFor_21 rfl (lv_at hl 4 rfl) ?_
  refine lv_iload hx hb d_P_centsFor_22 (lv_at hl 0 rfl) ?_
  refine lv_iload_n hx hb d_P_centsFor_24 rfl (lv_at hl 6 rfl) ?_
  refine xr_call (va_runV (As := [.int 2, .int x2]) (rest := []) ⟨hx, hb, hml, hown, htw⟩ (c_P_centsOn (ad := ad) hR hI hw 2 (by omega) x2) (cwV 2 htw (gV u_225 u_227 us_5 u_2 u_228) rfl rfl rfl hd_P_centsOn ⟨Nat.le_of_ble_eq_true rfl, Nat.le_of_ble_eq_true rfl⟩) ⟨xP_blind, hw.recv hK (ci := 4) (t := 4) rfl r4 rfl, xP_of hK hN⟩ rfl rfl hl.1 rfl (lv_room (Nat.le_of_ble_eq_true rfl)) d_P_centsFor_25 ⟨by decide, by decide⟩) hS (fun v H_ locs hp hS => ?_)
  obtain ⟨rfl, hHe⟩ := hp
  rw [hHe] at hS ⊢
  refine W.eq (g2 := F0 m 28 ls [.long (pr σ x2 2)]) rfl ?_
  refine lv_lstore (lv' := [(8, .long (pr σ x2 2)), (7, .int 2), (5, .long ((0 + (((A 0) - (A 0) / 1000000 * 1000000) * (pr σ x2 0))) + (((A 1) - (A 1) / 1000000 * 1000000) * (pr σ x2 1)))), (3, .long ((0 + (((A 0) / 1000000) * (pr σ x2 0))) + (((A 1) / 1000000) * (pr σ x2 1)))), (0, .ref (ad 4)), (1, .ref (ad t)), (2, .int x2)]) hx hb d_P_centsFor_28 hl (by decide) rfl (fun ls hl => ?_)
  refine lv_lload_n hx hb d_P_centsFor_30 rfl (lv_at hl 3 rfl) ?_
  refine lv_aload_n hx hb d_P_centsFor_31 rfl (lv_at hl 5 rfl) ?_
  refine lv_iload hx hb d_P_centsFor_32 (lv_at hl 1 rfl) ?_
  refine xr_lald (i := 2) hx hb hK hw t 1 hA rfl rfl (by unfold vp_in; decide) d_P_centsFor_34 ?_
  refine lv_topl (fun x_11 ex_11 => ?_)
  obtain rfl : x_11 = A 2 := ex_11.trans ((congrArg A ((rfl : (2 : Int32).toNatClampNeg = 2))).trans rfl)
  refine lv_ldc2 (v := 1000000) hx hb hown (htw _ u_229) d_P_centsFor_35 ?_
  refine lv_ldiv hx hb d_P_centsFor_38 (by decide) ?_
  refine lv_lload hx hb d_P_centsFor_39 (lv_at hl 0 rfl) ?_
  refine lv_lmul hx hb d_P_centsFor_41 ?_
  refine lv_ladd hx hb d_P_centsFor_42 ?_
  refine lv_lstore_n (lv' := [(3, .long (((0 + (((A 0) / 1000000) * (pr σ x2 0))) + (((A 1) / 1000000) * (pr σ x2 1))) + (((A 2) / 1000000) * (pr σ x2 2)))), (8, .long (pr σ x2 2)), (7, .int 2), (5, .long ((0 + (((A 0) - (A 0) / 1000000 * 1000000) * (pr σ x2 0))) + (((A 1) - (A 1) / 1000000 * 1000000) * (pr σ x2 1)))), (0, .ref (ad 4)), (1, .ref (ad t)), (2, .int x2)]) hx hb d_P_centsFor_43 rfl hl (by decide) rfl (fun ls hl => ?_)
  refine lv_lload hx hb d_P_centsFor_44 (lv_at hl 3 rfl) ?_
  refine lv_aload_n hx hb d_P_centsFor_46 rfl (lv_at hl 5 rfl) ?_
  refine lv_iload hx hb d_P_centsFor_47 (lv_at hl 2 rfl) ?_
  refine xr_lald (i := 2) hx hb hK hw t 1 hA rfl rfl (by unfold vp_in; decide) d_P_centsFor_49 ?_
  refine lv_topl (fun x_12 ex_12 => ?_)
  obtain rfl : x_12 = A 2 := ex_12.trans ((congrArg A ((rfl : (2 : Int32).toNatClampNeg = 2))).trans rfl)
  refine lv_ldc2 (v := 1000000) hx hb hown (htw _ u_229) d_P_centsFor_50 ?_
  refine lv_lrem hx hb d_P_centsFor_53 (by decide) ?_
  refine lv_lload hx hb d_P_centsFor_54 (lv_at hl 1 rfl) ?_
  refine lv_lmul hx hb d_P_centsFor_56 ?_
  refine lv_ladd hx hb d_P_centsFor_57 ?_
  refine lv_lstore (lv' := [(5, .long (((0 + (((A 0) - (A 0) / 1000000 * 1000000) * (pr σ x2 0))) + (((A 1) - (A 1) / 1000000 * 1000000) * (pr σ x2 1))) + (((A 2) - (A 2) / 1000000 * 1000000) * (pr σ x2 2)))), (3, .long (((0 + (((A 0) / 1000000) * (pr σ x2 0))) + (((A 1) / 1000000) * (pr σ x2 1))) + (((A 2) / 1000000) * (pr σ x2 2)))), (8, .long (pr σ x2 2)), (7, .int 2), (0, .ref (ad 4)), (1, .ref (ad t)), (2, .int x2)]) hx hb d_P_centsFor_58 hl (by decide) rfl (fun ls hl => ?_)
  refine lv_iinc (v := 3) (lv' := [(7, .int 3), (5, .long (((0 + (((A 0) - (A 0) / 1000000 * 1000000) * (pr σ x2 0))) + (((A 1) - (A 1) / 1000000 * 1000000) * (pr σ x2 1))) + (((A 2) - (A 2) / 1000000 * 1000000) * (pr σ x2 2)))), (3, .long (((0 + (((A 0) / 1000000) * (pr σ x2 0))) + (((A 1) / 1000000) * (pr σ x2 1))) + (((A 2) / 1000000) * (pr σ x2 2)))), (8, .long (pr σ x2 2)), (0, .ref (ad 4)), (1, .ref (ad t)), (2, .int x2)]) hx hb d_P_centsFor_60 hl (k := 3) rfl (by decide) (by decide) rfl (fun ls hl => ?_)
  refine lv_goto (tgt := 8) hx hb d_P_centsFor_63 (by decide) ?_
  refine lv_iload hx hb d_P_centsFor_8 (lv_at hl 0 rfl) ?_
  refine lv_iconst (v := 4) hx hb d_P_centsFor_10 (by decide) ?_
  refine lv_icmp_ge (tgt := 66) hx hb d_P_centsFor_11 (by decide) (fun c_13 => absurd c_13 (by decide)) (fun c_13 => ?_)
  refine lv_iload hx hb d_P_centsFor_14 (lv_at hl 0 rfl) ?_
  refine lv_aload_n hx hb d_P_centsFor_16 rfl (lv_at hl 5 rfl) ?_
  refine xr_alen (v := 4) hx hb hK hw t 1 hA rfl rfl rfl d_P_centsFor_17 ?_
  refine lv_icmp_ge (tgt := 66) hx hb d_P_centsFor_18 (by decide) (fun c_14 => absurd c_14 (by decide)) (fun c_14 => ?_)
  refine lv_aload_n hx hb d_P_centsFor_21 rfl (lv_at hl 4 rfl) ?_
  refine lv_iload hx hb d_P_centsFor_22 (lv_at hl 0 rfl) ?_
  refine lv_iload_n hx hb d_P_centsFor_24 rfl (lv_at hl 6 rfl) ?_
  refine xr_call (va_runV (As := [.int 3, .int x2]) (rest := []) ⟨hx, hb, hml, hown, htw⟩ (c_P_centsOn (ad := ad) hR hI hw 3 (by omega) x2) (cwV 2 htw (gV u_225 u_227 us_5 u_2 u_228) rfl rfl rfl hd_P_centsOn ⟨Nat.le_of_ble_eq_true rfl, Nat.le_of_ble_eq_true rfl⟩) ⟨xP_blind, hw.recv hK (ci := 4) (t := 4) rfl r4 rfl, xP_of hK hN⟩ rfl rfl hl.1 rfl (lv_room (Nat.le_of_ble_eq_true rfl)) d_P_centsFor_25 ⟨by decide, by decide⟩) hS (fun v H_ locs hp hS => ?_)
  obtain ⟨rfl, hHe⟩ := hp
  rw [hHe] at hS ⊢
  refine W.eq (g2 := F0 m 28 ls [.long (pr σ x2 3)]) rfl ?_
  refine lv_lstore (lv' := [(8, .long (pr σ x2 3)), (7, .int 3), (5, .long (((0 + (((A 0) - (A 0) / 1000000 * 1000000) * (pr σ x2 0))) + (((A 1) - (A 1) / 1000000 * 1000000) * (pr σ x2 1))) + (((A 2) - (A 2) / 1000000 * 1000000) * (pr σ x2 2)))), (3, .long (((0 + (((A 0) / 1000000) * (pr σ x2 0))) + (((A 1) / 1000000) * (pr σ x2 1))) + (((A 2) / 1000000) * (pr σ x2 2)))), (0, .ref (ad 4)), (1, .ref (ad t)), (2, .int x2)]) hx hb d_P_centsFor_28 hl (by decide) rfl (fun ls hl => ?_)
  refine lv_lload_n hx hb d_P_centsFor_30 rfl (lv_at hl 3 rfl) ?_
  refine lv_aload_n hx hb d_P_centsFor_31 rfl (lv_at hl 5 rfl) ?_
  refine lv_iload hx hb d_P_centsFor_32 (lv_at hl 1 rfl) ?_
  refine xr_lald (i := 3) hx hb hK hw t 1 hA rfl rfl (by unfold vp_in; decide) d_P_centsFor_34 ?_
  refine lv_topl (fun x_15 ex_15 => ?_)
  obtain rfl : x_15 = A 3 := ex_15.trans ((congrArg A ((rfl : (3 : Int32).toNatClampNeg = 3))).trans rfl)
  refine lv_ldc2 (v := 1000000) hx hb hown (htw _ u_229) d_P_centsFor_35 ?_
  refine lv_ldiv hx hb d_P_centsFor_38 (by decide) ?_
  refine lv_lload hx hb d_P_centsFor_39 (lv_at hl 0 rfl) ?_
  refine lv_lmul hx hb d_P_centsFor_41 ?_
  refine lv_ladd hx hb d_P_centsFor_42 ?_
  refine lv_lstore_n (lv' := [(3, .long ((((0 + (((A 0) / 1000000) * (pr σ x2 0))) + (((A 1) / 1000000) * (pr σ x2 1))) + (((A 2) / 1000000) * (pr σ x2 2))) + (((A 3) / 1000000) * (pr σ x2 3)))), (8, .long (pr σ x2 3)), (7, .int 3), (5, .long (((0 + (((A 0) - (A 0) / 1000000 * 1000000) * (pr σ x2 0))) + (((A 1) - (A 1) / 1000000 * 1000000) * (pr σ x2 1))) + (((A 2) - (A 2) / 1000000 * 1000000) * (pr σ x2 2)))), (0, .ref (ad 4)), (1, .ref (ad t)), (2, .int x2)]) hx hb d_P_centsFor_43 rfl hl (by decide) rfl (fun ls hl => ?_)
  refine lv_lload hx hb d_P_centsFor_44 (lv_at hl 3 rfl) ?_
  refine lv_aload_n hx hb d_P_centsFor_46 rfl (lv_at hl 5 rfl) ?_
  refine lv_iload hx hb d_P_centsFor_47 (lv_at hl 2 rfl) ?_
  refine xr_lald (i := 3) hx hb hK hw t 1 hA rfl rfl (by unfold vp_in; decide) d_P_centsFor_49 ?_
  refine lv_topl (fun x_16 ex_16 => ?_)
  obtain rfl : x_16 = A 3 := ex_16.trans ((congrArg A ((rfl : (3 : Int32).toNatClampNeg = 3))).trans rfl)
  refine lv_ldc2 (v := 1000000) hx hb hown (htw _ u_229) d_P_centsFor_50 ?_
  refine lv_lrem hx hb d_P_centsFor_53 (by decide) ?_
  refine lv_lload hx hb d_P_centsFor_54 (lv_at hl 1 rfl) ?_
  refine lv_lmul hx hb d_P_centsFor_56 ?_
  refine lv_ladd hx hb d_P_centsFor_57 ?_
  refine lv_lstore (lv' := [(5, .long ((((0 + (((A 0) - (A 0) / 1000000 * 1000000) * (pr σ x2 0))) + (((A 1) - (A 1) / 1000000 * 1000000) * (pr σ x2 1))) + (((A 2) - (A 2) / 1000000 * 1000000) * (pr σ x2 2))) + (((A 3) - (A 3) / 1000000 * 1000000) * (pr σ x2 3)))), (3, .long ((((0 + (((A 0) / 1000000) * (pr σ x2 0))) + (((A 1) / 1000000) * (pr σ x2 1))) + (((A 2) / 1000000) * (pr σ x2 2))) + (((A 3) / 1000000) * (pr σ x2 3)))), (8, .long (pr σ x2 3)), (7, .int 3), (0, .ref (ad 4)), (1, .ref (ad t)), (2, .int x2)]) hx hb d_P_centsFor_58 hl (by decide) rfl (fun ls hl => ?_)
  refine lv_iinc (v := 4) (lv' := [(7, .int 4), (5, .long ((((0 + (((A 0) - (A 0) / 1000000 * 1000000) * (pr σ x2 0))) + (((A 1) - (A 1) / 1000000 * 1000000) * (pr σ x2 1))) + (((A 2) - (A 2) / 1000000 * 1000000) * (pr σ x2 2))) + (((A 3) - (A 3) / 1000000 * 1000000) * (pr σ x2 3)))), (3, .long ((((0 + (((A 0) / 1000000) * (pr σ x2 0))) + (((A 1) / 1000000) * (pr σ x2 1))) + (((A 2) / 1000000) * (pr σ x2 2))) + (((A 3) / 1000000) * (pr σ x2 3)))), (8, .long (pr σ x2 3)), (0, .ref (ad 4)), (1, .ref (ad t)), (2, .int x2)]) hx hb d_P_centsFor_60 hl (k := 3) rfl (by decide) (by decide) rfl (fun ls hl => ?_)
  refine lv_goto (tgt := 8) hx hb d_P_centsFor_63 (by decide) ?_
  refine lv_iload hx hb d_P_centsFor_8 (lv_at hl 0 rfl) ?_
  refine lv_iconst (v := 4) hx hb d_P_centsFor_10 (by decide) ?_
  refine lv_icmp_ge (tgt := 66) hx hb d_P_centsFor_11 (by decide) (fun c_17 => ?_) (fun c_17 => absurd (by decide) c_17)
  refine lv_lload_n hx hb d_P_centsFor_66 rfl (lv_at hl 2 rfl) ?_
  refine lv_lload hx hb d_P_centsFor_67 (lv_at hl 1 rfl) ?_
  refine lv_ldc2 (v := 1000000) hx hb hown (htw _ u_229) d_P_centsFor_69 ?_
  refine lv_ldiv hx hb d_P_centsFor_72 (by decide) ?_
  refine lv_ladd hx hb d_P_centsFor_73 ?_
  exact W.lret (v := ((((0 + (((A 0) / 1000000) * (pr σ x2 0))) + (((A 1) / 1000000) * (pr σ x2 1))) + (((A 2) / 1000000) * (pr σ x2 2))) + (((A 3) / 1000000) * (pr σ x2 3))) + (((((0 + (((A 0) - (A 0) / 1000000 * 1000000) * (pr σ x2 0))) + (((A 1) - (A 1) / 1000000 * 1000000) * (pr σ x2 1))) + (((A 2) - (A 2) / 1000000 * 1000000) * (pr σ x2 2))) + (((A 3) - (A 3) / 1000000 * 1000000) * (pr σ x2 3))) / 1000000)) hx hb hr (fun t ht _ => ⟨_, rfl, ⟨rfl, ht⟩, hS.F ht⟩) hS.2.2 d_P_centsFor_74
set_option maxHeartbeats 4000000 in
set_option maxRecDepth 100000 in
theorem c_R_fits {l : Launch} {D : va_G} {K : Nat → ClassId} {B : Nat} {ad : Nat → Nat} {w : Nat → Option va_E} {H : Heap} {σ : xS} (hR : RepX K σ ad w) (hI : Inv σ) (hw : xw D vwCl B ad w H) (r : Nat) (hr0 : r < σ.1 2) (i : Nat) (hi : i < σ.1 0) : xC l D K B y_R_fits b_R_fits 5 (some .boolean) rm_R_fits [.ref (ad (160 + r)), .ref (ad (100 + i)), .int (σ.2.1 0 0), .int (σ.2.1 0 1)] H (fun v H1 => v = some (.int (bI (fits_ σ r i))) ∧ H1 = H) := by
  refine Met.ofW (cc := b_R_fits) (maxL := 5) (ret := (some .boolean)) (by decide) rfl ?_
  intro p e s m args below meth c s₁ B0 hml hv
  obtain ⟨rfl, hsz, hK, hN⟩ := hv
  have hx := B0.exec
  have hb := B0.bytes
  have hr := B0.returns
  have htw : ∀ w ∈ xW0, w.before [.ref (ad (160 + r)), .ref (ad (100 + i)), .int (σ.2.1 0 0), .int (σ.2.1 0 1)].toArray s = true := fun w h => atoms_spec (ws := Cond.code y_R_fits b_R_fits 5 (some .boolean) :: xW0) B0.pre w (List.mem_cons_of_mem _ h)
  have hown : s.vm.findClass R_R = some m.cls := findClass_of_methodNamed B0.named
  have hlocks := B0.notSynchronized
  subst hsz
  have hS : va_S (fun q => B ≤ q) s.heap s.heap [] := va_S.rf
  have hl := lv_entry ([.ref (ad (160 + r)), .ref (ad (100 + i)), .int (σ.2.1 0 0), .int (σ.2.1 0 1)]) (n := 5) (Nat.le_of_ble_eq_true rfl)
  rw [lg_entry_eq]
  generalize (lg_sl ([.ref (ad (160 + r)), .ref (ad (100 + i)), .int (σ.2.1 0 0), .int (σ.2.1 0 1)]) ++ List.replicate (5 - (lg_sl ([.ref (ad (160 + r)), .ref (ad (100 + i)), .int (σ.2.1 0 0), .int (σ.2.1 0 1)])).length) Slot.unset).toArray = ls at hl ⊢
  have hl : lv_has ls 5 [(0, .ref (ad (160 + r))), (1, .ref (ad (100 + i))), (2, .int (σ.2.1 0 0)), (3, .int (σ.2.1 0 1))] := hl
  have hH : s.heap = s.heap := rfl
  obtain ⟨r0, r1, r2, r3, r4, r5, r6, r7, rb, rba, rbt, rbo, rs, rss, rr⟩ := id hR
  obtain ⟨hnb, hns, hnr, hpc, hst, hto, htl, hrm, hpa, hwt, hdf, hds⟩ := id hI
  obtain ⟨k, hk, ek⟩ := hrm r hr0
  have xk : xi 4 (nI k) = some k := xi_nI hk (by decide)
  have rrk : w (160 + r) = some (.inr (3, [.int (σ.2.1 6 r), .int (nI k), .int (σ.2.1 8 r), .int (σ.2.1 9 r)])) := by rw [← ek]; exact rr r hr0
  refine lv_aload_n hx hb d_R_fits_0 rfl (lv_at hl 1 rfl) ?_
  refine lv_aload_n hx hb d_R_fits_1 rfl (lv_at hl 0 rfl) ?_
  refine xr_get (ci := 3) (v := .int (nI k)) (C := R_R) (T := T_R) (N := 4) hx hb htw in_R hown hK hw (160 + r) rrk rfl rfl 1 (by decide) (htw _ u_289) (fun _ h9 => h9) rfl d_R_fits_2 ?_
  refine xr_call (va_runV (As := [.int (nI k)]) (rest := []) ⟨hx, hb, hml, hown, htw⟩ (c_B_middleOf (ad := ad) hR hI hw i hi k (by omega)) (cwV 1 htw (gV u_309 u_251 u_252 u_4 u_253) rfl rfl rfl hd_B_middleOf ⟨Nat.le_of_ble_eq_true rfl, Nat.le_of_ble_eq_true rfl⟩) ⟨xP_blind, hw.recv hK (ci := 1) (t := 100 + i) rfl (rb i hi) rfl, xP_of hK hN⟩ rfl rfl hl.1 rfl (lv_room (Nat.le_of_ble_eq_true rfl)) d_R_fits_5 ⟨by decide, by decide⟩) hS (fun v H_ locs hp hS => ?_)
  obtain ⟨rfl, hHe⟩ := hp
  rw [hHe] at hS ⊢
  refine W.eq (g2 := F0 m 8 ls [.int (mid (σ.2.1 (20 + i)) k)]) rfl ?_
  refine lv_istore (lv' := [(4, .int (mid (σ.2.1 (20 + i)) k)), (0, .ref (ad (160 + r))), (1, .ref (ad (100 + i))), (2, .int (σ.2.1 0 0)), (3, .int (σ.2.1 0 1))]) hx hb d_R_fits_8 hl (by decide) rfl (fun ls hl => ?_)
  refine lv_iload hx hb d_R_fits_10 (lv_at hl 0 rfl) ?_
  refine lv_iconst (v := (-1)) hx hb d_R_fits_12 (by decide) ?_
  refine lv_icmp_eq (tgt := 54) hx hb d_R_fits_13 (by decide) (fun c_1 => ?_) (fun c_1 => ?_)
  · refine lv_iconst (v := 0) hx hb d_R_fits_54 (by decide) ?_
    exact W.zret (v := 0) hx hb hr (by decide) (fun t ht _ => ⟨_, rfl, ⟨bI_0 (by simp [fits_, ek, xk, opt_s, c_1]), ht⟩, hS.F ht⟩) hS.2.2 d_R_fits_55
  · refine lv_iload hx hb d_R_fits_16 (lv_at hl 0 rfl) ?_
    refine lv_aload_n hx hb d_R_fits_18 rfl (lv_at hl 1 rfl) ?_
    refine xr_get (ci := 3) (v := .int (σ.2.1 8 r)) (C := R_R) (T := T_R) (N := 4) hx hb htw in_R hown hK hw (160 + r) rrk rfl rfl 2 (by decide) (htw _ u_290) (fun _ h9 => h9) rfl d_R_fits_19 ?_
    refine lv_icmp_gt (tgt := 54) hx hb d_R_fits_22 (by decide) (fun c_2 => ?_) (fun c_2 => ?_)
    · refine lv_iconst (v := 0) hx hb d_R_fits_54 (by decide) ?_
      exact W.zret (v := 0) hx hb hr (by decide) (fun t ht _ => ⟨_, rfl, ⟨bI_0 (by simp [fits_, ek, xk, opt_s, c_1, c_2, Int32.not_le.mpr c_2]), ht⟩, hS.F ht⟩) hS.2.2 d_R_fits_55
    · refine lv_aload_n hx hb d_R_fits_25 rfl (lv_at hl 2 rfl) ?_
      refine lv_aload_n hx hb d_R_fits_26 rfl (lv_at hl 1 rfl) ?_
      refine xr_get (ci := 3) (v := .int (nI k)) (C := R_R) (T := T_R) (N := 4) hx hb htw in_R hown hK hw (160 + r) rrk rfl rfl 1 (by decide) (htw _ u_289) (fun _ h9 => h9) rfl d_R_fits_27 ?_
      refine xr_call (va_runV (As := [.int (nI k)]) (rest := []) ⟨hx, hb, hml, hown, htw⟩ (c_B_spreadOf (ad := ad) hR hI hw i hi k (by omega)) (cwV 1 htw (gV u_310 u_270 u_271 u_4 u_272) rfl rfl rfl hd_B_spreadOf ⟨Nat.le_of_ble_eq_true rfl, Nat.le_of_ble_eq_true rfl⟩) ⟨xP_blind, hw.recv hK (ci := 1) (t := 100 + i) rfl (rb i hi) rfl, xP_of hK hN⟩ rfl rfl hl.1 rfl (lv_room (Nat.le_of_ble_eq_true rfl)) d_R_fits_30 ⟨by decide, by decide⟩) hS (fun v H_ locs hp hS => ?_)
      obtain ⟨rfl, hHe⟩ := hp
      rw [hHe] at hS ⊢
      refine W.eq (g2 := F0 m 33 ls [.int (spr (σ.2.1 (20 + i)) k)]) rfl ?_
      refine lv_iload_n hx hb d_R_fits_33 rfl (lv_at hl 4 rfl) ?_
      refine lv_icmp_gt (tgt := 54) hx hb d_R_fits_34 (by decide) (fun c_3 => ?_) (fun c_3 => ?_)
      · refine lv_iconst (v := 0) hx hb d_R_fits_54 (by decide) ?_
        exact W.zret (v := 0) hx hb hr (by decide) (fun t ht _ => ⟨_, rfl, ⟨bI_0 (by simp [fits_, ek, xk, opt_s, c_1, c_2, Int32.not_lt.mp c_2, c_3, Int32.not_le.mpr c_3]), ht⟩, hS.F ht⟩) hS.2.2 d_R_fits_55
      · refine lv_aload_n hx hb d_R_fits_37 rfl (lv_at hl 1 rfl) ?_
        refine xr_get (ci := 3) (v := .int (σ.2.1 9 r)) (C := R_R) (T := T_R) (N := 4) hx hb htw in_R hown hK hw (160 + r) rrk rfl rfl 3 (by decide) (htw _ u_291) (fun _ h9 => h9) rfl d_R_fits_38 ?_
        refine lv_iload_n hx hb d_R_fits_41 rfl (lv_at hl 3 rfl) ?_
        refine lv_aload_n hx hb d_R_fits_42 rfl (lv_at hl 2 rfl) ?_
        refine xr_get (ci := 1) (v := .int (σ.2.1 1 i)) (C := R_B) (T := T_B) (N := 9) hx hb htw in_B hown hK hw (100 + i) (rb i hi) rfl rfl 0 (by decide) (htw _ u_89) (fun _ h9 => h9) rfl d_R_fits_43 ?_
        refine lv_isub hx hb d_R_fits_46 ?_
        refine lv_icmp_gt (tgt := 54) hx hb d_R_fits_47 (by decide) (fun c_4 => ?_) (fun c_4 => ?_)
        · refine lv_iconst (v := 0) hx hb d_R_fits_54 (by decide) ?_
          exact W.zret (v := 0) hx hb hr (by decide) (fun t ht _ => ⟨_, rfl, ⟨bI_0 (by simp [fits_, ek, xk, opt_s, c_1, c_2, Int32.not_lt.mp c_2, c_3, Int32.not_lt.mp c_3, c_4, Int32.not_le.mpr c_4]), ht⟩, hS.F ht⟩) hS.2.2 d_R_fits_55
        · refine lv_iconst (v := 1) hx hb d_R_fits_50 (by decide) ?_
          refine lv_goto (tgt := 55) hx hb d_R_fits_51 (by decide) ?_
          exact W.zret (v := 1) hx hb hr (by decide) (fun t ht _ => ⟨_, rfl, ⟨bI_1 (by simp [fits_, ek, xk, opt_s, c_1, c_2, Int32.not_lt.mp c_2, c_3, Int32.not_lt.mp c_3, c_4, Int32.not_lt.mp c_4]), ht⟩, hS.F ht⟩) hS.2.2 d_R_fits_55
end
section
set_option maxHeartbeats 4000000 in
set_option maxRecDepth 100000 in
theorem c_A_settled {l : Launch} {D : va_G} {K : Nat → ClassId} {B : Nat} {ad : Nat → Nat} {w : Nat → Option va_E} {H : Heap} {σ : xS} (hR : RepX K σ ad w) (hI : Inv σ) (hw : xw D vwCl B ad w H) (x1 x2 : Int32) : xC l D K B y_A_settled b_A_settled 4 (some .int) rm_A_settled [.ref (ad 0), .int x1, .int x2] H (fun v H1 => v = some (.int (f_settled σ x1 x2)) ∧ H1 = H) := by
  refine Met.ofW (cc := b_A_settled) (maxL := 4) (ret := (some .int)) (by decide) rfl ?_
  intro p e s m args below meth c s₁ B0 hml hv
  obtain ⟨rfl, hsz, hK, hN⟩ := hv
  have hx := B0.exec
  have hb := B0.bytes
  have hr := B0.returns
  have htw : ∀ w ∈ xW0, w.before [.ref (ad 0), .int x1, .int x2].toArray s = true := fun w h => atoms_spec (ws := Cond.code y_A_settled b_A_settled 4 (some .int) :: xW0) B0.pre w (List.mem_cons_of_mem _ h)
  have hown : s.vm.findClass R_A = some m.cls := findClass_of_methodNamed B0.named
  have hlocks := B0.notSynchronized
  subst hsz
  have hS : va_S (fun q => B ≤ q) s.heap s.heap [] := va_S.rf
  have hl := lv_entry ([.ref (ad 0), .int x1, .int x2]) (n := 4) (Nat.le_of_ble_eq_true rfl)
  rw [lg_entry_eq]
  generalize (lg_sl ([.ref (ad 0), .int x1, .int x2]) ++ List.replicate (4 - (lg_sl ([.ref (ad 0), .int x1, .int x2])).length) Slot.unset).toArray = ls at hl ⊢
  have hl : lv_has ls 4 [(0, .ref (ad 0)), (1, .int x1), (2, .int x2)] := hl
  have hH : s.heap = s.heap := rfl
  obtain ⟨r0, r1, r2, r3, r4, r5, r6, r7, rb, rba, rbt, rbo, rs, rss, rr⟩ := id hR
  obtain ⟨hnb, hns, hnr, hpc, hst, hto, htl, hrm, hpa, hwt, hdf, hds⟩ := id hI
  refine lv_aload_n hx hb d_A_settled_0 rfl (lv_at hl 0 rfl) ?_
  refine lv_iload_n hx hb d_A_settled_1 rfl (lv_at hl 1 rfl) ?_
  refine xr_call (va_runV (As := [.int x1]) (rest := []) ⟨hx, hb, hml, hown, htw⟩ (c_A_batchAt (ad := ad) hR hnb hns hw x1) (cwV 1 htw (gV u_131 u_133 us_1 u_1 u_134) rfl rfl rfl hd_A_batchAt ⟨Nat.le_of_ble_eq_true rfl, Nat.le_of_ble_eq_true rfl⟩) ⟨xP_blind, hw.recv hK (ci := 0) (t := 0) rfl r0 rfl, xP_of hK hN⟩ rfl rfl hl.1 rfl (lv_room (Nat.le_of_ble_eq_true rfl)) d_A_settled_2 ⟨by decide, by decide⟩) hS (fun v H_ locs hp hS => ?_)
  obtain ⟨hHe, hp⟩ := hp
  rw [hHe] at hS ⊢
  rcases hp with ⟨f2, rfl⟩ | ⟨i1, hi1, rfl, rfl⟩
  · refine W.eq (g2 := F0 m 5 ls [.null]) rfl ?_
    refine lv_astore_nN (lv' := [(3, .null), (0, .ref (ad 0)), (1, .int x1), (2, .int x2)]) hx hb d_A_settled_5 rfl hl (by decide) rfl (fun ls hl => ?_)
    refine lv_aload_nN hx hb d_A_settled_6 rfl (lv_at hl 0 rfl) ?_
    refine lv_ifnullN (tgt := 17) hx hb d_A_settled_7 (by decide) ?_
    refine lv_iconst (v := (-1)) hx hb d_A_settled_17 (by decide) ?_
    exact W.iret (v := (-1)) hx hb hr (fun t ht _ => ⟨_, rfl, ⟨by simp [f_settled, opt_n, opt_s, f2], ht⟩, hS.F ht⟩) hS.2.2 d_A_settled_18
  · have fi1 : xi (σ.1 0) (nI i1) = some i1 := xi_nI hi1 (by omega)
    refine W.eq (g2 := F0 m 5 ls [.ref (ad (100 + i1))]) rfl ?_
    refine lv_astore_n (lv' := [(3, .ref (ad (100 + i1))), (0, .ref (ad 0)), (1, .int (nI i1)), (2, .int x2)]) hx hb d_A_settled_5 rfl hl (by decide) rfl (fun ls hl => ?_)
    refine lv_aload_n hx hb d_A_settled_6 rfl (lv_at hl 0 rfl) ?_
    refine lv_ifnull hx hb d_A_settled_7 ?_
    refine lv_iload_n hx hb d_A_settled_10 rfl (lv_at hl 3 rfl) ?_
    refine xr_call (va_runS (As := [.int x2]) (rest := []) ⟨hx, hb, hml, hown, htw⟩ (c_A_isMetal x2) (va_cwS 1 htw (gS u_135 u_136 u_1 u_137) rfl rfl rfl hd_A_isMetal.2 ⟨Nat.le_of_ble_eq_true rfl, Nat.le_of_ble_eq_true rfl⟩) ⟨xP_blind, xP_of hK hN⟩ rfl rfl hl.1 rfl (lv_room (Nat.le_of_ble_eq_true rfl)) d_A_settled_11 ⟨by decide, by decide⟩) hS (fun v H_ locs hp hS => ?_)
    obtain ⟨rfl, hHe⟩ := hp
    rw [hHe] at hS ⊢
    refine W.eq (g2 := F0 m 14 ls [.int (bI (xm x2))]) rfl ?_
    refine lv_if_ne (tgt := 19) hx hb d_A_settled_14 (by decide) (fun c_3 => ?_) (fun c_3 => ?_)
    · have c_3 : (xm x2) = true := bI_t.mp c_3
      obtain ⟨k4, hk4, rfl⟩ := xm_of c_3
      have xk4 : xi 4 (nI k4) = some k4 := xi_nI hk4 (by decide)
      refine lv_aload_n hx hb d_A_settled_19 rfl (lv_at hl 0 rfl) ?_
      refine lv_iload_n hx hb d_A_settled_20 rfl (lv_at hl 3 rfl) ?_
      refine xr_call (va_runV (As := [.int (nI k4)]) (rest := []) ⟨hx, hb, hml, hown, htw⟩ (c_B_middleOf (ad := ad) hR hI hw i1 hi1 k4 (by omega)) (cwV 1 htw (gV u_250 u_251 u_252 u_4 u_253) rfl rfl rfl hd_B_middleOf ⟨Nat.le_of_ble_eq_true rfl, Nat.le_of_ble_eq_true rfl⟩) ⟨xP_blind, hw.recv hK (ci := 1) (t := 100 + i1) rfl (rb i1 hi1) rfl, xP_of hK hN⟩ rfl rfl hl.1 rfl (lv_room (Nat.le_of_ble_eq_true rfl)) d_A_settled_21 ⟨by decide, by decide⟩) hS (fun v H_ locs hp hS => ?_)
      obtain ⟨rfl, hHe⟩ := hp
      rw [hHe] at hS ⊢
      refine W.eq (g2 := F0 m 24 ls [.int (mid (σ.2.1 (20 + i1)) k4)]) rfl ?_
      exact W.iret (v := mid (σ.2.1 (20 + i1)) k4) hx hb hr (fun t ht _ => ⟨_, rfl, ⟨by simp [f_settled, opt_n, opt_s, fi1, xk4, c_3], ht⟩, hS.F ht⟩) hS.2.2 d_A_settled_24
    · have c_3 : (xm x2) = false := bI_f.mp c_3
      have f5 : xi 4 x2 = none := xm_xi c_3
      refine lv_iconst (v := (-1)) hx hb d_A_settled_17 (by decide) ?_
      exact W.iret (v := (-1)) hx hb hr (fun t ht _ => ⟨_, rfl, ⟨by simp [f_settled, opt_n, opt_s, fi1, f5, c_3], ht⟩, hS.F ht⟩) hS.2.2 d_A_settled_18
set_option maxHeartbeats 4000000 in
set_option maxRecDepth 100000 in
theorem c_A_disputed {l : Launch} {D : va_G} {K : Nat → ClassId} {B : Nat} {ad : Nat → Nat} {w : Nat → Option va_E} {H : Heap} {σ : xS} (hR : RepX K σ ad w) (hI : Inv σ) (hw : xw D vwCl B ad w H) (x1 x2 : Int32) : xC l D K B y_A_disputed b_A_disputed 4 (some .boolean) rm_A_disputed [.ref (ad 0), .int x1, .int x2] H (fun v H1 => v = some (.int (bI (f_disputed σ x1 x2))) ∧ H1 = H) := by
  refine Met.ofW (cc := b_A_disputed) (maxL := 4) (ret := (some .boolean)) (by decide) rfl ?_
  intro p e s m args below meth c s₁ B0 hml hv
  obtain ⟨rfl, hsz, hK, hN⟩ := hv
  have hx := B0.exec
  have hb := B0.bytes
  have hr := B0.returns
  have htw : ∀ w ∈ xW0, w.before [.ref (ad 0), .int x1, .int x2].toArray s = true := fun w h => atoms_spec (ws := Cond.code y_A_disputed b_A_disputed 4 (some .boolean) :: xW0) B0.pre w (List.mem_cons_of_mem _ h)
  have hown : s.vm.findClass R_A = some m.cls := findClass_of_methodNamed B0.named
  have hlocks := B0.notSynchronized
  subst hsz
  have hS : va_S (fun q => B ≤ q) s.heap s.heap [] := va_S.rf
  have hl := lv_entry ([.ref (ad 0), .int x1, .int x2]) (n := 4) (Nat.le_of_ble_eq_true rfl)
  rw [lg_entry_eq]
  generalize (lg_sl ([.ref (ad 0), .int x1, .int x2]) ++ List.replicate (4 - (lg_sl ([.ref (ad 0), .int x1, .int x2])).length) Slot.unset).toArray = ls at hl ⊢
  have hl : lv_has ls 4 [(0, .ref (ad 0)), (1, .int x1), (2, .int x2)] := hl
  have hH : s.heap = s.heap := rfl
  obtain ⟨r0, r1, r2, r3, r4, r5, r6, r7, rb, rba, rbt, rbo, rs, rss, rr⟩ := id hR
  obtain ⟨hnb, hns, hnr, hpc, hst, hto, htl, hrm, hpa, hwt, hdf, hds⟩ := id hI
  refine lv_aload_n hx hb d_A_disputed_0 rfl (lv_at hl 0 rfl) ?_
  refine lv_iload_n hx hb d_A_disputed_1 rfl (lv_at hl 1 rfl) ?_
  refine xr_call (va_runV (As := [.int x1]) (rest := []) ⟨hx, hb, hml, hown, htw⟩ (c_A_batchAt (ad := ad) hR hnb hns hw x1) (cwV 1 htw (gV u_131 u_133 us_1 u_1 u_134) rfl rfl rfl hd_A_batchAt ⟨Nat.le_of_ble_eq_true rfl, Nat.le_of_ble_eq_true rfl⟩) ⟨xP_blind, hw.recv hK (ci := 0) (t := 0) rfl r0 rfl, xP_of hK hN⟩ rfl rfl hl.1 rfl (lv_room (Nat.le_of_ble_eq_true rfl)) d_A_disputed_2 ⟨by decide, by decide⟩) hS (fun v H_ locs hp hS => ?_)
  obtain ⟨hHe, hp⟩ := hp
  rw [hHe] at hS ⊢
  rcases hp with ⟨f2, rfl⟩ | ⟨i1, hi1, rfl, rfl⟩
  · refine W.eq (g2 := F0 m 5 ls [.null]) rfl ?_
    refine lv_astore_nN (lv' := [(3, .null), (0, .ref (ad 0)), (1, .int x1), (2, .int x2)]) hx hb d_A_disputed_5 rfl hl (by decide) rfl (fun ls hl => ?_)
    refine lv_aload_nN hx hb d_A_disputed_6 rfl (lv_at hl 0 rfl) ?_
    refine lv_ifnullN (tgt := 33) hx hb d_A_disputed_7 (by decide) ?_
    refine lv_iconst (v := 0) hx hb d_A_disputed_33 (by decide) ?_
    exact W.zret (v := 0) hx hb hr (by decide) (fun t ht _ => ⟨_, rfl, ⟨bI_0 (by simp [f_disputed, opt_n, opt_s, f2]), ht⟩, hS.F ht⟩) hS.2.2 d_A_disputed_34
  · have fi1 : xi (σ.1 0) (nI i1) = some i1 := xi_nI hi1 (by omega)
    refine W.eq (g2 := F0 m 5 ls [.ref (ad (100 + i1))]) rfl ?_
    refine lv_astore_n (lv' := [(3, .ref (ad (100 + i1))), (0, .ref (ad 0)), (1, .int (nI i1)), (2, .int x2)]) hx hb d_A_disputed_5 rfl hl (by decide) rfl (fun ls hl => ?_)
    refine lv_aload_n hx hb d_A_disputed_6 rfl (lv_at hl 0 rfl) ?_
    refine lv_ifnull hx hb d_A_disputed_7 ?_
    refine lv_iload_n hx hb d_A_disputed_10 rfl (lv_at hl 3 rfl) ?_
    refine xr_call (va_runS (As := [.int x2]) (rest := []) ⟨hx, hb, hml, hown, htw⟩ (c_A_isMetal x2) (va_cwS 1 htw (gS u_135 u_136 u_1 u_137) rfl rfl rfl hd_A_isMetal.2 ⟨Nat.le_of_ble_eq_true rfl, Nat.le_of_ble_eq_true rfl⟩) ⟨xP_blind, xP_of hK hN⟩ rfl rfl hl.1 rfl (lv_room (Nat.le_of_ble_eq_true rfl)) d_A_disputed_11 ⟨by decide, by decide⟩) hS (fun v H_ locs hp hS => ?_)
    obtain ⟨rfl, hHe⟩ := hp
    rw [hHe] at hS ⊢
    refine W.eq (g2 := F0 m 14 ls [.int (bI (xm x2))]) rfl ?_
    refine lv_if_eq (tgt := 33) hx hb d_A_disputed_14 (by decide) (fun c_3 => ?_) (fun c_3 => ?_)
    · have c_3 : (xm x2) = false := bI_f.mp c_3
      have f4 : xi 4 x2 = none := xm_xi c_3
      refine lv_iconst (v := 0) hx hb d_A_disputed_33 (by decide) ?_
      exact W.zret (v := 0) hx hb hr (by decide) (fun t ht _ => ⟨_, rfl, ⟨bI_0 (by simp [f_disputed, opt_n, opt_s, fi1, f4, c_3]), ht⟩, hS.F ht⟩) hS.2.2 d_A_disputed_34
    · have c_3 : (xm x2) = true := bI_t.mp c_3
      obtain ⟨k5, hk5, rfl⟩ := xm_of c_3
      have xk5 : xi 4 (nI k5) = some k5 := xi_nI hk5 (by decide)
      refine lv_aload_n hx hb d_A_disputed_17 rfl (lv_at hl 0 rfl) ?_
      refine lv_iload_n hx hb d_A_disputed_18 rfl (lv_at hl 3 rfl) ?_
      refine xr_call (va_runV (As := [.int (nI k5)]) (rest := []) ⟨hx, hb, hml, hown, htw⟩ (c_B_spreadOf (ad := ad) hR hI hw i1 hi1 k5 (by omega)) (cwV 1 htw (gV u_269 u_270 u_271 u_4 u_272) rfl rfl rfl hd_B_spreadOf ⟨Nat.le_of_ble_eq_true rfl, Nat.le_of_ble_eq_true rfl⟩) ⟨xP_blind, hw.recv hK (ci := 1) (t := 100 + i1) rfl (rb i1 hi1) rfl, xP_of hK hN⟩ rfl rfl hl.1 rfl (lv_room (Nat.le_of_ble_eq_true rfl)) d_A_disputed_19 ⟨by decide, by decide⟩) hS (fun v H_ locs hp hS => ?_)
      obtain ⟨rfl, hHe⟩ := hp
      rw [hHe] at hS ⊢
      refine W.eq (g2 := F0 m 22 ls [.int (spr (σ.2.1 (20 + i1)) k5)]) rfl ?_
      refine lv_aload_n hx hb d_A_disputed_22 rfl (lv_at hl 1 rfl) ?_
      refine xr_get (ci := 0) (v := .int (σ.2.1 0 1)) (C := R_A) (T := T_A) (N := 10) hx hb htw in_A hown hK hw 0 r0 rfl rfl 8 (by decide) (htw _ u_49) (fun _ h9 => h9) rfl d_A_disputed_23 ?_
      refine lv_icmp_le (tgt := 33) hx hb d_A_disputed_26 (by decide) (fun c_6 => ?_) (fun c_6 => ?_)
      · refine lv_iconst (v := 0) hx hb d_A_disputed_33 (by decide) ?_
        exact W.zret (v := 0) hx hb hr (by decide) (fun t ht _ => ⟨_, rfl, ⟨bI_0 (by simp [f_disputed, opt_n, opt_s, fi1, xk5, c_3, c_6]), ht⟩, hS.F ht⟩) hS.2.2 d_A_disputed_34
      · refine lv_iconst (v := 1) hx hb d_A_disputed_29 (by decide) ?_
        refine lv_goto (tgt := 34) hx hb d_A_disputed_30 (by decide) ?_
        exact W.zret (v := 1) hx hb hr (by decide) (fun t ht _ => ⟨_, rfl, ⟨bI_1 (by simp [f_disputed, opt_n, opt_s, fi1, xk5, c_3, c_6]), ht⟩, hS.F ht⟩) hS.2.2 d_A_disputed_34
set_option maxHeartbeats 4000000 in
set_option maxRecDepth 100000 in
theorem c_A_worth {l : Launch} {D : va_G} {K : Nat → ClassId} {B : Nat} {ad : Nat → Nat} {w : Nat → Option va_E} {H : Heap} {σ : xS} (hR : RepX K σ ad w) (hI : Inv σ) (hw : xw D vwCl B ad w H) (x1 x2 : Int32) : xC l D K B y_A_worth b_A_worth 4 (some .long) rm_A_worth [.ref (ad 0), .int x1, .int x2] H (fun v H1 => v = some (.long (f_worth σ x1 x2)) ∧ H1 = H) := by
  refine Met.ofW (cc := b_A_worth) (maxL := 4) (ret := (some .long)) (by decide) rfl ?_
  intro p e s m args below meth c s₁ B0 hml hv
  obtain ⟨rfl, hsz, hK, hN⟩ := hv
  have hx := B0.exec
  have hb := B0.bytes
  have hr := B0.returns
  have htw : ∀ w ∈ xW0, w.before [.ref (ad 0), .int x1, .int x2].toArray s = true := fun w h => atoms_spec (ws := Cond.code y_A_worth b_A_worth 4 (some .long) :: xW0) B0.pre w (List.mem_cons_of_mem _ h)
  have hown : s.vm.findClass R_A = some m.cls := findClass_of_methodNamed B0.named
  have hlocks := B0.notSynchronized
  subst hsz
  have hS : va_S (fun q => B ≤ q) s.heap s.heap [] := va_S.rf
  have hl := lv_entry ([.ref (ad 0), .int x1, .int x2]) (n := 4) (Nat.le_of_ble_eq_true rfl)
  rw [lg_entry_eq]
  generalize (lg_sl ([.ref (ad 0), .int x1, .int x2]) ++ List.replicate (4 - (lg_sl ([.ref (ad 0), .int x1, .int x2])).length) Slot.unset).toArray = ls at hl ⊢
  have hl : lv_has ls 4 [(0, .ref (ad 0)), (1, .int x1), (2, .int x2)] := hl
  have hH : s.heap = s.heap := rfl
  obtain ⟨r0, r1, r2, r3, r4, r5, r6, r7, rb, rba, rbt, rbo, rs, rss, rr⟩ := id hR
  obtain ⟨hnb, hns, hnr, hpc, hst, hto, htl, hrm, hpa, hwt, hdf, hds⟩ := id hI
  refine lv_aload_n hx hb d_A_worth_0 rfl (lv_at hl 0 rfl) ?_
  refine lv_iload_n hx hb d_A_worth_1 rfl (lv_at hl 1 rfl) ?_
  refine xr_call (va_runV (As := [.int x1]) (rest := []) ⟨hx, hb, hml, hown, htw⟩ (c_A_batchAt (ad := ad) hR hnb hns hw x1) (cwV 1 htw (gV u_131 u_133 us_1 u_1 u_134) rfl rfl rfl hd_A_batchAt ⟨Nat.le_of_ble_eq_true rfl, Nat.le_of_ble_eq_true rfl⟩) ⟨xP_blind, hw.recv hK (ci := 0) (t := 0) rfl r0 rfl, xP_of hK hN⟩ rfl rfl hl.1 rfl (lv_room (Nat.le_of_ble_eq_true rfl)) d_A_worth_2 ⟨by decide, by decide⟩) hS (fun v H_ locs hp hS => ?_)
  obtain ⟨hHe, hp⟩ := hp
  rw [hHe] at hS ⊢
  rcases hp with ⟨f2, rfl⟩ | ⟨i1, hi1, rfl, rfl⟩
  · refine W.eq (g2 := F0 m 5 ls [.null]) rfl ?_
    refine lv_astore_nN (lv' := [(3, .null), (0, .ref (ad 0)), (1, .int x1), (2, .int x2)]) hx hb d_A_worth_5 rfl hl (by decide) rfl (fun ls hl => ?_)
    refine lv_aload_nN hx hb d_A_worth_6 rfl (lv_at hl 0 rfl) ?_
    refine lv_ifnullN (tgt := 14) hx hb d_A_worth_7 (by decide) ?_
    refine lv_ldc2 (v := (-1)) hx hb hown (htw _ u_191) d_A_worth_14 ?_
    exact W.lret (v := (-1)) hx hb hr (fun t ht _ => ⟨_, rfl, ⟨by simp [f_worth, opt_n, opt_s, f2], ht⟩, hS.F ht⟩) hS.2.2 d_A_worth_17
  · have fi1 : xi (σ.1 0) (nI i1) = some i1 := xi_nI hi1 (by omega)
    refine W.eq (g2 := F0 m 5 ls [.ref (ad (100 + i1))]) rfl ?_
    refine lv_astore_n (lv' := [(3, .ref (ad (100 + i1))), (0, .ref (ad 0)), (1, .int (nI i1)), (2, .int x2)]) hx hb d_A_worth_5 rfl hl (by decide) rfl (fun ls hl => ?_)
    refine lv_aload_n hx hb d_A_worth_6 rfl (lv_at hl 0 rfl) ?_
    refine lv_ifnull hx hb d_A_worth_7 ?_
    refine lv_iload_n hx hb d_A_worth_10 rfl (lv_at hl 3 rfl) ?_
    refine lv_if_ge (tgt := 18) hx hb d_A_worth_11 (by decide) (fun c_3 => ?_) (fun c_3 => ?_)
    · refine lv_aload_n hx hb d_A_worth_18 rfl (lv_at hl 1 rfl) ?_
      refine xr_get (ci := 0) (v := .ref (ad 4)) (C := R_A) (T := T_A) (N := 10) hx hb htw in_A hown hK hw 0 r0 rfl rfl 6 (by decide) (htw _ u_47) (fun _ h9 => h9) rfl d_A_worth_19 ?_
      refine lv_aload_n hx hb d_A_worth_22 rfl (lv_at hl 0 rfl) ?_
      refine xr_get (ci := 1) (v := .ref (ad (110 + i1))) (C := R_B) (T := T_B) (N := 9) hx hb htw in_B hown hK hw (100 + i1) (rb i1 hi1) rfl rfl 2 (by decide) (htw _ u_94) (fun _ h9 => h9) rfl d_A_worth_23 ?_
      refine lv_iload_n hx hb d_A_worth_26 rfl (lv_at hl 3 rfl) ?_
      refine xr_call (va_runV (As := [.ref (ad (110 + i1)), .int x2]) (rest := []) ⟨hx, hb, hml, hown, htw⟩ (c_P_centsFor (ad := ad) hR hI hw (110 + i1) (σ.2.2.1 (10 + i1)) (rba i1 hi1) x2) (cwV 2 htw (gV u_221 u_222 u_223 u_2 u_224) rfl rfl rfl hd_P_centsFor ⟨Nat.le_of_ble_eq_true rfl, Nat.le_of_ble_eq_true rfl⟩) ⟨xP_blind, hw.recv hK (ci := 4) (t := 4) rfl r4 rfl, xP_of hK hN⟩ rfl rfl hl.1 rfl (lv_room (Nat.le_of_ble_eq_true rfl)) d_A_worth_27 ⟨by decide, by decide⟩) hS (fun v H_ locs hp hS => ?_)
      obtain ⟨rfl, hHe⟩ := hp
      rw [hHe] at hS ⊢
      refine W.eq (g2 := F0 m 30 ls [.long (wor σ (σ.2.2.1 (10 + i1)) x2)]) rfl ?_
      exact W.lret (v := wor σ (σ.2.2.1 (10 + i1)) x2) hx hb hr (fun t ht _ => ⟨_, rfl, ⟨by simp [f_worth, opt_n, opt_s, fi1, c_3], ht⟩, hS.F ht⟩) hS.2.2 d_A_worth_30
    · refine lv_ldc2 (v := (-1)) hx hb hown (htw _ u_191) d_A_worth_14 ?_
      exact W.lret (v := (-1)) hx hb hr (fun t ht _ => ⟨_, rfl, ⟨by simp [f_worth, opt_n, opt_s, fi1, c_3], ht⟩, hS.F ht⟩) hS.2.2 d_A_worth_17
set_option maxHeartbeats 4000000 in
set_option maxRecDepth 100000 in
theorem c_A_cls {l : Launch} {D : va_G} {K : Nat → ClassId} {B : Nat} {ad : Nat → Nat} {w : Nat → Option va_E} {H : Heap} {σ : xS} (hR : RepX K σ ad w) (hI : Inv σ) (hw : xw D vwCl B ad w H) (x1 : Int32) : xC l D K B y_A_cls b_A_cls 5 (some .int) rm_A_cls [.ref (ad 0), .int x1] H (fun v H1 => v = some (.int (f_cls σ x1)) ∧ H1 = H) := by
  refine Met.ofW (cc := b_A_cls) (maxL := 5) (ret := (some .int)) (by decide) rfl ?_
  intro p e s m args below meth c s₁ B0 hml hv
  obtain ⟨rfl, hsz, hK, hN⟩ := hv
  have hx := B0.exec
  have hb := B0.bytes
  have hr := B0.returns
  have htw : ∀ w ∈ xW0, w.before [.ref (ad 0), .int x1].toArray s = true := fun w h => atoms_spec (ws := Cond.code y_A_cls b_A_cls 5 (some .int) :: xW0) B0.pre w (List.mem_cons_of_mem _ h)
  have hown : s.vm.findClass R_A = some m.cls := findClass_of_methodNamed B0.named
  have hlocks := B0.notSynchronized
  subst hsz
  have hS : va_S (fun q => B ≤ q) s.heap s.heap [] := va_S.rf
  have hl := lv_entry ([.ref (ad 0), .int x1]) (n := 5) (Nat.le_of_ble_eq_true rfl)
  rw [lg_entry_eq]
  generalize (lg_sl ([.ref (ad 0), .int x1]) ++ List.replicate (5 - (lg_sl ([.ref (ad 0), .int x1])).length) Slot.unset).toArray = ls at hl ⊢
  have hl : lv_has ls 5 [(0, .ref (ad 0)), (1, .int x1)] := hl
  have hH : s.heap = s.heap := rfl
  obtain ⟨r0, r1, r2, r3, r4, r5, r6, r7, rb, rba, rbt, rbo, rs, rss, rr⟩ := id hR
  obtain ⟨hnb, hns, hnr, hpc, hst, hto, htl, hrm, hpa, hwt, hdf, hds⟩ := id hI
  refine lv_aload_n hx hb d_A_cls_0 rfl (lv_at hl 0 rfl) ?_
  refine lv_iload_n hx hb d_A_cls_1 rfl (lv_at hl 1 rfl) ?_
  refine xr_call (va_runV (As := [.int x1]) (rest := []) ⟨hx, hb, hml, hown, htw⟩ (c_A_batchAt (ad := ad) hR hnb hns hw x1) (cwV 1 htw (gV u_131 u_133 us_1 u_1 u_134) rfl rfl rfl hd_A_batchAt ⟨Nat.le_of_ble_eq_true rfl, Nat.le_of_ble_eq_true rfl⟩) ⟨xP_blind, hw.recv hK (ci := 0) (t := 0) rfl r0 rfl, xP_of hK hN⟩ rfl rfl hl.1 rfl (lv_room (Nat.le_of_ble_eq_true rfl)) d_A_cls_2 ⟨by decide, by decide⟩) hS (fun v H_ locs hp hS => ?_)
  obtain ⟨hHe, hp⟩ := hp
  rw [hHe] at hS ⊢
  rcases hp with ⟨f2, rfl⟩ | ⟨i1, hi1, rfl, rfl⟩
  · refine W.eq (g2 := F0 m 5 ls [.null]) rfl ?_
    refine lv_astore_nN (lv' := [(2, .null), (0, .ref (ad 0)), (1, .int x1)]) hx hb d_A_cls_5 rfl hl (by decide) rfl (fun ls hl => ?_)
    refine lv_aload_nN hx hb d_A_cls_6 rfl (lv_at hl 0 rfl) ?_
    refine lv_ifnullN (tgt := 17) hx hb d_A_cls_7 (by decide) ?_
    refine lv_iconst (v := (-1)) hx hb d_A_cls_17 (by decide) ?_
    exact W.iret (v := (-1)) hx hb hr (fun t ht _ => ⟨_, rfl, ⟨by simp [f_cls, opt_n, opt_s, f2], ht⟩, hS.F ht⟩) hS.2.2 d_A_cls_18
  · have fi1 : xi (σ.1 0) (nI i1) = some i1 := xi_nI hi1 (by omega)
    refine W.eq (g2 := F0 m 5 ls [.ref (ad (100 + i1))]) rfl ?_
    refine lv_astore_n (lv' := [(2, .ref (ad (100 + i1))), (0, .ref (ad 0)), (1, .int (nI i1))]) hx hb d_A_cls_5 rfl hl (by decide) rfl (fun ls hl => ?_)
    refine lv_aload_n hx hb d_A_cls_6 rfl (lv_at hl 0 rfl) ?_
    refine lv_ifnull hx hb d_A_cls_7 ?_
    refine lv_aload_n hx hb d_A_cls_10 rfl (lv_at hl 0 rfl) ?_
    refine xr_get (ci := 1) (v := .int (bI (σ.2.2.2 2 i1))) (C := R_B) (T := T_B) (N := 9) hx hb htw in_B hown hK hw (100 + i1) (rb i1 hi1) rfl rfl 7 (by decide) (htw _ u_102) (fun _ h9 => h9) rfl d_A_cls_11 ?_
    refine lv_if_eq (tgt := 19) hx hb d_A_cls_14 (by decide) (fun c_3 => ?_) (fun c_3 => ?_)
    · have c_3 : (σ.2.2.2 2 i1) = false := bI_f.mp c_3
      refine lv_iconst (v := 0) hx hb d_A_cls_19 (by decide) ?_
      refine lv_istore_n (lv' := [(3, .int 0), (2, .ref (ad (100 + i1))), (0, .ref (ad 0)), (1, .int (nI i1))]) hx hb d_A_cls_20 rfl hl (by decide) rfl (fun ls hl => ?_)
      refine xloop (σ.1 2) (fun n H locs ls => H = s.heap ∧ va_S (fun q => B ≤ q) s.heap H locs ∧ (fst_ (fun r => fits_ σ r i1) (σ.1 2) 0 = fst_ (fun r => fits_ σ r i1) (σ.1 2 - n) n) ∧ lv_has ls 5 [(3, .int (nI n)), (2, .ref (ad (100 + i1))), (0, .ref (ad 0)), (1, .int (nI i1))]) 0 (Nat.zero_le _) ⟨rfl, hS, rfl, lv_sub hl [0, 1, 2, 3] rfl⟩ (fun n H locs ls hn hJ ih => ?_)
      obtain ⟨rfl, hS, hex, hl⟩ := hJ
      refine lv_iload_n hx hb d_A_cls_21 rfl (lv_at hl 0 rfl) ?_
      refine lv_aload_n hx hb d_A_cls_22 rfl (lv_at hl 2 rfl) ?_
      refine xr_get (ci := 0) (v := .int (nI (σ.1 2))) (C := R_A) (T := T_A) (N := 10) hx hb htw in_A hown hK hw 0 r0 rfl rfl 5 (by decide) (htw _ u_46) (fun _ h9 => h9) rfl d_A_cls_23 ?_
      refine lv_icmp_ge (tgt := 71) hx hb d_A_cls_26 (by decide) (fun c_4 => ?_) (fun c_4 => ?_)
      · have c_4 : (σ.1 2) ≤ n := (nLE (a := σ.1 2) (b := n) (by omega) (by omega)).mp c_4
        refine lv_bipush (v := 99) hx hb d_A_cls_71 (by decide) ?_
        exact W.iret (v := 99) hx hb hr (fun t ht _ => ⟨_, rfl, ⟨by simp [f_cls, opt_n, opt_s, fi1, c_3, hex, show σ.1 2 - n = 0 by omega, fst_], ht⟩, hS.F ht⟩) hS.2.2 d_A_cls_73
      · have c_4 : ¬ (σ.1 2) ≤ n := fun z => c_4 ((nLE (a := σ.1 2) (b := n) (by omega) (by omega)).mpr z)
        refine lv_aload_n hx hb d_A_cls_29 rfl (lv_at hl 2 rfl) ?_
        refine xr_get (ci := 0) (v := .ref (ad 3)) (C := R_A) (T := T_A) (N := 10) hx hb htw in_A hown hK hw 0 r0 rfl rfl 4 (by decide) (htw _ u_45) (fun _ h9 => h9) rfl d_A_cls_30 ?_
        refine lv_iload_n hx hb d_A_cls_33 rfl (lv_at hl 0 rfl) ?_
        refine xr_aldq (i := nI n) hx hb hK hw 3 4 r3 rfl rfl (xvin (a := n) rfl (by omega) (by omega)) d_A_cls_34 ?_
        refine W.eq (g2 := F0 m 35 ls (.ref (ad (160 + n)) :: [])) (congrArg (fun z => F0 m 35 ls (va_rf z :: [])) (show (if (nI n).toNatClampNeg < σ.1 2 then some (ad (160 + (nI n).toNatClampNeg)) else none) = some (ad (160 + n)) by rw [xcl (a := n) rfl (by omega)]; exact if_pos (by omega))) ?_
        refine lv_astore (lv' := [(4, .ref (ad (160 + n))), (3, .int (nI n)), (2, .ref (ad (100 + i1))), (0, .ref (ad 0)), (1, .int (nI i1))]) hx hb d_A_cls_35 hl (by decide) rfl (fun ls hl => ?_)
        refine lv_aload hx hb d_A_cls_37 (lv_at hl 0 rfl) ?_
        refine lv_ifnull hx hb d_A_cls_39 ?_
        refine lv_aload hx hb d_A_cls_42 (lv_at hl 0 rfl) ?_
        refine lv_aload_n hx hb d_A_cls_44 rfl (lv_at hl 2 rfl) ?_
        refine lv_aload_n hx hb d_A_cls_45 rfl (lv_at hl 3 rfl) ?_
        refine xr_get (ci := 0) (v := .int (σ.2.1 0 0)) (C := R_A) (T := T_A) (N := 10) hx hb htw in_A hown hK hw 0 r0 rfl rfl 7 (by decide) (htw _ u_48) (fun _ h9 => h9) rfl d_A_cls_46 ?_
        refine lv_aload_n hx hb d_A_cls_49 rfl (lv_at hl 3 rfl) ?_
        refine xr_get (ci := 0) (v := .int (σ.2.1 0 1)) (C := R_A) (T := T_A) (N := 10) hx hb htw in_A hown hK hw 0 r0 rfl rfl 8 (by decide) (htw _ u_49) (fun _ h9 => h9) rfl d_A_cls_50 ?_
        refine xr_call (va_runV (As := [.ref (ad (100 + i1)), .int (σ.2.1 0 0), .int (σ.2.1 0 1)]) (rest := []) ⟨hx, hb, hml, hown, htw⟩ (c_R_fits (ad := ad) hR hI hw n (by omega) i1 hi1) (cwV 3 htw (gV u_305 u_306 u_307 u_8 u_308) rfl rfl rfl hd_R_fits ⟨Nat.le_of_ble_eq_true rfl, Nat.le_of_ble_eq_true rfl⟩) ⟨xP_blind, hw.recv hK (ci := 3) (t := 160 + n) rfl (rr n (by omega)) rfl, xP_of hK hN⟩ rfl rfl hl.1 rfl (lv_room (Nat.le_of_ble_eq_true rfl)) d_A_cls_53 ⟨by decide, by decide⟩) hS (fun v H_ locs hp hS => ?_)
        obtain ⟨rfl, hHe⟩ := hp
        rw [hHe] at hS ⊢
        refine W.eq (g2 := F0 m 56 ls [.int (bI (fits_ σ n i1))]) rfl ?_
        refine lv_if_eq (tgt := 65) hx hb d_A_cls_56 (by decide) (fun c_5 => ?_) (fun c_5 => ?_)
        · have c_5 : (fits_ σ n i1) = false := bI_f.mp c_5
          refine lv_iinc (v := nI n + 1) (lv' := [(3, .int (nI n + 1)), (4, .ref (ad (160 + n))), (2, .ref (ad (100 + i1))), (0, .ref (ad 0)), (1, .int (nI i1))]) hx hb d_A_cls_65 hl (k := 1) rfl rfl (by decide) rfl (fun ls hl => ?_)
          refine lv_goto (tgt := 21) hx hb d_A_cls_68 (by decide) ?_
          refine ih (by omega) _ _ _ ⟨rfl, hS, ?_, ?_⟩
          · rw [hex, fst_s (by omega), c_5]; rfl
          · rw [show nI (n + 1) = nI n + 1 from nI_succ n]; exact lv_sub hl [0, 2, 3, 4] rfl
        · have c_5 : (fits_ σ n i1) = true := bI_t.mp c_5
          refine lv_aload hx hb d_A_cls_59 (lv_at hl 0 rfl) ?_
          refine xr_get (ci := 3) (v := .int (σ.2.1 6 n)) (C := R_R) (T := T_R) (N := 4) hx hb htw in_R hown hK hw (160 + n) (rr n (by omega)) rfl rfl 0 (by decide) (htw _ u_288) (fun _ h9 => h9) rfl d_A_cls_61 ?_
          exact W.iret (v := σ.2.1 6 n) hx hb hr (fun t ht _ => ⟨_, rfl, ⟨by simp [f_cls, opt_n, opt_s, fi1, c_3, c_5, hex, fst_s (p := fun r => fits_ σ r i1) (show n < σ.1 2 by omega)], ht⟩, hS.F ht⟩) hS.2.2 d_A_cls_64
    · have c_3 : (σ.2.2.2 2 i1) = true := bI_t.mp c_3
      refine lv_iconst (v := (-1)) hx hb d_A_cls_17 (by decide) ?_
      exact W.iret (v := (-1)) hx hb hr (fun t ht _ => ⟨_, rfl, ⟨by simp [f_cls, opt_n, opt_s, fi1, c_3], ht⟩, hS.F ht⟩) hS.2.2 d_A_cls_18
set_option maxHeartbeats 4000000 in
set_option maxRecDepth 100000 in
theorem c_A_dispute {l : Launch} {D : va_G} {K : Nat → ClassId} {B : Nat} {ad : Nat → Nat} {w : Nat → Option va_E} {H : Heap} {σ : xS} (hR : RepX K σ ad w) (hI : Inv σ) (hw : xw D vwCl B ad w H) (x1 : Int32) : xC l D K B y_A_dispute b_A_dispute 5 (some .int) rm_A_dispute [.ref (ad 0), .int x1] H (fun v H1 => v = some (.int (f_dispute σ x1)) ∧ H1 = H) := by
  refine Met.ofW (cc := b_A_dispute) (maxL := 5) (ret := (some .int)) (by decide) rfl ?_
  intro p e s m args below meth c s₁ B0 hml hv
  obtain ⟨rfl, hsz, hK, hN⟩ := hv
  have hx := B0.exec
  have hb := B0.bytes
  have hr := B0.returns
  have htw : ∀ w ∈ xW0, w.before [.ref (ad 0), .int x1].toArray s = true := fun w h => atoms_spec (ws := Cond.code y_A_dispute b_A_dispute 5 (some .int) :: xW0) B0.pre w (List.mem_cons_of_mem _ h)
  have hown : s.vm.findClass R_A = some m.cls := findClass_of_methodNamed B0.named
  have hlocks := B0.notSynchronized
  subst hsz
  have hS : va_S (fun q => B ≤ q) s.heap s.heap [] := va_S.rf
  have hl := lv_entry ([.ref (ad 0), .int x1]) (n := 5) (Nat.le_of_ble_eq_true rfl)
  rw [lg_entry_eq]
  generalize (lg_sl ([.ref (ad 0), .int x1]) ++ List.replicate (5 - (lg_sl ([.ref (ad 0), .int x1])).length) Slot.unset).toArray = ls at hl ⊢
  have hl : lv_has ls 5 [(0, .ref (ad 0)), (1, .int x1)] := hl
  have hH : s.heap = s.heap := rfl
  obtain ⟨r0, r1, r2, r3, r4, r5, r6, r7, rb, rba, rbt, rbo, rs, rss, rr⟩ := id hR
  obtain ⟨hnb, hns, hnr, hpc, hst, hto, htl, hrm, hpa, hwt, hdf, hds⟩ := id hI
  refine lv_iconst (v := 0) hx hb d_A_dispute_0 (by decide) ?_
  refine lv_istore_n (lv' := [(2, .int 0), (0, .ref (ad 0)), (1, .int x1)]) hx hb d_A_dispute_1 rfl hl (by decide) rfl (fun ls hl => ?_)
  refine lv_iconst (v := 0) hx hb d_A_dispute_2 (by decide) ?_
  refine lv_istore_n (lv' := [(3, .int 0), (2, .int 0), (0, .ref (ad 0)), (1, .int x1)]) hx hb d_A_dispute_3 rfl hl (by decide) rfl (fun ls hl => ?_)
  refine xloop (σ.1 0) (fun n H locs ls => H = s.heap ∧ va_S (fun q => B ≤ q) s.heap H locs ∧ ∃ cv : Int32, (dsp (disp σ) x1 (σ.1 0) 0 0 = dsp (disp σ) x1 (σ.1 0 - n) n cv) ∧ lv_has ls 5 [(3, .int (nI n)), (2, .int cv), (0, .ref (ad 0)), (1, .int x1)]) 0 (Nat.zero_le _) ⟨rfl, hS, 0, rfl, lv_sub hl [0, 1, 2, 3] rfl⟩ (fun n H locs ls hn hJ ih => ?_)
  obtain ⟨rfl, hS, cv, hex, hl⟩ := hJ
  refine lv_iload_n hx hb d_A_dispute_4 rfl (lv_at hl 0 rfl) ?_
  refine lv_aload_n hx hb d_A_dispute_5 rfl (lv_at hl 2 rfl) ?_
  refine xr_get (ci := 0) (v := .int (nI (σ.1 0))) (C := R_A) (T := T_A) (N := 10) hx hb htw in_A hown hK hw 0 r0 rfl rfl 1 (by decide) (htw _ u_42) (fun _ h9 => h9) rfl d_A_dispute_6 ?_
  refine lv_icmp_ge (tgt := 61) hx hb d_A_dispute_9 (by decide) (fun c_1 => ?_) (fun c_1 => ?_)
  · have c_1 : (σ.1 0) ≤ n := (nLE (a := σ.1 0) (b := n) (by omega) (by omega)).mp c_1
    refine lv_iconst (v := (-1)) hx hb d_A_dispute_61 (by decide) ?_
    exact W.iret (v := (-1)) hx hb hr (fun t ht _ => ⟨_, rfl, ⟨by rw [f_dispute, hex, show σ.1 0 - n = 0 by omega]; rfl, ht⟩, hS.F ht⟩) hS.2.2 d_A_dispute_62
  · have c_1 : ¬ (σ.1 0) ≤ n := fun z => c_1 ((nLE (a := σ.1 0) (b := n) (by omega) (by omega)).mpr z)
    refine lv_aload_n hx hb d_A_dispute_12 rfl (lv_at hl 2 rfl) ?_
    refine xr_get (ci := 0) (v := .ref (ad 1)) (C := R_A) (T := T_A) (N := 10) hx hb htw in_A hown hK hw 0 r0 rfl rfl 0 (by decide) (htw _ u_41) (fun _ h9 => h9) rfl d_A_dispute_13 ?_
    refine lv_iload_n hx hb d_A_dispute_16 rfl (lv_at hl 0 rfl) ?_
    refine xr_aldq (i := nI n) hx hb hK hw 1 2 r1 rfl rfl (xvin (a := n) rfl (by omega) (by omega)) d_A_dispute_17 ?_
    refine W.eq (g2 := F0 m 18 ls (.ref (ad (100 + n)) :: [])) (congrArg (fun z => F0 m 18 ls (va_rf z :: [])) (show (if (nI n).toNatClampNeg < σ.1 0 then some (ad (100 + (nI n).toNatClampNeg)) else none) = some (ad (100 + n)) by rw [xcl (a := n) rfl (by omega)]; exact if_pos (by omega))) ?_
    refine lv_astore (lv' := [(4, .ref (ad (100 + n))), (3, .int (nI n)), (2, .int cv), (0, .ref (ad 0)), (1, .int x1)]) hx hb d_A_dispute_18 hl (by decide) rfl (fun ls hl => ?_)
    refine lv_aload hx hb d_A_dispute_20 (lv_at hl 0 rfl) ?_
    refine lv_ifnull hx hb d_A_dispute_22 ?_
    refine lv_aload hx hb d_A_dispute_25 (lv_at hl 0 rfl) ?_
    refine xr_get (ci := 1) (v := .int (bI (σ.2.2.2 2 n))) (C := R_B) (T := T_B) (N := 9) hx hb htw in_B hown hK hw (100 + n) (rb n (by omega)) rfl rfl 7 (by decide) (htw _ u_102) (fun _ h9 => h9) rfl d_A_dispute_27 ?_
    refine lv_if_ne (tgt := 55) hx hb d_A_dispute_30 (by decide) (fun c_2 => ?_) (fun c_2 => ?_)
    · have c_2 : (σ.2.2.2 2 n) = true := bI_t.mp c_2
      refine lv_iinc (v := nI n + 1) (lv' := [(3, .int (nI n + 1)), (4, .ref (ad (100 + n))), (2, .int cv), (0, .ref (ad 0)), (1, .int x1)]) hx hb d_A_dispute_55 hl (k := 1) rfl rfl (by decide) rfl (fun ls hl => ?_)
      refine lv_goto (tgt := 4) hx hb d_A_dispute_58 (by decide) ?_
      refine ih (by omega) _ _ _ ⟨rfl, hS, cv, ?_, ?_⟩
      · rw [hex, dsp_s (by omega)]; simp [disp, c_2]
      · rw [show nI (n + 1) = nI n + 1 from nI_succ n]; exact lv_sub hl [0, 2, 3, 4] rfl
    · have c_2 : (σ.2.2.2 2 n) = false := bI_f.mp c_2
      refine lv_aload hx hb d_A_dispute_33 (lv_at hl 0 rfl) ?_
      refine lv_aload_n hx hb d_A_dispute_35 rfl (lv_at hl 3 rfl) ?_
      refine xr_get (ci := 0) (v := .int (σ.2.1 0 1)) (C := R_A) (T := T_A) (N := 10) hx hb htw in_A hown hK hw 0 r0 rfl rfl 8 (by decide) (htw _ u_49) (fun _ h9 => h9) rfl d_A_dispute_36 ?_
      refine xr_call (va_runV (As := [.int (σ.2.1 0 1)]) (rest := []) ⟨hx, hb, hml, hown, htw⟩ (c_B_hasSpreadAbove (ad := ad) hR hI hw n (by omega) (σ.2.1 0 1)) (cwV 1 htw (gV u_323 u_324 u_325 u_4 u_326) rfl rfl rfl hd_B_hasSpreadAbove ⟨Nat.le_of_ble_eq_true rfl, Nat.le_of_ble_eq_true rfl⟩) ⟨xP_blind, hw.recv hK (ci := 1) (t := 100 + n) rfl (rb n (by omega)) rfl, xP_of hK hN⟩ rfl rfl hl.1 rfl (lv_room (Nat.le_of_ble_eq_true rfl)) d_A_dispute_39 ⟨by decide, by decide⟩) hS (fun v H_ locs hp hS => ?_)
      obtain ⟨rfl, hHe⟩ := hp
      rw [hHe] at hS ⊢
      refine W.eq (g2 := F0 m 42 ls [.int (bI (hasS (σ.2.1 (20 + n)) (σ.2.1 0 1)))]) rfl ?_
      refine lv_if_eq (tgt := 55) hx hb d_A_dispute_42 (by decide) (fun c_3 => ?_) (fun c_3 => ?_)
      · have c_3 : (hasS (σ.2.1 (20 + n)) (σ.2.1 0 1)) = false := bI_f.mp c_3
        refine lv_iinc (v := nI n + 1) (lv' := [(3, .int (nI n + 1)), (4, .ref (ad (100 + n))), (2, .int cv), (0, .ref (ad 0)), (1, .int x1)]) hx hb d_A_dispute_55 hl (k := 1) rfl rfl (by decide) rfl (fun ls hl => ?_)
        refine lv_goto (tgt := 4) hx hb d_A_dispute_58 (by decide) ?_
        refine ih (by omega) _ _ _ ⟨rfl, hS, cv, ?_, ?_⟩
        · rw [hex, dsp_s (by omega)]; simp [disp, c_2, c_3]
        · rw [show nI (n + 1) = nI n + 1 from nI_succ n]; exact lv_sub hl [0, 2, 3, 4] rfl
      · have c_3 : (hasS (σ.2.1 (20 + n)) (σ.2.1 0 1)) = true := bI_t.mp c_3
        refine lv_iload_n hx hb d_A_dispute_45 rfl (lv_at hl 2 rfl) ?_
        refine lv_iload_n hx hb d_A_dispute_46 rfl (lv_at hl 4 rfl) ?_
        refine lv_icmp_ne (tgt := 52) hx hb d_A_dispute_47 (by decide) (fun c_4 => ?_) (fun c_4 => ?_)
        · refine lv_iinc (v := cv + 1) (lv' := [(2, .int (cv + 1)), (4, .ref (ad (100 + n))), (3, .int (nI n)), (0, .ref (ad 0)), (1, .int x1)]) hx hb d_A_dispute_52 hl (k := 2) rfl rfl (by decide) rfl (fun ls hl => ?_)
          refine lv_iinc (v := nI n + 1) (lv' := [(3, .int (nI n + 1)), (2, .int (cv + 1)), (4, .ref (ad (100 + n))), (0, .ref (ad 0)), (1, .int x1)]) hx hb d_A_dispute_55 hl (k := 2) rfl rfl (by decide) rfl (fun ls hl => ?_)
          refine lv_goto (tgt := 4) hx hb d_A_dispute_58 (by decide) ?_
          refine ih (by omega) _ _ _ ⟨rfl, hS, cv + 1, ?_, ?_⟩
          · rw [hex, dsp_s (by omega)]; simp [disp, c_2, c_3, c_4]
          · rw [show nI (n + 1) = nI n + 1 from nI_succ n]; exact lv_sub hl [0, 1, 3, 4] rfl
        · refine lv_iload_n hx hb d_A_dispute_50 rfl (lv_at hl 1 rfl) ?_
          exact W.iret (v := nI n) hx hb hr (fun t ht _ => ⟨_, rfl, ⟨by rw [f_dispute, hex, dsp_s (by omega)]; simp [disp, c_2, c_3, c_4], ht⟩, hS.F ht⟩) hS.2.2 d_A_dispute_51
end
section
/-- behind a call that changes the class: its cells for the new numbers, all other cells as they were -/
def PX (D : va_G) (K : Nat → ClassId) (B : Nat) (ad : Nat → Nat) (w : Nat → Option va_E) (σ : xS) (H1 : Heap) : Prop :=
  ∃ (ad1 : Nat → Nat) (w1 : Nat → Option va_E), xw D vwCl B ad1 w1 H1 ∧ RepX K σ ad1 w1 ∧ ad1 0 = ad 0 ∧ ∀ t, 200 ≤ t → w1 t = w t ∧ ad1 t = ad t
theorem PX_same {D : va_G} {K : Nat → ClassId} {B : Nat} {ad : Nat → Nat} {w : Nat → Option va_E} {σ : xS} {H : Heap} (hw : xw D vwCl B ad w H) (hR : RepX K σ ad w) : PX D K B ad w σ H := ⟨ad, w, hw, hR, rfl, fun _ _ => ⟨rfl, rfl⟩⟩
theorem fq_push {n : Nat} {ad ad1 : Nat → Nat} {b q : Nat} (hq : ad1 (b + n) = q) (h : ∀ i, i < n → ad1 (b + i) = ad (b + i)) : va_up (fun i => if i < n then some (ad (b + i)) else none) n (some q) = fun i => if i < n + 1 then some (ad1 (b + i)) else none := by
  funext i
  unfold va_up
  by_cases hi : i = n
  · subst hi
    rw [if_pos rfl, if_pos (by omega), hq]
  · rw [if_neg hi]
    show (if i < n then some (ad (b + i)) else none) = _
    by_cases hl : i < n
    · rw [if_pos hl, if_pos (by omega), h i hl]
    · rw [if_neg hl, if_neg (by omega)]
theorem fc_up {f : Nat → Nat} {k n : Nat} {x : Int32} (hx : x = nI n) : upd (fun j => nI (f (11 + 2 * j))) k x = fun j => nI (row f (11 + 2 * k) n (11 + 2 * j)) := by
  funext j
  by_cases h : j = k
  · subst h
    rw [pk_us, row_eq, hx]
  · rw [pk_un h, row_ne (by omega)]
theorem toI64 (x : Int32) : x.toInt64.toInt = x.toInt := by first | exact Int32.toInt_toInt64 x | simp
theorem xin_xi {x : Int32} (h : xin x.toInt64 0 2 = false) : xi 3 x = none := by
  refine xi_none (fun hx => ?_)
  simp only [xin, Bool.and_eq_false_iff, decide_eq_false_iff_not, Int64.le_iff_toInt_le, toI64] at h
  rw [show (0 : Int64).toInt = 0 by decide, show (2 : Int64).toInt = 2 by decide] at h
  omega
theorem xin_of {x : Int32} (h : xin x.toInt64 0 2 = true) : ∃ j, j < 3 ∧ x = nI j := by
  simp only [xin, Bool.and_eq_true, decide_eq_true_eq, Int64.le_iff_toInt_le, toI64] at h
  rw [show (0 : Int64).toInt = 0 by decide, show (2 : Int64).toInt = 2 by decide] at h
  exact xi_some (n := 3) (by omega) (by decide)
theorem nI_back (n : Nat) : nI n + 1 - 1 = nI n := by rw [← nI_succ, nI_pred]
def f_today (σ : xS) (x1 : Int32) : xS × Int32 := if xin x1.toInt64 (σ.2.1 0 0).toInt64 100000 then (pI σ 0 (upd (σ.2.1 0) 0 x1), 1) else (σ, 0)
def f_tolerance (σ : xS) (x1 : Int32) : xS × Int32 := if xin x1.toInt64 0 1000000 then (pI σ 0 (upd (σ.2.1 0) 1 x1), 1) else (σ, 0)
def f_parts (σ : xS) (x1 x2 x3 : Int32) : xS × Int32 := opt (xi (σ.1 0) x1) (σ, 0) fun i => if σ.2.2.2 2 i then (σ, 0) else if σ.2.2.2 1 i then (σ, 0) else if σ.2.2.2 0 i then (σ, 0) else opt (xi 4 x2) (σ, 0) fun k => if xin x3.toInt64 0 1000000 then (pL σ (10 + i) (vp_updL (σ.2.2.1 (10 + i)) k (σ.2.2.1 1 i * x3.toInt64)), 1) else (σ, 0)
def f_assay (σ : xS) (x1 x2 x3 x4 : Int32) : xS × Int32 := opt (xi (σ.1 0) x1) (σ, 0) fun i => if σ.2.2.2 2 i then (σ, 0) else opt (xi 4 x3) (σ, 0) fun k => opt (xi 3 x2) (σ, 0) fun j => if xin x4.toInt64 0 1000000 then (pI σ (20 + i) (upd (σ.2.1 (20 + i)) (k * 3 + j) x4), 1) else (σ, 0)
def s_price (σ : xS) (k : Nat) (d : Int32) (c : Int64) : xS := pN (pL (pI σ 40 (upd (σ.2.1 40) (k * 6 + σ.1 (11 + 2 * k)) d)) 40 (vp_updL (σ.2.2.1 40) (k * 6 + σ.1 (11 + 2 * k)) c)) (11 + 2 * k) (σ.1 (11 + 2 * k) + 1)
def f_append (σ : xS) (k : Nat) (d : Int32) (c : Int64) : xS × Int32 := if σ.1 (11 + 2 * k) < 6 then (if σ.1 (11 + 2 * k) ≤ 0 then (s_price σ k d c, 1) else if σ.2.1 40 (k * 6 + σ.1 (11 + 2 * k) - 1) < d then (s_price σ k d c, 1) else (σ, 0)) else (σ, 0)
def f_price (σ : xS) (x1 x2 : Int32) (x3 : Int64) : xS × Int32 := opt (xi 4 x1) (σ, 0) fun k => if xin x2.toInt64 0 100000 then (if xin x3 0 1000000 then f_append σ k x2 x3 else (σ, 0)) else (σ, 0)
theorem nar1 : narrow .boolean (.int 1) = .int 1 := by decide
theorem nar0 : narrow .boolean (.int 0) = .int 0 := by decide
theorem f_append_nar {σ : xS} {k : Nat} {d : Int32} {u : Int64} : narrow .boolean (.int (f_append σ k d u).2) = .int (f_append σ k d u).2 := by
  unfold f_append
  split
  · split
    · exact nar1
    · split
      · exact nar1
      · exact nar0
  · exact nar0
end
section
set_option maxHeartbeats 4000000 in
set_option maxRecDepth 100000 in
theorem c_A_today {l : Launch} {D : va_G} {K : Nat → ClassId} {B : Nat} {ad : Nat → Nat} {w : Nat → Option va_E} {H : Heap} {σ : xS} (hR : RepX K σ ad w) (hI : Inv σ) (hw : xw D vwCl B ad w H) (x1 : Int32) : xC l D K B y_A_today b_A_today 2 (some .boolean) rm_A_today [.ref (ad 0), .int x1] H (fun v H1 => v = some (.int (f_today σ x1).2) ∧ PX D K B ad w (f_today σ x1).1 H1) := by
  refine Met.ofW (cc := b_A_today) (maxL := 2) (ret := (some .boolean)) (by decide) rfl ?_
  intro p e s m args below meth c s₁ B0 hml hv
  obtain ⟨rfl, hsz, hK, hN⟩ := hv
  have hx := B0.exec
  have hb := B0.bytes
  have hr := B0.returns
  have htw : ∀ w ∈ xW0, w.before [.ref (ad 0), .int x1].toArray s = true := fun w h => atoms_spec (ws := Cond.code y_A_today b_A_today 2 (some .boolean) :: xW0) B0.pre w (List.mem_cons_of_mem _ h)
  have hown : s.vm.findClass R_A = some m.cls := findClass_of_methodNamed B0.named
  have hlocks := B0.notSynchronized
  subst hsz
  have hS : va_S (fun q => B ≤ q) s.heap s.heap [] := va_S.rf
  have hl := lv_entry ([.ref (ad 0), .int x1]) (n := 2) (Nat.le_of_ble_eq_true rfl)
  rw [lg_entry_eq]
  generalize (lg_sl ([.ref (ad 0), .int x1]) ++ List.replicate (2 - (lg_sl ([.ref (ad 0), .int x1])).length) Slot.unset).toArray = ls at hl ⊢
  have hl : lv_has ls 2 [(0, .ref (ad 0)), (1, .int x1)] := hl
  have hH : s.heap = s.heap := rfl
  obtain ⟨r0, r1, r2, r3, r4, r5, r6, r7, rb, rba, rbt, rbo, rs, rss, rr⟩ := id hR
  obtain ⟨hnb, hns, hnr, hpc, hst, hto, htl, hrm, hpa, hwt, hdf, hds⟩ := id hI
  refine lv_iload_n hx hb d_A_today_0 rfl (lv_at hl 1 rfl) ?_
  refine lv_i2l hx hb d_A_today_1 rfl ?_
  refine lv_aload_n hx hb d_A_today_2 rfl (lv_at hl 0 rfl) ?_
  refine xr_get (ci := 0) (v := .int (σ.2.1 0 0)) (C := R_A) (T := T_A) (N := 10) hx hb htw in_A hown hK hw 0 r0 rfl rfl 7 (by decide) (htw _ u_48) (fun _ h9 => h9) rfl d_A_today_3 ?_
  refine lv_i2l hx hb d_A_today_6 rfl ?_
  refine lv_ldc2 (v := 100000) hx hb hown (htw _ u_143) d_A_today_7 ?_
  refine xr_call (va_runS (As := [.long x1.toInt64, .long ((σ.2.1 0 0).toInt64), .long 100000]) (rest := []) ⟨hx, hb, hml, hown, htw⟩ (c_A_isWithin x1.toInt64 ((σ.2.1 0 0).toInt64) 100000) (va_cwS 3 htw (gS u_77 u_78 u_1 u_79) rfl rfl rfl hd_A_isWithin.2 ⟨Nat.le_of_ble_eq_true rfl, Nat.le_of_ble_eq_true rfl⟩) ⟨xP_blind, xP_of hK hN⟩ rfl rfl hl.1 rfl (lv_room (Nat.le_of_ble_eq_true rfl)) d_A_today_10 ⟨by decide, by decide⟩) hS (fun v H_ locs hp hS => ?_)
  obtain ⟨rfl, hHe⟩ := hp
  rw [hHe] at hS ⊢
  refine W.eq (g2 := F0 m 13 ls [.int (bI (xin x1.toInt64 ((σ.2.1 0 0).toInt64) 100000))]) rfl ?_
  refine lv_if_ne (tgt := 18) hx hb d_A_today_13 (by decide) (fun c_1 => ?_) (fun c_1 => ?_)
  · have c_1 : (xin x1.toInt64 ((σ.2.1 0 0).toInt64) 100000) = true := bI_t.mp c_1
    refine lv_aload_n hx hb d_A_today_18 rfl (lv_at hl 0 rfl) ?_
    refine lv_iload_n hx hb d_A_today_19 rfl (lv_at hl 1 rfl) ?_
    refine xr_put (ci := 0) (v := .int x1) (ty := .int) (C := R_A) (T := T_A) (N := 10) hx hb htw in_A ty_A tk_A nm_A hown hK hw hS 0 r0 rfl rfl 7 (by decide) (htw _ u_48) (fun _ h9 => h9) rfl (by decide +kernel) rfl rfl (Nat.le_of_ble_eq_true rfl) d_A_today_20 (fun H locs hw hS => ?_)
    have hw : xw D vwCl B ad (xu w 0 (.inr (0, [.ref (ad 1), .int (nI (σ.1 0)), .ref (ad 2), .int (nI (σ.1 1)), .ref (ad 3), .int (nI (σ.1 2)), .ref (ad 4), .int x1, .int (σ.2.1 0 1), .long (σ.2.2.1 0 0)]))) H := hw
    refine lv_iconst (v := 1) hx hb d_A_today_23 (by decide) ?_
    have hRep : RepX K (pI σ 0 (upd (σ.2.1 0) 0 x1)) ad (xu w 0 (.inr (0, [.ref (ad 1), .int (nI (σ.1 0)), .ref (ad 2), .int (nI (σ.1 1)), .ref (ad 3), .int (nI (σ.1 2)), .ref (ad 4), .int x1, .int (σ.2.1 0 1), .long (σ.2.2.1 0 0)]))) := by
      refine ⟨?_, ?_, ?_, ?_, ?_, ?_, ?_, ?_, ?_, ?_, ?_, ?_, ?_, ?_, ?_⟩
      · simp (disch := omega) only [pN, pI, pL, pZ, row_eq, row_ne, xu_eq, xu_ne, xa_eq, xa_ne, pk_us, pk_un, pk_uLs, pk_uLn, r0]
      · simp (disch := omega) only [pN, pI, pL, pZ, row_eq, row_ne, xu_eq, xu_ne, xa_eq, xa_ne, pk_us, pk_un, pk_uLs, pk_uLn, r1]; try rfl
      · simp (disch := omega) only [pN, pI, pL, pZ, row_eq, row_ne, xu_eq, xu_ne, xa_eq, xa_ne, pk_us, pk_un, pk_uLs, pk_uLn, r2]; try rfl
      · simp (disch := omega) only [pN, pI, pL, pZ, row_eq, row_ne, xu_eq, xu_ne, xa_eq, xa_ne, pk_us, pk_un, pk_uLs, pk_uLn, r3]; try rfl
      · simp (disch := omega) only [pN, pI, pL, pZ, row_eq, row_ne, xu_eq, xu_ne, xa_eq, xa_ne, pk_us, pk_un, pk_uLs, pk_uLn, r4]
      · simp (disch := omega) only [pN, pI, pL, pZ, row_eq, row_ne, xu_eq, xu_ne, xa_eq, xa_ne, pk_us, pk_un, pk_uLs, pk_uLn, r5]
      · simp (disch := omega) only [pN, pI, pL, pZ, row_eq, row_ne, xu_eq, xu_ne, xa_eq, xa_ne, pk_us, pk_un, pk_uLs, pk_uLn, r6]
      · simp (disch := omega) only [pN, pI, pL, pZ, row_eq, row_ne, xu_eq, xu_ne, xa_eq, xa_ne, pk_us, pk_un, pk_uLs, pk_uLn, r7]
      · intro jj hj
        have hj : jj < σ.1 0 := by first | exact hj | simpa (disch := omega) only [pN, pI, pL, pZ, row_eq, row_ne, xu_eq, xu_ne, xa_eq, xa_ne, pk_us, pk_un, pk_uLs, pk_uLn] using hj
        simp (disch := omega) only [pN, pI, pL, pZ, row_eq, row_ne, xu_eq, xu_ne, xa_eq, xa_ne, pk_us, pk_un, pk_uLs, pk_uLn, rb jj hj]
      · intro jj hj
        have hj : jj < σ.1 0 := by first | exact hj | simpa (disch := omega) only [pN, pI, pL, pZ, row_eq, row_ne, xu_eq, xu_ne, xa_eq, xa_ne, pk_us, pk_un, pk_uLs, pk_uLn] using hj
        simp (disch := omega) only [pN, pI, pL, pZ, row_eq, row_ne, xu_eq, xu_ne, xa_eq, xa_ne, pk_us, pk_un, pk_uLs, pk_uLn, rba jj hj]
      · intro jj hj
        have hj : jj < σ.1 0 := by first | exact hj | simpa (disch := omega) only [pN, pI, pL, pZ, row_eq, row_ne, xu_eq, xu_ne, xa_eq, xa_ne, pk_us, pk_un, pk_uLs, pk_uLn] using hj
        simp (disch := omega) only [pN, pI, pL, pZ, row_eq, row_ne, xu_eq, xu_ne, xa_eq, xa_ne, pk_us, pk_un, pk_uLs, pk_uLn, rbt jj hj]
      · intro jj hj
        have hj : jj < σ.1 0 := by first | exact hj | simpa (disch := omega) only [pN, pI, pL, pZ, row_eq, row_ne, xu_eq, xu_ne, xa_eq, xa_ne, pk_us, pk_un, pk_uLs, pk_uLn] using hj
        simp (disch := omega) only [pN, pI, pL, pZ, row_eq, row_ne, xu_eq, xu_ne, xa_eq, xa_ne, pk_us, pk_un, pk_uLs, pk_uLn, rbo jj hj]
      · intro jj hj
        have hj : jj < σ.1 1 := by first | exact hj | simpa (disch := omega) only [pN, pI, pL, pZ, row_eq, row_ne, xu_eq, xu_ne, xa_eq, xa_ne, pk_us, pk_un, pk_uLs, pk_uLn] using hj
        simp (disch := omega) only [pN, pI, pL, pZ, row_eq, row_ne, xu_eq, xu_ne, xa_eq, xa_ne, pk_us, pk_un, pk_uLs, pk_uLn, rs jj hj]
      · intro jj hj
        have hj : jj < σ.1 1 := by first | exact hj | simpa (disch := omega) only [pN, pI, pL, pZ, row_eq, row_ne, xu_eq, xu_ne, xa_eq, xa_ne, pk_us, pk_un, pk_uLs, pk_uLn] using hj
        simp (disch := omega) only [pN, pI, pL, pZ, row_eq, row_ne, xu_eq, xu_ne, xa_eq, xa_ne, pk_us, pk_un, pk_uLs, pk_uLn, rss jj hj]
      · intro jj hj
        have hj : jj < σ.1 2 := by first | exact hj | simpa (disch := omega) only [pN, pI, pL, pZ, row_eq, row_ne, xu_eq, xu_ne, xa_eq, xa_ne, pk_us, pk_un, pk_uLs, pk_uLn] using hj
        simp (disch := omega) only [pN, pI, pL, pZ, row_eq, row_ne, xu_eq, xu_ne, xa_eq, xa_ne, pk_us, pk_un, pk_uLs, pk_uLn, rr jj hj]
    have hf : f_today σ x1 = (pI σ 0 (upd (σ.2.1 0) 0 x1), 1) := by simp [f_today, opt_n, opt_s, c_1]
    exact W.zret (v := 1) hx hb hr (by decide) (fun t ht _ => ⟨_, rfl, by rw [hf, ht]; exact ⟨rfl, _, _, hw, hRep, rfl, fun t h2 => ⟨by simp (disch := omega) only [xu_ne, xa_ne], rfl⟩⟩, hS.F ht⟩) hS.2.2 d_A_today_24
  · have c_1 : (xin x1.toInt64 ((σ.2.1 0 0).toInt64) 100000) = false := bI_f.mp c_1
    refine lv_iconst (v := 0) hx hb d_A_today_16 (by decide) ?_
    have hf : f_today σ x1 = (σ, 0) := by simp [f_today, opt_n, opt_s, c_1]
    exact W.zret (v := 0) hx hb hr (by decide) (fun t ht _ => ⟨_, rfl, by rw [hf, ht]; exact ⟨rfl, PX_same hw hR⟩, hS.F ht⟩) hS.2.2 d_A_today_17
set_option maxHeartbeats 4000000 in
set_option maxRecDepth 100000 in
theorem c_A_tolerance {l : Launch} {D : va_G} {K : Nat → ClassId} {B : Nat} {ad : Nat → Nat} {w : Nat → Option va_E} {H : Heap} {σ : xS} (hR : RepX K σ ad w) (hI : Inv σ) (hw : xw D vwCl B ad w H) (x1 : Int32) : xC l D K B y_A_tolerance b_A_tolerance 2 (some .boolean) rm_A_tolerance [.ref (ad 0), .int x1] H (fun v H1 => v = some (.int (f_tolerance σ x1).2) ∧ PX D K B ad w (f_tolerance σ x1).1 H1) := by
  refine Met.ofW (cc := b_A_tolerance) (maxL := 2) (ret := (some .boolean)) (by decide) rfl ?_
  intro p e s m args below meth c s₁ B0 hml hv
  obtain ⟨rfl, hsz, hK, hN⟩ := hv
  have hx := B0.exec
  have hb := B0.bytes
  have hr := B0.returns
  have htw : ∀ w ∈ xW0, w.before [.ref (ad 0), .int x1].toArray s = true := fun w h => atoms_spec (ws := Cond.code y_A_tolerance b_A_tolerance 2 (some .boolean) :: xW0) B0.pre w (List.mem_cons_of_mem _ h)
  have hown : s.vm.findClass R_A = some m.cls := findClass_of_methodNamed B0.named
  have hlocks := B0.notSynchronized
  subst hsz
  have hS : va_S (fun q => B ≤ q) s.heap s.heap [] := va_S.rf
  have hl := lv_entry ([.ref (ad 0), .int x1]) (n := 2) (Nat.le_of_ble_eq_true rfl)
  rw [lg_entry_eq]
  generalize (lg_sl ([.ref (ad 0), .int x1]) ++ List.replicate (2 - (lg_sl ([.ref (ad 0), .int x1])).length) Slot.unset).toArray = ls at hl ⊢
  have hl : lv_has ls 2 [(0, .ref (ad 0)), (1, .int x1)] := hl
  have hH : s.heap = s.heap := rfl
  obtain ⟨r0, r1, r2, r3, r4, r5, r6, r7, rb, rba, rbt, rbo, rs, rss, rr⟩ := id hR
  obtain ⟨hnb, hns, hnr, hpc, hst, hto, htl, hrm, hpa, hwt, hdf, hds⟩ := id hI
  refine lv_iload_n hx hb d_A_tolerance_0 rfl (lv_at hl 1 rfl) ?_
  refine lv_i2l hx hb d_A_tolerance_1 rfl ?_
  refine lv_lconst (v := 0) hx hb d_A_tolerance_2 (by decide) ?_
  refine lv_ldc2 (v := 1000000) hx hb hown (htw _ u_138) d_A_tolerance_3 ?_
  refine xr_call (va_runS (As := [.long x1.toInt64, .long 0, .long 1000000]) (rest := []) ⟨hx, hb, hml, hown, htw⟩ (c_A_isWithin x1.toInt64 0 1000000) (va_cwS 3 htw (gS u_77 u_78 u_1 u_79) rfl rfl rfl hd_A_isWithin.2 ⟨Nat.le_of_ble_eq_true rfl, Nat.le_of_ble_eq_true rfl⟩) ⟨xP_blind, xP_of hK hN⟩ rfl rfl hl.1 rfl (lv_room (Nat.le_of_ble_eq_true rfl)) d_A_tolerance_6 ⟨by decide, by decide⟩) hS (fun v H_ locs hp hS => ?_)
  obtain ⟨rfl, hHe⟩ := hp
  rw [hHe] at hS ⊢
  refine W.eq (g2 := F0 m 9 ls [.int (bI (xin x1.toInt64 0 1000000))]) rfl ?_
  refine lv_if_ne (tgt := 14) hx hb d_A_tolerance_9 (by decide) (fun c_1 => ?_) (fun c_1 => ?_)
  · have c_1 : (xin x1.toInt64 0 1000000) = true := bI_t.mp c_1
    refine lv_aload_n hx hb d_A_tolerance_14 rfl (lv_at hl 0 rfl) ?_
    refine lv_iload_n hx hb d_A_tolerance_15 rfl (lv_at hl 1 rfl) ?_
    refine xr_put (ci := 0) (v := .int x1) (ty := .int) (C := R_A) (T := T_A) (N := 10) hx hb htw in_A ty_A tk_A nm_A hown hK hw hS 0 r0 rfl rfl 8 (by decide) (htw _ u_49) (fun _ h9 => h9) rfl (by decide +kernel) rfl rfl (Nat.le_of_ble_eq_true rfl) d_A_tolerance_16 (fun H locs hw hS => ?_)
    have hw : xw D vwCl B ad (xu w 0 (.inr (0, [.ref (ad 1), .int (nI (σ.1 0)), .ref (ad 2), .int (nI (σ.1 1)), .ref (ad 3), .int (nI (σ.1 2)), .ref (ad 4), .int (σ.2.1 0 0), .int x1, .long (σ.2.2.1 0 0)]))) H := hw
    refine lv_iconst (v := 1) hx hb d_A_tolerance_19 (by decide) ?_
    have hRep : RepX K (pI σ 0 (upd (σ.2.1 0) 1 x1)) ad (xu w 0 (.inr (0, [.ref (ad 1), .int (nI (σ.1 0)), .ref (ad 2), .int (nI (σ.1 1)), .ref (ad 3), .int (nI (σ.1 2)), .ref (ad 4), .int (σ.2.1 0 0), .int x1, .long (σ.2.2.1 0 0)]))) := by
      refine ⟨?_, ?_, ?_, ?_, ?_, ?_, ?_, ?_, ?_, ?_, ?_, ?_, ?_, ?_, ?_⟩
      · simp (disch := omega) only [pN, pI, pL, pZ, row_eq, row_ne, xu_eq, xu_ne, xa_eq, xa_ne, pk_us, pk_un, pk_uLs, pk_uLn, r0]
      · simp (disch := omega) only [pN, pI, pL, pZ, row_eq, row_ne, xu_eq, xu_ne, xa_eq, xa_ne, pk_us, pk_un, pk_uLs, pk_uLn, r1]; try rfl
      · simp (disch := omega) only [pN, pI, pL, pZ, row_eq, row_ne, xu_eq, xu_ne, xa_eq, xa_ne, pk_us, pk_un, pk_uLs, pk_uLn, r2]; try rfl
      · simp (disch := omega) only [pN, pI, pL, pZ, row_eq, row_ne, xu_eq, xu_ne, xa_eq, xa_ne, pk_us, pk_un, pk_uLs, pk_uLn, r3]; try rfl
      · simp (disch := omega) only [pN, pI, pL, pZ, row_eq, row_ne, xu_eq, xu_ne, xa_eq, xa_ne, pk_us, pk_un, pk_uLs, pk_uLn, r4]
      · simp (disch := omega) only [pN, pI, pL, pZ, row_eq, row_ne, xu_eq, xu_ne, xa_eq, xa_ne, pk_us, pk_un, pk_uLs, pk_uLn, r5]
      · simp (disch := omega) only [pN, pI, pL, pZ, row_eq, row_ne, xu_eq, xu_ne, xa_eq, xa_ne, pk_us, pk_un, pk_uLs, pk_uLn, r6]
      · simp (disch := omega) only [pN, pI, pL, pZ, row_eq, row_ne, xu_eq, xu_ne, xa_eq, xa_ne, pk_us, pk_un, pk_uLs, pk_uLn, r7]
      · intro jj hj
        have hj : jj < σ.1 0 := by first | exact hj | simpa (disch := omega) only [pN, pI, pL, pZ, row_eq, row_ne, xu_eq, xu_ne, xa_eq, xa_ne, pk_us, pk_un, pk_uLs, pk_uLn] using hj
        simp (disch := omega) only [pN, pI, pL, pZ, row_eq, row_ne, xu_eq, xu_ne, xa_eq, xa_ne, pk_us, pk_un, pk_uLs, pk_uLn, rb jj hj]
      · intro jj hj
        have hj : jj < σ.1 0 := by first | exact hj | simpa (disch := omega) only [pN, pI, pL, pZ, row_eq, row_ne, xu_eq, xu_ne, xa_eq, xa_ne, pk_us, pk_un, pk_uLs, pk_uLn] using hj
        simp (disch := omega) only [pN, pI, pL, pZ, row_eq, row_ne, xu_eq, xu_ne, xa_eq, xa_ne, pk_us, pk_un, pk_uLs, pk_uLn, rba jj hj]
      · intro jj hj
        have hj : jj < σ.1 0 := by first | exact hj | simpa (disch := omega) only [pN, pI, pL, pZ, row_eq, row_ne, xu_eq, xu_ne, xa_eq, xa_ne, pk_us, pk_un, pk_uLs, pk_uLn] using hj
        simp (disch := omega) only [pN, pI, pL, pZ, row_eq, row_ne, xu_eq, xu_ne, xa_eq, xa_ne, pk_us, pk_un, pk_uLs, pk_uLn, rbt jj hj]
      · intro jj hj
        have hj : jj < σ.1 0 := by first | exact hj | simpa (disch := omega) only [pN, pI, pL, pZ, row_eq, row_ne, xu_eq, xu_ne, xa_eq, xa_ne, pk_us, pk_un, pk_uLs, pk_uLn] using hj
        simp (disch := omega) only [pN, pI, pL, pZ, row_eq, row_ne, xu_eq, xu_ne, xa_eq, xa_ne, pk_us, pk_un, pk_uLs, pk_uLn, rbo jj hj]
      · intro jj hj
        have hj : jj < σ.1 1 := by first | exact hj | simpa (disch := omega) only [pN, pI, pL, pZ, row_eq, row_ne, xu_eq, xu_ne, xa_eq, xa_ne, pk_us, pk_un, pk_uLs, pk_uLn] using hj
        simp (disch := omega) only [pN, pI, pL, pZ, row_eq, row_ne, xu_eq, xu_ne, xa_eq, xa_ne, pk_us, pk_un, pk_uLs, pk_uLn, rs jj hj]
      · intro jj hj
        have hj : jj < σ.1 1 := by first | exact hj | simpa (disch := omega) only [pN, pI, pL, pZ, row_eq, row_ne, xu_eq, xu_ne, xa_eq, xa_ne, pk_us, pk_un, pk_uLs, pk_uLn] using hj
        simp (disch := omega) only [pN, pI, pL, pZ, row_eq, row_ne, xu_eq, xu_ne, xa_eq, xa_ne, pk_us, pk_un, pk_uLs, pk_uLn, rss jj hj]
      · intro jj hj
        have hj : jj < σ.1 2 := by first | exact hj | simpa (disch := omega) only [pN, pI, pL, pZ, row_eq, row_ne, xu_eq, xu_ne, xa_eq, xa_ne, pk_us, pk_un, pk_uLs, pk_uLn] using hj
        simp (disch := omega) only [pN, pI, pL, pZ, row_eq, row_ne, xu_eq, xu_ne, xa_eq, xa_ne, pk_us, pk_un, pk_uLs, pk_uLn, rr jj hj]
    have hf : f_tolerance σ x1 = (pI σ 0 (upd (σ.2.1 0) 1 x1), 1) := by simp [f_tolerance, opt_n, opt_s, c_1]
    exact W.zret (v := 1) hx hb hr (by decide) (fun t ht _ => ⟨_, rfl, by rw [hf, ht]; exact ⟨rfl, _, _, hw, hRep, rfl, fun t h2 => ⟨by simp (disch := omega) only [xu_ne, xa_ne], rfl⟩⟩, hS.F ht⟩) hS.2.2 d_A_tolerance_20
  · have c_1 : (xin x1.toInt64 0 1000000) = false := bI_f.mp c_1
    refine lv_iconst (v := 0) hx hb d_A_tolerance_12 (by decide) ?_
    have hf : f_tolerance σ x1 = (σ, 0) := by simp [f_tolerance, opt_n, opt_s, c_1]
    exact W.zret (v := 0) hx hb hr (by decide) (fun t ht _ => ⟨_, rfl, by rw [hf, ht]; exact ⟨rfl, PX_same hw hR⟩, hS.F ht⟩) hS.2.2 d_A_tolerance_13
set_option maxHeartbeats 4000000 in
set_option maxRecDepth 100000 in
theorem c_A_parts {l : Launch} {D : va_G} {K : Nat → ClassId} {B : Nat} {ad : Nat → Nat} {w : Nat → Option va_E} {H : Heap} {σ : xS} (hR : RepX K σ ad w) (hI : Inv σ) (hw : xw D vwCl B ad w H) (x1 x2 x3 : Int32) : xC l D K B y_A_parts b_A_parts 5 (some .boolean) rm_A_parts [.ref (ad 0), .int x1, .int x2, .int x3] H (fun v H1 => v = some (.int (f_parts σ x1 x2 x3).2) ∧ PX D K B ad w (f_parts σ x1 x2 x3).1 H1) := by
  refine Met.ofW (cc := b_A_parts) (maxL := 5) (ret := (some .boolean)) (by decide) rfl ?_
  intro p e s m args below meth c s₁ B0 hml hv
  obtain ⟨rfl, hsz, hK, hN⟩ := hv
  have hx := B0.exec
  have hb := B0.bytes
  have hr := B0.returns
  have htw : ∀ w ∈ xW0, w.before [.ref (ad 0), .int x1, .int x2, .int x3].toArray s = true := fun w h => atoms_spec (ws := Cond.code y_A_parts b_A_parts 5 (some .boolean) :: xW0) B0.pre w (List.mem_cons_of_mem _ h)
  have hown : s.vm.findClass R_A = some m.cls := findClass_of_methodNamed B0.named
  have hlocks := B0.notSynchronized
  subst hsz
  have hS : va_S (fun q => B ≤ q) s.heap s.heap [] := va_S.rf
  have hl := lv_entry ([.ref (ad 0), .int x1, .int x2, .int x3]) (n := 5) (Nat.le_of_ble_eq_true rfl)
  rw [lg_entry_eq]
  generalize (lg_sl ([.ref (ad 0), .int x1, .int x2, .int x3]) ++ List.replicate (5 - (lg_sl ([.ref (ad 0), .int x1, .int x2, .int x3])).length) Slot.unset).toArray = ls at hl ⊢
  have hl : lv_has ls 5 [(0, .ref (ad 0)), (1, .int x1), (2, .int x2), (3, .int x3)] := hl
  have hH : s.heap = s.heap := rfl
  obtain ⟨r0, r1, r2, r3, r4, r5, r6, r7, rb, rba, rbt, rbo, rs, rss, rr⟩ := id hR
  obtain ⟨hnb, hns, hnr, hpc, hst, hto, htl, hrm, hpa, hwt, hdf, hds⟩ := id hI
  refine lv_aload_n hx hb d_A_parts_0 rfl (lv_at hl 0 rfl) ?_
  refine lv_iload_n hx hb d_A_parts_1 rfl (lv_at hl 1 rfl) ?_
  refine xr_call (va_runV (As := [.int x1]) (rest := []) ⟨hx, hb, hml, hown, htw⟩ (c_A_batchAt (ad := ad) hR hnb hns hw x1) (cwV 1 htw (gV u_131 u_133 us_1 u_1 u_134) rfl rfl rfl hd_A_batchAt ⟨Nat.le_of_ble_eq_true rfl, Nat.le_of_ble_eq_true rfl⟩) ⟨xP_blind, hw.recv hK (ci := 0) (t := 0) rfl r0 rfl, xP_of hK hN⟩ rfl rfl hl.1 rfl (lv_room (Nat.le_of_ble_eq_true rfl)) d_A_parts_2 ⟨by decide, by decide⟩) hS (fun v H_ locs hp hS => ?_)
  obtain ⟨hHe, hp⟩ := hp
  rw [hHe] at hS ⊢
  rcases hp with ⟨f2, rfl⟩ | ⟨i1, hi1, rfl, rfl⟩
  · refine W.eq (g2 := F0 m 5 ls [.null]) rfl ?_
    refine lv_astoreN (lv' := [(4, .null), (0, .ref (ad 0)), (1, .int x1), (2, .int x2), (3, .int x3)]) hx hb d_A_parts_5 hl (by decide) rfl (fun ls hl => ?_)
    refine lv_aloadN hx hb d_A_parts_7 (lv_at hl 0 rfl) ?_
    refine lv_ifnullN (tgt := 36) hx hb d_A_parts_9 (by decide) ?_
    refine lv_iconst (v := 0) hx hb d_A_parts_36 (by decide) ?_
    have hf : f_parts σ x1 x2 x3 = (σ, 0) := by simp [f_parts, opt_n, opt_s, f2]
    exact W.zret (v := 0) hx hb hr (by decide) (fun t ht _ => ⟨_, rfl, by rw [hf, ht]; exact ⟨rfl, PX_same hw hR⟩, hS.F ht⟩) hS.2.2 d_A_parts_37
  · have fi1 : xi (σ.1 0) (nI i1) = some i1 := xi_nI hi1 (by omega)
    refine W.eq (g2 := F0 m 5 ls [.ref (ad (100 + i1))]) rfl ?_
    refine lv_astore (lv' := [(4, .ref (ad (100 + i1))), (0, .ref (ad 0)), (1, .int (nI i1)), (2, .int x2), (3, .int x3)]) hx hb d_A_parts_5 hl (by decide) rfl (fun ls hl => ?_)
    refine lv_aload hx hb d_A_parts_7 (lv_at hl 0 rfl) ?_
    refine lv_ifnull hx hb d_A_parts_9 ?_
    refine lv_aload hx hb d_A_parts_12 (lv_at hl 0 rfl) ?_
    refine xr_get (ci := 1) (v := .int (bI (σ.2.2.2 2 i1))) (C := R_B) (T := T_B) (N := 9) hx hb htw in_B hown hK hw (100 + i1) (rb i1 hi1) rfl rfl 7 (by decide) (htw _ u_102) (fun _ h9 => h9) rfl d_A_parts_14 ?_
    refine lv_if_ne (tgt := 36) hx hb d_A_parts_17 (by decide) (fun c_3 => ?_) (fun c_3 => ?_)
    · have c_3 : (σ.2.2.2 2 i1) = true := bI_t.mp c_3
      refine lv_iconst (v := 0) hx hb d_A_parts_36 (by decide) ?_
      have hf : f_parts σ (nI i1) x2 x3 = (σ, 0) := by simp [f_parts, opt_n, opt_s, fi1, c_3]
      exact W.zret (v := 0) hx hb hr (by decide) (fun t ht _ => ⟨_, rfl, by rw [hf, ht]; exact ⟨rfl, PX_same hw hR⟩, hS.F ht⟩) hS.2.2 d_A_parts_37
    · have c_3 : (σ.2.2.2 2 i1) = false := bI_f.mp c_3
      refine lv_aload hx hb d_A_parts_20 (lv_at hl 0 rfl) ?_
      refine xr_get (ci := 1) (v := .int (bI (σ.2.2.2 1 i1))) (C := R_B) (T := T_B) (N := 9) hx hb htw in_B hown hK hw (100 + i1) (rb i1 hi1) rfl rfl 6 (by decide) (htw _ u_101) (fun _ h9 => h9) rfl d_A_parts_22 ?_
      refine lv_if_ne (tgt := 36) hx hb d_A_parts_25 (by decide) (fun c_4 => ?_) (fun c_4 => ?_)
      · have c_4 : (σ.2.2.2 1 i1) = true := bI_t.mp c_4
        refine lv_iconst (v := 0) hx hb d_A_parts_36 (by decide) ?_
        have hf : f_parts σ (nI i1) x2 x3 = (σ, 0) := by simp [f_parts, opt_n, opt_s, fi1, c_3, c_4]
        exact W.zret (v := 0) hx hb hr (by decide) (fun t ht _ => ⟨_, rfl, by rw [hf, ht]; exact ⟨rfl, PX_same hw hR⟩, hS.F ht⟩) hS.2.2 d_A_parts_37
      · have c_4 : (σ.2.2.2 1 i1) = false := bI_f.mp c_4
        refine lv_aload hx hb d_A_parts_28 (lv_at hl 0 rfl) ?_
        refine xr_get (ci := 1) (v := .int (bI (σ.2.2.2 0 i1))) (C := R_B) (T := T_B) (N := 9) hx hb htw in_B hown hK hw (100 + i1) (rb i1 hi1) rfl rfl 1 (by decide) (htw _ u_92) (fun _ h9 => h9) rfl d_A_parts_30 ?_
        refine lv_if_eq (tgt := 38) hx hb d_A_parts_33 (by decide) (fun c_5 => ?_) (fun c_5 => ?_)
        · have c_5 : (σ.2.2.2 0 i1) = false := bI_f.mp c_5
          refine lv_iload_n hx hb d_A_parts_38 rfl (lv_at hl 3 rfl) ?_
          refine xr_call (va_runS (As := [.int x2]) (rest := []) ⟨hx, hb, hml, hown, htw⟩ (c_A_isMetal x2) (va_cwS 1 htw (gS u_135 u_136 u_1 u_137) rfl rfl rfl hd_A_isMetal.2 ⟨Nat.le_of_ble_eq_true rfl, Nat.le_of_ble_eq_true rfl⟩) ⟨xP_blind, xP_of hK hN⟩ rfl rfl hl.1 rfl (lv_room (Nat.le_of_ble_eq_true rfl)) d_A_parts_39 ⟨by decide, by decide⟩) hS (fun v H_ locs hp hS => ?_)
          obtain ⟨rfl, hHe⟩ := hp
          rw [hHe] at hS ⊢
          refine W.eq (g2 := F0 m 42 ls [.int (bI (xm x2))]) rfl ?_
          refine lv_if_eq (tgt := 57) hx hb d_A_parts_42 (by decide) (fun c_6 => ?_) (fun c_6 => ?_)
          · have c_6 : (xm x2) = false := bI_f.mp c_6
            have f7 : xi 4 x2 = none := xm_xi c_6
            refine lv_iconst (v := 0) hx hb d_A_parts_57 (by decide) ?_
            have hf : f_parts σ (nI i1) x2 x3 = (σ, 0) := by simp [f_parts, opt_n, opt_s, fi1, f7, c_3, c_4, c_5, c_6]
            exact W.zret (v := 0) hx hb hr (by decide) (fun t ht _ => ⟨_, rfl, by rw [hf, ht]; exact ⟨rfl, PX_same hw hR⟩, hS.F ht⟩) hS.2.2 d_A_parts_58
          · have c_6 : (xm x2) = true := bI_t.mp c_6
            obtain ⟨k8, hk8, rfl⟩ := xm_of c_6
            have xk8 : xi 4 (nI k8) = some k8 := xi_nI hk8 (by decide)
            refine lv_iload_n hx hb d_A_parts_45 rfl (lv_at hl 4 rfl) ?_
            refine lv_i2l hx hb d_A_parts_46 rfl ?_
            refine lv_lconst (v := 0) hx hb d_A_parts_47 (by decide) ?_
            refine lv_ldc2 (v := 1000000) hx hb hown (htw _ u_138) d_A_parts_48 ?_
            refine xr_call (va_runS (As := [.long x3.toInt64, .long 0, .long 1000000]) (rest := []) ⟨hx, hb, hml, hown, htw⟩ (c_A_isWithin x3.toInt64 0 1000000) (va_cwS 3 htw (gS u_77 u_78 u_1 u_79) rfl rfl rfl hd_A_isWithin.2 ⟨Nat.le_of_ble_eq_true rfl, Nat.le_of_ble_eq_true rfl⟩) ⟨xP_blind, xP_of hK hN⟩ rfl rfl hl.1 rfl (lv_room (Nat.le_of_ble_eq_true rfl)) d_A_parts_51 ⟨by decide, by decide⟩) hS (fun v H_ locs hp hS => ?_)
            obtain ⟨rfl, hHe⟩ := hp
            rw [hHe] at hS ⊢
            refine W.eq (g2 := F0 m 54 ls [.int (bI (xin x3.toInt64 0 1000000))]) rfl ?_
            refine lv_if_ne (tgt := 59) hx hb d_A_parts_54 (by decide) (fun c_9 => ?_) (fun c_9 => ?_)
            · have c_9 : (xin x3.toInt64 0 1000000) = true := bI_t.mp c_9
              refine lv_aload hx hb d_A_parts_59 (lv_at hl 0 rfl) ?_
              refine xr_get (ci := 1) (v := .ref (ad (110 + i1))) (C := R_B) (T := T_B) (N := 9) hx hb htw in_B hown hK hw (100 + i1) (rb i1 hi1) rfl rfl 2 (by decide) (htw _ u_94) (fun _ h9 => h9) rfl d_A_parts_61 ?_
              refine lv_iload_n hx hb d_A_parts_64 rfl (lv_at hl 3 rfl) ?_
              refine lv_aload hx hb d_A_parts_65 (lv_at hl 0 rfl) ?_
              refine xr_get (ci := 1) (v := .long (σ.2.2.1 1 i1)) (C := R_B) (T := T_B) (N := 9) hx hb htw in_B hown hK hw (100 + i1) (rb i1 hi1) rfl rfl 5 (by decide) (htw _ u_100) (fun _ h9 => h9) rfl d_A_parts_67 ?_
              refine lv_iload_n hx hb d_A_parts_70 rfl (lv_at hl 4 rfl) ?_
              refine lv_i2l hx hb d_A_parts_71 rfl ?_
              refine lv_lmul hx hb d_A_parts_72 ?_
              refine xr_last (i := nI k8) hx hb hK hw hS (110 + i1) 1 (rba i1 hi1) rfl rfl (xvin (a := k8) rfl (by omega) (by omega)) d_A_parts_73 (fun H locs hw hS => ?_)
              rw [show (nI k8).toNatClampNeg = k8 from xcl (a := k8) rfl (by omega)] at hw
              have hw : xw D vwCl B ad (xu w (110 + i1) (.inl (K 1, 4, .inr (.inl (vp_updL (σ.2.2.1 (10 + i1)) k8 ((σ.2.2.1 1 i1) * x3.toInt64)))))) H := hw
              refine lv_iconst (v := 1) hx hb d_A_parts_74 (by decide) ?_
              have hRep : RepX K (pL σ (10 + i1) (vp_updL (σ.2.2.1 (10 + i1)) k8 (σ.2.2.1 1 i1 * x3.toInt64))) ad (xu w (110 + i1) (.inl (K 1, 4, .inr (.inl (vp_updL (σ.2.2.1 (10 + i1)) k8 ((σ.2.2.1 1 i1) * x3.toInt64)))))) := by
                refine ⟨?_, ?_, ?_, ?_, ?_, ?_, ?_, ?_, ?_, ?_, ?_, ?_, ?_, ?_, ?_⟩
                · simp (disch := omega) only [pN, pI, pL, pZ, row_eq, row_ne, xu_eq, xu_ne, xa_eq, xa_ne, pk_us, pk_un, pk_uLs, pk_uLn, r0]
                · simp (disch := omega) only [pN, pI, pL, pZ, row_eq, row_ne, xu_eq, xu_ne, xa_eq, xa_ne, pk_us, pk_un, pk_uLs, pk_uLn, r1]; try rfl
                · simp (disch := omega) only [pN, pI, pL, pZ, row_eq, row_ne, xu_eq, xu_ne, xa_eq, xa_ne, pk_us, pk_un, pk_uLs, pk_uLn, r2]; try rfl
                · simp (disch := omega) only [pN, pI, pL, pZ, row_eq, row_ne, xu_eq, xu_ne, xa_eq, xa_ne, pk_us, pk_un, pk_uLs, pk_uLn, r3]; try rfl
                · simp (disch := omega) only [pN, pI, pL, pZ, row_eq, row_ne, xu_eq, xu_ne, xa_eq, xa_ne, pk_us, pk_un, pk_uLs, pk_uLn, r4]
                · simp (disch := omega) only [pN, pI, pL, pZ, row_eq, row_ne, xu_eq, xu_ne, xa_eq, xa_ne, pk_us, pk_un, pk_uLs, pk_uLn, r5]
                · simp (disch := omega) only [pN, pI, pL, pZ, row_eq, row_ne, xu_eq, xu_ne, xa_eq, xa_ne, pk_us, pk_un, pk_uLs, pk_uLn, r6]
                · simp (disch := omega) only [pN, pI, pL, pZ, row_eq, row_ne, xu_eq, xu_ne, xa_eq, xa_ne, pk_us, pk_un, pk_uLs, pk_uLn, r7]
                · intro jj hj
                  have hj : jj < σ.1 0 := by first | exact hj | simpa (disch := omega) only [pN, pI, pL, pZ, row_eq, row_ne, xu_eq, xu_ne, xa_eq, xa_ne, pk_us, pk_un, pk_uLs, pk_uLn] using hj
                  simp (disch := omega) only [pN, pI, pL, pZ, row_eq, row_ne, xu_eq, xu_ne, xa_eq, xa_ne, pk_us, pk_un, pk_uLs, pk_uLn, rb jj hj]
                · intro jj hj
                  have hj : jj < σ.1 0 := by first | exact hj | simpa (disch := omega) only [pN, pI, pL, pZ, row_eq, row_ne, xu_eq, xu_ne, xa_eq, xa_ne, pk_us, pk_un, pk_uLs, pk_uLn] using hj
                  by_cases ej : jj = i1
                  · rw [ej]; simp (disch := omega) only [pN, pI, pL, pZ, row_eq, row_ne, xu_eq, xu_ne, xa_eq, xa_ne, pk_us, pk_un, pk_uLs, pk_uLn, rba i1 (by omega)]
                  · simp (disch := omega) only [pN, pI, pL, pZ, row_eq, row_ne, xu_eq, xu_ne, xa_eq, xa_ne, pk_us, pk_un, pk_uLs, pk_uLn, rba jj (by omega)]
                · intro jj hj
                  have hj : jj < σ.1 0 := by first | exact hj | simpa (disch := omega) only [pN, pI, pL, pZ, row_eq, row_ne, xu_eq, xu_ne, xa_eq, xa_ne, pk_us, pk_un, pk_uLs, pk_uLn] using hj
                  simp (disch := omega) only [pN, pI, pL, pZ, row_eq, row_ne, xu_eq, xu_ne, xa_eq, xa_ne, pk_us, pk_un, pk_uLs, pk_uLn, rbt jj hj]
                · intro jj hj
                  have hj : jj < σ.1 0 := by first | exact hj | simpa (disch := omega) only [pN, pI, pL, pZ, row_eq, row_ne, xu_eq, xu_ne, xa_eq, xa_ne, pk_us, pk_un, pk_uLs, pk_uLn] using hj
                  simp (disch := omega) only [pN, pI, pL, pZ, row_eq, row_ne, xu_eq, xu_ne, xa_eq, xa_ne, pk_us, pk_un, pk_uLs, pk_uLn, rbo jj hj]
                · intro jj hj
                  have hj : jj < σ.1 1 := by first | exact hj | simpa (disch := omega) only [pN, pI, pL, pZ, row_eq, row_ne, xu_eq, xu_ne, xa_eq, xa_ne, pk_us, pk_un, pk_uLs, pk_uLn] using hj
                  simp (disch := omega) only [pN, pI, pL, pZ, row_eq, row_ne, xu_eq, xu_ne, xa_eq, xa_ne, pk_us, pk_un, pk_uLs, pk_uLn, rs jj hj]
                · intro jj hj
                  have hj : jj < σ.1 1 := by first | exact hj | simpa (disch := omega) only [pN, pI, pL, pZ, row_eq, row_ne, xu_eq, xu_ne, xa_eq, xa_ne, pk_us, pk_un, pk_uLs, pk_uLn] using hj
                  simp (disch := omega) only [pN, pI, pL, pZ, row_eq, row_ne, xu_eq, xu_ne, xa_eq, xa_ne, pk_us, pk_un, pk_uLs, pk_uLn, rss jj hj]
                · intro jj hj
                  have hj : jj < σ.1 2 := by first | exact hj | simpa (disch := omega) only [pN, pI, pL, pZ, row_eq, row_ne, xu_eq, xu_ne, xa_eq, xa_ne, pk_us, pk_un, pk_uLs, pk_uLn] using hj
                  simp (disch := omega) only [pN, pI, pL, pZ, row_eq, row_ne, xu_eq, xu_ne, xa_eq, xa_ne, pk_us, pk_un, pk_uLs, pk_uLn, rr jj hj]
              have hf : f_parts σ (nI i1) (nI k8) x3 = (pL σ (10 + i1) (vp_updL (σ.2.2.1 (10 + i1)) k8 (σ.2.2.1 1 i1 * x3.toInt64)), 1) := by simp [f_parts, opt_n, opt_s, fi1, xk8, c_3, c_4, c_5, c_6, c_9]
              exact W.zret (v := 1) hx hb hr (by decide) (fun t ht _ => ⟨_, rfl, by rw [hf, ht]; exact ⟨rfl, _, _, hw, hRep, rfl, fun t h2 => ⟨by simp (disch := omega) only [xu_ne, xa_ne], rfl⟩⟩, hS.F ht⟩) hS.2.2 d_A_parts_75
            · have c_9 : (xin x3.toInt64 0 1000000) = false := bI_f.mp c_9
              refine lv_iconst (v := 0) hx hb d_A_parts_57 (by decide) ?_
              have hf : f_parts σ (nI i1) (nI k8) x3 = (σ, 0) := by simp [f_parts, opt_n, opt_s, fi1, xk8, c_3, c_4, c_5, c_6, c_9]
              exact W.zret (v := 0) hx hb hr (by decide) (fun t ht _ => ⟨_, rfl, by rw [hf, ht]; exact ⟨rfl, PX_same hw hR⟩, hS.F ht⟩) hS.2.2 d_A_parts_58
        · have c_5 : (σ.2.2.2 0 i1) = true := bI_t.mp c_5
          refine lv_iconst (v := 0) hx hb d_A_parts_36 (by decide) ?_
          have hf : f_parts σ (nI i1) x2 x3 = (σ, 0) := by simp [f_parts, opt_n, opt_s, fi1, c_3, c_4, c_5]
          exact W.zret (v := 0) hx hb hr (by decide) (fun t ht _ => ⟨_, rfl, by rw [hf, ht]; exact ⟨rfl, PX_same hw hR⟩, hS.F ht⟩) hS.2.2 d_A_parts_37
set_option maxHeartbeats 4000000 in
set_option maxRecDepth 100000 in
theorem c_A_assay {l : Launch} {D : va_G} {K : Nat → ClassId} {B : Nat} {ad : Nat → Nat} {w : Nat → Option va_E} {H : Heap} {σ : xS} (hR : RepX K σ ad w) (hI : Inv σ) (hw : xw D vwCl B ad w H) (x1 x2 x3 x4 : Int32) : xC l D K B y_A_assay b_A_assay 6 (some .boolean) rm_A_assay [.ref (ad 0), .int x1, .int x2, .int x3, .int x4] H (fun v H1 => v = some (.int (f_assay σ x1 x2 x3 x4).2) ∧ PX D K B ad w (f_assay σ x1 x2 x3 x4).1 H1) := by
  refine Met.ofW (cc := b_A_assay) (maxL := 6) (ret := (some .boolean)) (by decide) rfl ?_
  intro p e s m args below meth c s₁ B0 hml hv
  obtain ⟨rfl, hsz, hK, hN⟩ := hv
  have hx := B0.exec
  have hb := B0.bytes
  have hr := B0.returns
  have htw : ∀ w ∈ xW0, w.before [.ref (ad 0), .int x1, .int x2, .int x3, .int x4].toArray s = true := fun w h => atoms_spec (ws := Cond.code y_A_assay b_A_assay 6 (some .boolean) :: xW0) B0.pre w (List.mem_cons_of_mem _ h)
  have hown : s.vm.findClass R_A = some m.cls := findClass_of_methodNamed B0.named
  have hlocks := B0.notSynchronized
  subst hsz
  have hS : va_S (fun q => B ≤ q) s.heap s.heap [] := va_S.rf
  have hl := lv_entry ([.ref (ad 0), .int x1, .int x2, .int x3, .int x4]) (n := 6) (Nat.le_of_ble_eq_true rfl)
  rw [lg_entry_eq]
  generalize (lg_sl ([.ref (ad 0), .int x1, .int x2, .int x3, .int x4]) ++ List.replicate (6 - (lg_sl ([.ref (ad 0), .int x1, .int x2, .int x3, .int x4])).length) Slot.unset).toArray = ls at hl ⊢
  have hl : lv_has ls 6 [(0, .ref (ad 0)), (1, .int x1), (2, .int x2), (3, .int x3), (4, .int x4)] := hl
  have hH : s.heap = s.heap := rfl
  obtain ⟨r0, r1, r2, r3, r4, r5, r6, r7, rb, rba, rbt, rbo, rs, rss, rr⟩ := id hR
  obtain ⟨hnb, hns, hnr, hpc, hst, hto, htl, hrm, hpa, hwt, hdf, hds⟩ := id hI
  refine lv_aload_n hx hb d_A_assay_0 rfl (lv_at hl 0 rfl) ?_
  refine lv_iload_n hx hb d_A_assay_1 rfl (lv_at hl 1 rfl) ?_
  refine xr_call (va_runV (As := [.int x1]) (rest := []) ⟨hx, hb, hml, hown, htw⟩ (c_A_batchAt (ad := ad) hR hnb hns hw x1) (cwV 1 htw (gV u_131 u_133 us_1 u_1 u_134) rfl rfl rfl hd_A_batchAt ⟨Nat.le_of_ble_eq_true rfl, Nat.le_of_ble_eq_true rfl⟩) ⟨xP_blind, hw.recv hK (ci := 0) (t := 0) rfl r0 rfl, xP_of hK hN⟩ rfl rfl hl.1 rfl (lv_room (Nat.le_of_ble_eq_true rfl)) d_A_assay_2 ⟨by decide, by decide⟩) hS (fun v H_ locs hp hS => ?_)
  obtain ⟨hHe, hp⟩ := hp
  rw [hHe] at hS ⊢
  rcases hp with ⟨f2, rfl⟩ | ⟨i1, hi1, rfl, rfl⟩
  · refine W.eq (g2 := F0 m 5 ls [.null]) rfl ?_
    refine lv_astoreN (lv' := [(5, .null), (0, .ref (ad 0)), (1, .int x1), (2, .int x2), (3, .int x3), (4, .int x4)]) hx hb d_A_assay_5 hl (by decide) rfl (fun ls hl => ?_)
    refine lv_aloadN hx hb d_A_assay_7 (lv_at hl 0 rfl) ?_
    refine lv_ifnullN (tgt := 27) hx hb d_A_assay_9 (by decide) ?_
    refine lv_iconst (v := 0) hx hb d_A_assay_27 (by decide) ?_
    have hf : f_assay σ x1 x2 x3 x4 = (σ, 0) := by simp [f_assay, opt_n, opt_s, f2]
    exact W.zret (v := 0) hx hb hr (by decide) (fun t ht _ => ⟨_, rfl, by rw [hf, ht]; exact ⟨rfl, PX_same hw hR⟩, hS.F ht⟩) hS.2.2 d_A_assay_28
  · have fi1 : xi (σ.1 0) (nI i1) = some i1 := xi_nI hi1 (by omega)
    refine W.eq (g2 := F0 m 5 ls [.ref (ad (100 + i1))]) rfl ?_
    refine lv_astore (lv' := [(5, .ref (ad (100 + i1))), (0, .ref (ad 0)), (1, .int (nI i1)), (2, .int x2), (3, .int x3), (4, .int x4)]) hx hb d_A_assay_5 hl (by decide) rfl (fun ls hl => ?_)
    refine lv_aload hx hb d_A_assay_7 (lv_at hl 0 rfl) ?_
    refine lv_ifnull hx hb d_A_assay_9 ?_
    refine lv_aload hx hb d_A_assay_12 (lv_at hl 0 rfl) ?_
    refine xr_get (ci := 1) (v := .int (bI (σ.2.2.2 2 i1))) (C := R_B) (T := T_B) (N := 9) hx hb htw in_B hown hK hw (100 + i1) (rb i1 hi1) rfl rfl 7 (by decide) (htw _ u_102) (fun _ h9 => h9) rfl d_A_assay_14 ?_
    refine lv_if_ne (tgt := 27) hx hb d_A_assay_17 (by decide) (fun c_3 => ?_) (fun c_3 => ?_)
    · have c_3 : (σ.2.2.2 2 i1) = true := bI_t.mp c_3
      refine lv_iconst (v := 0) hx hb d_A_assay_27 (by decide) ?_
      have hf : f_assay σ (nI i1) x2 x3 x4 = (σ, 0) := by simp [f_assay, opt_n, opt_s, fi1, c_3]
      exact W.zret (v := 0) hx hb hr (by decide) (fun t ht _ => ⟨_, rfl, by rw [hf, ht]; exact ⟨rfl, PX_same hw hR⟩, hS.F ht⟩) hS.2.2 d_A_assay_28
    · have c_3 : (σ.2.2.2 2 i1) = false := bI_f.mp c_3
      refine lv_iload_n hx hb d_A_assay_20 rfl (lv_at hl 4 rfl) ?_
      refine xr_call (va_runS (As := [.int x3]) (rest := []) ⟨hx, hb, hml, hown, htw⟩ (c_A_isMetal x3) (va_cwS 1 htw (gS u_135 u_136 u_1 u_137) rfl rfl rfl hd_A_isMetal.2 ⟨Nat.le_of_ble_eq_true rfl, Nat.le_of_ble_eq_true rfl⟩) ⟨xP_blind, xP_of hK hN⟩ rfl rfl hl.1 rfl (lv_room (Nat.le_of_ble_eq_true rfl)) d_A_assay_21 ⟨by decide, by decide⟩) hS (fun v H_ locs hp hS => ?_)
      obtain ⟨rfl, hHe⟩ := hp
      rw [hHe] at hS ⊢
      refine W.eq (g2 := F0 m 24 ls [.int (bI (xm x3))]) rfl ?_
      refine lv_if_ne (tgt := 29) hx hb d_A_assay_24 (by decide) (fun c_4 => ?_) (fun c_4 => ?_)
      · have c_4 : (xm x3) = true := bI_t.mp c_4
        obtain ⟨k5, hk5, rfl⟩ := xm_of c_4
        have xk5 : xi 4 (nI k5) = some k5 := xi_nI hk5 (by decide)
        refine lv_iload_n hx hb d_A_assay_29 rfl (lv_at hl 3 rfl) ?_
        refine lv_i2l hx hb d_A_assay_30 rfl ?_
        refine lv_lconst (v := 0) hx hb d_A_assay_31 (by decide) ?_
        refine lv_ldc2 (v := 2) hx hb hown (htw _ u_245) d_A_assay_32 ?_
        refine xr_call (va_runS (As := [.long x2.toInt64, .long 0, .long 2]) (rest := []) ⟨hx, hb, hml, hown, htw⟩ (c_A_isWithin x2.toInt64 0 2) (va_cwS 3 htw (gS u_77 u_78 u_1 u_79) rfl rfl rfl hd_A_isWithin.2 ⟨Nat.le_of_ble_eq_true rfl, Nat.le_of_ble_eq_true rfl⟩) ⟨xP_blind, xP_of hK hN⟩ rfl rfl hl.1 rfl (lv_room (Nat.le_of_ble_eq_true rfl)) d_A_assay_35 ⟨by decide, by decide⟩) hS (fun v H_ locs hp hS => ?_)
        obtain ⟨rfl, hHe⟩ := hp
        rw [hHe] at hS ⊢
        refine W.eq (g2 := F0 m 38 ls [.int (bI (xin x2.toInt64 0 2))]) rfl ?_
        refine lv_if_eq (tgt := 54) hx hb d_A_assay_38 (by decide) (fun c_6 => ?_) (fun c_6 => ?_)
        · have c_6 : (xin x2.toInt64 0 2) = false := bI_f.mp c_6
          have f7 : xi 3 x2 = none := xin_xi c_6
          refine lv_iconst (v := 0) hx hb d_A_assay_54 (by decide) ?_
          have hf : f_assay σ (nI i1) x2 (nI k5) x4 = (σ, 0) := by simp [f_assay, opt_n, opt_s, fi1, xk5, f7, c_3, c_4, c_6]
          exact W.zret (v := 0) hx hb hr (by decide) (fun t ht _ => ⟨_, rfl, by rw [hf, ht]; exact ⟨rfl, PX_same hw hR⟩, hS.F ht⟩) hS.2.2 d_A_assay_55
        · have c_6 : (xin x2.toInt64 0 2) = true := bI_t.mp c_6
          obtain ⟨j8, hj8, rfl⟩ := xin_of c_6
          have xj8 : xi 3 (nI j8) = some j8 := xi_nI hj8 (by decide)
          refine lv_iload hx hb d_A_assay_41 (lv_at hl 5 rfl) ?_
          refine lv_i2l hx hb d_A_assay_43 rfl ?_
          refine lv_lconst (v := 0) hx hb d_A_assay_44 (by decide) ?_
          refine lv_ldc2 (v := 1000000) hx hb hown (htw _ u_138) d_A_assay_45 ?_
          refine xr_call (va_runS (As := [.long x4.toInt64, .long 0, .long 1000000]) (rest := []) ⟨hx, hb, hml, hown, htw⟩ (c_A_isWithin x4.toInt64 0 1000000) (va_cwS 3 htw (gS u_77 u_78 u_1 u_79) rfl rfl rfl hd_A_isWithin.2 ⟨Nat.le_of_ble_eq_true rfl, Nat.le_of_ble_eq_true rfl⟩) ⟨xP_blind, xP_of hK hN⟩ rfl rfl hl.1 rfl (lv_room (Nat.le_of_ble_eq_true rfl)) d_A_assay_48 ⟨by decide, by decide⟩) hS (fun v H_ locs hp hS => ?_)
          obtain ⟨rfl, hHe⟩ := hp
          rw [hHe] at hS ⊢
          refine W.eq (g2 := F0 m 51 ls [.int (bI (xin x4.toInt64 0 1000000))]) rfl ?_
          refine lv_if_ne (tgt := 56) hx hb d_A_assay_51 (by decide) (fun c_9 => ?_) (fun c_9 => ?_)
          · have c_9 : (xin x4.toInt64 0 1000000) = true := bI_t.mp c_9
            refine lv_aload hx hb d_A_assay_56 (lv_at hl 0 rfl) ?_
            refine xr_get (ci := 1) (v := .ref (ad (130 + i1))) (C := R_B) (T := T_B) (N := 9) hx hb htw in_B hown hK hw (100 + i1) (rb i1 hi1) rfl rfl 4 (by decide) (htw _ u_98) (fun _ h9 => h9) rfl d_A_assay_58 ?_
            refine lv_iload_n hx hb d_A_assay_61 rfl (lv_at hl 4 rfl) ?_
            refine lv_iconst (v := 3) hx hb d_A_assay_62 (by decide) ?_
            refine lv_imul hx hb d_A_assay_63 ?_
            refine lv_iload_n hx hb d_A_assay_64 rfl (lv_at hl 3 rfl) ?_
            refine lv_iadd hx hb d_A_assay_65 ?_
            refine lv_iload hx hb d_A_assay_66 (lv_at hl 5 rfl) ?_
            refine xr_iast (i := ((nI k5) * 3) + (nI j8)) hx hb hK hw hS (130 + i1) 0 (rbo i1 hi1) rfl rfl (xvin (a := (k5 * 3) + j8) (xadd (a := k5 * 3) (b := j8) (xmul (a := k5) (b := 3) rfl rfl) rfl) (by omega) (by omega)) d_A_assay_68 (fun H locs hw hS => ?_)
            rw [show (((nI k5) * 3) + (nI j8)).toNatClampNeg = (k5 * 3) + j8 from xcl (a := (k5 * 3) + j8) (xadd (a := k5 * 3) (b := j8) (xmul (a := k5) (b := 3) rfl rfl) rfl) (by omega)] at hw
            have hw : xw D vwCl B ad (xu w (130 + i1) (.inl (K 0, 12, .inl (upd (σ.2.1 (20 + i1)) ((k5 * 3) + j8) x4)))) H := hw
            refine lv_iconst (v := 1) hx hb d_A_assay_69 (by decide) ?_
            have hRep : RepX K (pI σ (20 + i1) (upd (σ.2.1 (20 + i1)) (k5 * 3 + j8) x4)) ad (xu w (130 + i1) (.inl (K 0, 12, .inl (upd (σ.2.1 (20 + i1)) ((k5 * 3) + j8) x4)))) := by
              refine ⟨?_, ?_, ?_, ?_, ?_, ?_, ?_, ?_, ?_, ?_, ?_, ?_, ?_, ?_, ?_⟩
              · simp (disch := omega) only [pN, pI, pL, pZ, row_eq, row_ne, xu_eq, xu_ne, xa_eq, xa_ne, pk_us, pk_un, pk_uLs, pk_uLn, r0]
              · simp (disch := omega) only [pN, pI, pL, pZ, row_eq, row_ne, xu_eq, xu_ne, xa_eq, xa_ne, pk_us, pk_un, pk_uLs, pk_uLn, r1]; try rfl
              · simp (disch := omega) only [pN, pI, pL, pZ, row_eq, row_ne, xu_eq, xu_ne, xa_eq, xa_ne, pk_us, pk_un, pk_uLs, pk_uLn, r2]; try rfl
              · simp (disch := omega) only [pN, pI, pL, pZ, row_eq, row_ne, xu_eq, xu_ne, xa_eq, xa_ne, pk_us, pk_un, pk_uLs, pk_uLn, r3]; try rfl
              · simp (disch := omega) only [pN, pI, pL, pZ, row_eq, row_ne, xu_eq, xu_ne, xa_eq, xa_ne, pk_us, pk_un, pk_uLs, pk_uLn, r4]
              · simp (disch := omega) only [pN, pI, pL, pZ, row_eq, row_ne, xu_eq, xu_ne, xa_eq, xa_ne, pk_us, pk_un, pk_uLs, pk_uLn, r5]
              · simp (disch := omega) only [pN, pI, pL, pZ, row_eq, row_ne, xu_eq, xu_ne, xa_eq, xa_ne, pk_us, pk_un, pk_uLs, pk_uLn, r6]
              · simp (disch := omega) only [pN, pI, pL, pZ, row_eq, row_ne, xu_eq, xu_ne, xa_eq, xa_ne, pk_us, pk_un, pk_uLs, pk_uLn, r7]
              · intro jj hj
                have hj : jj < σ.1 0 := by first | exact hj | simpa (disch := omega) only [pN, pI, pL, pZ, row_eq, row_ne, xu_eq, xu_ne, xa_eq, xa_ne, pk_us, pk_un, pk_uLs, pk_uLn] using hj
                simp (disch := omega) only [pN, pI, pL, pZ, row_eq, row_ne, xu_eq, xu_ne, xa_eq, xa_ne, pk_us, pk_un, pk_uLs, pk_uLn, rb jj hj]
              · intro jj hj
                have hj : jj < σ.1 0 := by first | exact hj | simpa (disch := omega) only [pN, pI, pL, pZ, row_eq, row_ne, xu_eq, xu_ne, xa_eq, xa_ne, pk_us, pk_un, pk_uLs, pk_uLn] using hj
                simp (disch := omega) only [pN, pI, pL, pZ, row_eq, row_ne, xu_eq, xu_ne, xa_eq, xa_ne, pk_us, pk_un, pk_uLs, pk_uLn, rba jj hj]
              · intro jj hj
                have hj : jj < σ.1 0 := by first | exact hj | simpa (disch := omega) only [pN, pI, pL, pZ, row_eq, row_ne, xu_eq, xu_ne, xa_eq, xa_ne, pk_us, pk_un, pk_uLs, pk_uLn] using hj
                simp (disch := omega) only [pN, pI, pL, pZ, row_eq, row_ne, xu_eq, xu_ne, xa_eq, xa_ne, pk_us, pk_un, pk_uLs, pk_uLn, rbt jj hj]
              · intro jj hj
                have hj : jj < σ.1 0 := by first | exact hj | simpa (disch := omega) only [pN, pI, pL, pZ, row_eq, row_ne, xu_eq, xu_ne, xa_eq, xa_ne, pk_us, pk_un, pk_uLs, pk_uLn] using hj
                by_cases ej : jj = i1
                · rw [ej]; simp (disch := omega) only [pN, pI, pL, pZ, row_eq, row_ne, xu_eq, xu_ne, xa_eq, xa_ne, pk_us, pk_un, pk_uLs, pk_uLn, rbo i1 (by omega)]
                · simp (disch := omega) only [pN, pI, pL, pZ, row_eq, row_ne, xu_eq, xu_ne, xa_eq, xa_ne, pk_us, pk_un, pk_uLs, pk_uLn, rbo jj (by omega)]
              · intro jj hj
                have hj : jj < σ.1 1 := by first | exact hj | simpa (disch := omega) only [pN, pI, pL, pZ, row_eq, row_ne, xu_eq, xu_ne, xa_eq, xa_ne, pk_us, pk_un, pk_uLs, pk_uLn] using hj
                simp (disch := omega) only [pN, pI, pL, pZ, row_eq, row_ne, xu_eq, xu_ne, xa_eq, xa_ne, pk_us, pk_un, pk_uLs, pk_uLn, rs jj hj]
              · intro jj hj
                have hj : jj < σ.1 1 := by first | exact hj | simpa (disch := omega) only [pN, pI, pL, pZ, row_eq, row_ne, xu_eq, xu_ne, xa_eq, xa_ne, pk_us, pk_un, pk_uLs, pk_uLn] using hj
                simp (disch := omega) only [pN, pI, pL, pZ, row_eq, row_ne, xu_eq, xu_ne, xa_eq, xa_ne, pk_us, pk_un, pk_uLs, pk_uLn, rss jj hj]
              · intro jj hj
                have hj : jj < σ.1 2 := by first | exact hj | simpa (disch := omega) only [pN, pI, pL, pZ, row_eq, row_ne, xu_eq, xu_ne, xa_eq, xa_ne, pk_us, pk_un, pk_uLs, pk_uLn] using hj
                simp (disch := omega) only [pN, pI, pL, pZ, row_eq, row_ne, xu_eq, xu_ne, xa_eq, xa_ne, pk_us, pk_un, pk_uLs, pk_uLn, rr jj hj]
            have hf : f_assay σ (nI i1) (nI j8) (nI k5) x4 = (pI σ (20 + i1) (upd (σ.2.1 (20 + i1)) (k5 * 3 + j8) x4), 1) := by simp [f_assay, opt_n, opt_s, fi1, xk5, xj8, c_3, c_4, c_6, c_9]
            exact W.zret (v := 1) hx hb hr (by decide) (fun t ht _ => ⟨_, rfl, by rw [hf, ht]; exact ⟨rfl, _, _, hw, hRep, rfl, fun t h2 => ⟨by simp (disch := omega) only [xu_ne, xa_ne], rfl⟩⟩, hS.F ht⟩) hS.2.2 d_A_assay_70
          · have c_9 : (xin x4.toInt64 0 1000000) = false := bI_f.mp c_9
            refine lv_iconst (v := 0) hx hb d_A_assay_54 (by decide) ?_
            have hf : f_assay σ (nI i1) (nI j8) (nI k5) x4 = (σ, 0) := by simp [f_assay, opt_n, opt_s, fi1, xk5, xj8, c_3, c_4, c_6, c_9]
            exact W.zret (v := 0) hx hb hr (by decide) (fun t ht _ => ⟨_, rfl, by rw [hf, ht]; exact ⟨rfl, PX_same hw hR⟩, hS.F ht⟩) hS.2.2 d_A_assay_55
      · have c_4 : (xm x3) = false := bI_f.mp c_4
        have f10 : xi 4 x3 = none := xm_xi c_4
        refine lv_iconst (v := 0) hx hb d_A_assay_27 (by decide) ?_
        have hf : f_assay σ (nI i1) x2 x3 x4 = (σ, 0) := by simp [f_assay, opt_n, opt_s, fi1, f10, c_3, c_4]
        exact W.zret (v := 0) hx hb hr (by decide) (fun t ht _ => ⟨_, rfl, by rw [hf, ht]; exact ⟨rfl, PX_same hw hR⟩, hS.F ht⟩) hS.2.2 d_A_assay_28
set_option maxHeartbeats 4000000 in
set_option maxRecDepth 100000 in
theorem c_P_append {l : Launch} {D : va_G} {K : Nat → ClassId} {B : Nat} {ad : Nat → Nat} {w : Nat → Option va_E} {H : Heap} {σ : xS} (hR : RepX K σ ad w) (hI : Inv σ) (hw : xw D vwCl B ad w H) (k : Nat) (hk : k < 4) (d : Int32) (u : Int64) : xC l D K B y_P_append b_P_append 7 (some .boolean) rm_P_append [.ref (ad 4), .int (nI k), .int d, .long u] H (fun v H1 => v = some (.int (f_append σ k d u).2) ∧ PX D K B ad w (f_append σ k d u).1 H1) := by
  refine Met.ofW (cc := b_P_append) (maxL := 7) (ret := (some .boolean)) (by decide) rfl ?_
  intro p e s m args below meth c s₁ B0 hml hv
  obtain ⟨rfl, hsz, hK, hN⟩ := hv
  have hx := B0.exec
  have hb := B0.bytes
  have hr := B0.returns
  have htw : ∀ w ∈ xW0, w.before [.ref (ad 4), .int (nI k), .int d, .long u].toArray s = true := fun w h => atoms_spec (ws := Cond.code y_P_append b_P_append 7 (some .boolean) :: xW0) B0.pre w (List.mem_cons_of_mem _ h)
  have hown : s.vm.findClass R_P = some m.cls := findClass_of_methodNamed B0.named
  have hlocks := B0.notSynchronized
  subst hsz
  have hS : va_S (fun q => B ≤ q) s.heap s.heap [] := va_S.rf
  have hl := lv_entry ([.ref (ad 4), .int (nI k), .int d, .long u]) (n := 7) (Nat.le_of_ble_eq_true rfl)
  rw [lg_entry_eq]
  generalize (lg_sl ([.ref (ad 4), .int (nI k), .int d, .long u]) ++ List.replicate (7 - (lg_sl ([.ref (ad 4), .int (nI k), .int d, .long u])).length) Slot.unset).toArray = ls at hl ⊢
  have hl : lv_has ls 7 [(0, .ref (ad 4)), (1, .int (nI k)), (2, .int d), (3, .long u)] := hl
  have hH : s.heap = s.heap := rfl
  obtain ⟨r0, r1, r2, r3, r4, r5, r6, r7, rb, rba, rbt, rbo, rs, rss, rr⟩ := id hR
  obtain ⟨hnb, hns, hnr, hpc, hst, hto, htl, hrm, hpa, hwt, hdf, hds⟩ := id hI
  have hck := hpc k hk
  refine lv_aload_n hx hb d_P_append_0 rfl (lv_at hl 0 rfl) ?_
  refine lv_iload_n hx hb d_P_append_1 rfl (lv_at hl 1 rfl) ?_
  refine xr_call (va_runV (As := [.int (nI k)]) (rest := []) ⟨hx, hb, hml, hown, htw⟩ (c_P_countOf (ad := ad) hR hI hw k (by omega)) (cwV 1 htw (gV u_212 u_214 us_4 u_2 u_215) rfl rfl rfl hd_P_countOf ⟨Nat.le_of_ble_eq_true rfl, Nat.le_of_ble_eq_true rfl⟩) ⟨xP_blind, hw.recv hK (ci := 4) (t := 4) rfl r4 rfl, xP_of hK hN⟩ rfl rfl hl.1 rfl (lv_room (Nat.le_of_ble_eq_true rfl)) d_P_append_2 ⟨by decide, by decide⟩) hS (fun v H_ locs hp hS => ?_)
  obtain ⟨rfl, hHe⟩ := hp
  rw [hHe] at hS ⊢
  refine W.eq (g2 := F0 m 5 ls [.int (nI (σ.1 (11 + 2 * k)))]) rfl ?_
  refine lv_istore (lv' := [(5, .int (nI (σ.1 (11 + 2 * k)))), (0, .ref (ad 4)), (1, .int (nI k)), (2, .int d), (3, .long u)]) hx hb d_P_append_5 hl (by decide) rfl (fun ls hl => ?_)
  refine lv_iload_n hx hb d_P_append_7 rfl (lv_at hl 2 rfl) ?_
  refine xr_call (va_runSN (As := [.int (nI k)]) (rest := []) ⟨hx, hb, hml, hown, htw⟩ (c_A_isMetal (nI k)) ⟨va_cnB 1 htw (gC u_137) rfl rfl rfl (hN (.methodLinkNest R_P 26 y_A_isMetal R_A) (by decide +kernel)).1 (htw _ u_1) hd_A_isMetal.2 ⟨Nat.le_of_ble_eq_true rfl, Nat.le_of_ble_eq_true rfl⟩, htw _ u_136, trivial⟩ ⟨xP_blind, xP_of hK hN⟩ rfl rfl hl.1 rfl (lv_room (Nat.le_of_ble_eq_true rfl)) d_P_append_8 ⟨by decide, by decide⟩) hS (fun v H_ locs hp hS => ?_)
  obtain ⟨rfl, hHe⟩ := hp
  rw [hHe] at hS ⊢
  refine W.eq (g2 := F0 m 11 ls [.int (bI (xm (nI k)))]) rfl ?_
  refine lv_if_eq (tgt := 21) hx hb d_P_append_11 (by decide) (fun c_1 => absurd c_1 (by rw [xm_nI hk]; decide)) (fun c_1 => ?_)
  have c_1 : (xm (nI k)) = true := bI_t.mp c_1
  refine lv_iload hx hb d_P_append_14 (lv_at hl 0 rfl) ?_
  refine lv_bipush (v := 6) hx hb d_P_append_16 (by decide) ?_
  refine lv_icmp_lt (tgt := 23) hx hb d_P_append_18 (by decide) (fun c_2 => ?_) (fun c_2 => ?_)
  · have c_2 : (σ.1 (11 + 2 * k)) < 6 := (nLT (a := σ.1 (11 + 2 * k)) (b := 6) (by omega) (by omega)).mp c_2
    refine lv_iload_n hx hb d_P_append_23 rfl (lv_at hl 2 rfl) ?_
    refine lv_bipush (v := 6) hx hb d_P_append_24 (by decide) ?_
    refine lv_imul hx hb d_P_append_26 ?_
    refine lv_iload hx hb d_P_append_27 (lv_at hl 0 rfl) ?_
    refine lv_iadd hx hb d_P_append_29 ?_
    refine lv_istore (lv' := [(6, .int (((nI k) * 6) + (nI (σ.1 (11 + 2 * k))))), (5, .int (nI (σ.1 (11 + 2 * k)))), (0, .ref (ad 4)), (1, .int (nI k)), (2, .int d), (3, .long u)]) hx hb d_P_append_30 hl (by decide) rfl (fun ls hl => ?_)
    refine lv_iload hx hb d_P_append_32 (lv_at hl 1 rfl) ?_
    refine lv_if_le (tgt := 52) hx hb d_P_append_34 (by decide) (fun c_3 => ?_) (fun c_3 => ?_)
    · have c_3 : σ.1 (11 + 2 * k) ≤ 0 := (nLE (a := σ.1 (11 + 2 * k)) (b := 0) (by omega) (by omega)).mp c_3
      refine lv_aload_n hx hb d_P_append_52 rfl (lv_at hl 2 rfl) ?_
      refine xr_get (ci := 4) (v := .ref (ad 6)) (C := R_P) (T := T_P) (N := 3) hx hb htw in_P hown hK hw 4 r4 rfl rfl 1 (by decide) (htw _ u_30) (fun _ h9 => h9) rfl d_P_append_53 ?_
      refine lv_iload hx hb d_P_append_56 (lv_at hl 0 rfl) ?_
      refine lv_iload_n hx hb d_P_append_58 rfl (lv_at hl 4 rfl) ?_
      refine xr_iast (i := ((nI k) * 6) + (nI (σ.1 (11 + 2 * k)))) hx hb hK hw hS 6 0 r6 rfl rfl (xvin (a := (k * 6) + (σ.1 (11 + 2 * k))) (xadd (a := k * 6) (b := σ.1 (11 + 2 * k)) (xmul (a := k) (b := 6) rfl rfl) rfl) (by omega) (by omega)) d_P_append_59 (fun H locs hw hS => ?_)
      rw [show (((nI k) * 6) + (nI (σ.1 (11 + 2 * k)))).toNatClampNeg = (k * 6) + (σ.1 (11 + 2 * k)) from xcl (a := (k * 6) + (σ.1 (11 + 2 * k))) (xadd (a := k * 6) (b := σ.1 (11 + 2 * k)) (xmul (a := k) (b := 6) rfl rfl) rfl) (by omega)] at hw
      have hw : xw D vwCl B ad (xu w 6 (.inl (K 0, 24, .inl (upd (σ.2.1 40) ((k * 6) + (σ.1 (11 + 2 * k))) d)))) H := hw
      refine lv_aload_n hx hb d_P_append_60 rfl (lv_at hl 2 rfl) ?_
      refine xr_get (ci := 4) (v := .ref (ad 7)) (C := R_P) (T := T_P) (N := 3) hx hb htw in_P hown hK hw 4 ((xu_ne (by omega)).trans (r4)) rfl rfl 2 (by decide) (htw _ u_31) (fun _ h9 => h9) rfl d_P_append_61 ?_
      refine lv_iload hx hb d_P_append_64 (lv_at hl 0 rfl) ?_
      refine lv_lload_n hx hb d_P_append_66 rfl (lv_at hl 5 rfl) ?_
      refine xr_last (i := ((nI k) * 6) + (nI (σ.1 (11 + 2 * k)))) hx hb hK hw hS 7 1 ((xu_ne (by omega)).trans (r7)) rfl rfl (xvin (a := (k * 6) + (σ.1 (11 + 2 * k))) (xadd (a := k * 6) (b := σ.1 (11 + 2 * k)) (xmul (a := k) (b := 6) rfl rfl) rfl) (by omega) (by omega)) d_P_append_67 (fun H locs hw hS => ?_)
      rw [show (((nI k) * 6) + (nI (σ.1 (11 + 2 * k)))).toNatClampNeg = (k * 6) + (σ.1 (11 + 2 * k)) from xcl (a := (k * 6) + (σ.1 (11 + 2 * k))) (xadd (a := k * 6) (b := σ.1 (11 + 2 * k)) (xmul (a := k) (b := 6) rfl rfl) rfl) (by omega)] at hw
      have hw : xw D vwCl B ad (xu (xu w 6 (.inl (K 0, 24, .inl (upd (σ.2.1 40) ((k * 6) + (σ.1 (11 + 2 * k))) d)))) 7 (.inl (K 1, 24, .inr (.inl (vp_updL (σ.2.2.1 40) ((k * 6) + (σ.1 (11 + 2 * k))) u))))) H := hw
      refine lv_aload_n hx hb d_P_append_68 rfl (lv_at hl 2 rfl) ?_
      refine xr_get (ci := 4) (v := .ref (ad 5)) (C := R_P) (T := T_P) (N := 3) hx hb htw in_P hown hK hw 4 ((xu_ne (by omega)).trans ((xu_ne (by omega)).trans (r4))) rfl rfl 0 (by decide) (htw _ u_29) (fun _ h9 => h9) rfl d_P_append_69 ?_
      refine lv_iload_n hx hb d_P_append_72 rfl (lv_at hl 3 rfl) ?_
      refine lv_iload hx hb d_P_append_73 (lv_at hl 1 rfl) ?_
      refine lv_iconst (v := 1) hx hb d_P_append_75 (by decide) ?_
      refine lv_iadd hx hb d_P_append_76 ?_
      refine xr_iast (i := nI k) hx hb hK hw hS 5 0 ((xu_ne (by omega)).trans ((xu_ne (by omega)).trans (r5))) rfl rfl (xvin (a := k) rfl (by omega) (by omega)) d_P_append_77 (fun H locs hw hS => ?_)
      rw [show (nI k).toNatClampNeg = k from xcl (a := k) rfl (by omega)] at hw
      have hw : xw D vwCl B ad (xu (xu (xu w 6 (.inl (K 0, 24, .inl (upd (σ.2.1 40) ((k * 6) + (σ.1 (11 + 2 * k))) d)))) 7 (.inl (K 1, 24, .inr (.inl (vp_updL (σ.2.2.1 40) ((k * 6) + (σ.1 (11 + 2 * k))) u))))) 5 (.inl (K 0, 4, .inl (upd (fun k => nI (σ.1 (11 + 2 * k))) k ((nI (σ.1 (11 + 2 * k))) + 1))))) H := hw
      refine lv_iconst (v := 1) hx hb d_P_append_78 (by decide) ?_
      have hRep : RepX K (s_price σ k d u) ad (xu (xu (xu w 6 (.inl (K 0, 24, .inl (upd (σ.2.1 40) ((k * 6) + (σ.1 (11 + 2 * k))) d)))) 7 (.inl (K 1, 24, .inr (.inl (vp_updL (σ.2.2.1 40) ((k * 6) + (σ.1 (11 + 2 * k))) u))))) 5 (.inl (K 0, 4, .inl (upd (fun k => nI (σ.1 (11 + 2 * k))) k ((nI (σ.1 (11 + 2 * k))) + 1))))) := by
        unfold s_price
        refine ⟨?_, ?_, ?_, ?_, ?_, ?_, ?_, ?_, ?_, ?_, ?_, ?_, ?_, ?_, ?_⟩
        · simp (disch := omega) only [pN, pI, pL, pZ, row_eq, row_ne, xu_eq, xu_ne, xa_eq, xa_ne, pk_us, pk_un, pk_uLs, pk_uLn, r0]
        · simp (disch := omega) only [pN, pI, pL, pZ, row_eq, row_ne, xu_eq, xu_ne, xa_eq, xa_ne, pk_us, pk_un, pk_uLs, pk_uLn, r1]; try rfl
        · simp (disch := omega) only [pN, pI, pL, pZ, row_eq, row_ne, xu_eq, xu_ne, xa_eq, xa_ne, pk_us, pk_un, pk_uLs, pk_uLn, r2]; try rfl
        · simp (disch := omega) only [pN, pI, pL, pZ, row_eq, row_ne, xu_eq, xu_ne, xa_eq, xa_ne, pk_us, pk_un, pk_uLs, pk_uLn, r3]; try rfl
        · simp (disch := omega) only [pN, pI, pL, pZ, row_eq, row_ne, xu_eq, xu_ne, xa_eq, xa_ne, pk_us, pk_un, pk_uLs, pk_uLn, r4]
        · simp (disch := omega) only [pN, pI, pL, pZ, row_eq, row_ne, xu_eq, xu_ne, xa_eq, xa_ne, pk_us, pk_un, pk_uLs, pk_uLn]; exact congrArg _ (congrArg _ (congrArg _ (congrArg _ (congrArg _ (fc_up (nI_succ _).symm)))))
        · simp (disch := omega) only [pN, pI, pL, pZ, row_eq, row_ne, xu_eq, xu_ne, xa_eq, xa_ne, pk_us, pk_un, pk_uLs, pk_uLn, r6]
        · simp (disch := omega) only [pN, pI, pL, pZ, row_eq, row_ne, xu_eq, xu_ne, xa_eq, xa_ne, pk_us, pk_un, pk_uLs, pk_uLn, r7]
        · intro jj hj
          have hj : jj < σ.1 0 := by first | exact hj | simpa (disch := omega) only [pN, pI, pL, pZ, row_eq, row_ne, xu_eq, xu_ne, xa_eq, xa_ne, pk_us, pk_un, pk_uLs, pk_uLn] using hj
          simp (disch := omega) only [pN, pI, pL, pZ, row_eq, row_ne, xu_eq, xu_ne, xa_eq, xa_ne, pk_us, pk_un, pk_uLs, pk_uLn, rb jj hj]
        · intro jj hj
          have hj : jj < σ.1 0 := by first | exact hj | simpa (disch := omega) only [pN, pI, pL, pZ, row_eq, row_ne, xu_eq, xu_ne, xa_eq, xa_ne, pk_us, pk_un, pk_uLs, pk_uLn] using hj
          simp (disch := omega) only [pN, pI, pL, pZ, row_eq, row_ne, xu_eq, xu_ne, xa_eq, xa_ne, pk_us, pk_un, pk_uLs, pk_uLn, rba jj hj]
        · intro jj hj
          have hj : jj < σ.1 0 := by first | exact hj | simpa (disch := omega) only [pN, pI, pL, pZ, row_eq, row_ne, xu_eq, xu_ne, xa_eq, xa_ne, pk_us, pk_un, pk_uLs, pk_uLn] using hj
          simp (disch := omega) only [pN, pI, pL, pZ, row_eq, row_ne, xu_eq, xu_ne, xa_eq, xa_ne, pk_us, pk_un, pk_uLs, pk_uLn, rbt jj hj]
        · intro jj hj
          have hj : jj < σ.1 0 := by first | exact hj | simpa (disch := omega) only [pN, pI, pL, pZ, row_eq, row_ne, xu_eq, xu_ne, xa_eq, xa_ne, pk_us, pk_un, pk_uLs, pk_uLn] using hj
          simp (disch := omega) only [pN, pI, pL, pZ, row_eq, row_ne, xu_eq, xu_ne, xa_eq, xa_ne, pk_us, pk_un, pk_uLs, pk_uLn, rbo jj hj]
        · intro jj hj
          have hj : jj < σ.1 1 := by first | exact hj | simpa (disch := omega) only [pN, pI, pL, pZ, row_eq, row_ne, xu_eq, xu_ne, xa_eq, xa_ne, pk_us, pk_un, pk_uLs, pk_uLn] using hj
          simp (disch := omega) only [pN, pI, pL, pZ, row_eq, row_ne, xu_eq, xu_ne, xa_eq, xa_ne, pk_us, pk_un, pk_uLs, pk_uLn, rs jj hj]
        · intro jj hj
          have hj : jj < σ.1 1 := by first | exact hj | simpa (disch := omega) only [pN, pI, pL, pZ, row_eq, row_ne, xu_eq, xu_ne, xa_eq, xa_ne, pk_us, pk_un, pk_uLs, pk_uLn] using hj
          simp (disch := omega) only [pN, pI, pL, pZ, row_eq, row_ne, xu_eq, xu_ne, xa_eq, xa_ne, pk_us, pk_un, pk_uLs, pk_uLn, rss jj hj]
        · intro jj hj
          have hj : jj < σ.1 2 := by first | exact hj | simpa (disch := omega) only [pN, pI, pL, pZ, row_eq, row_ne, xu_eq, xu_ne, xa_eq, xa_ne, pk_us, pk_un, pk_uLs, pk_uLn] using hj
          simp (disch := omega) only [pN, pI, pL, pZ, row_eq, row_ne, xu_eq, xu_ne, xa_eq, xa_ne, pk_us, pk_un, pk_uLs, pk_uLn, rr jj hj]
      have hf : f_append σ k d u = (s_price σ k d u, 1) := by simp [f_append, opt_n, opt_s, c_1, c_2, c_3]
      exact W.zret (v := 1) hx hb hr (by decide) (fun t ht _ => ⟨_, rfl, by rw [hf, ht]; exact ⟨rfl, _, _, hw, hRep, rfl, fun t h2 => ⟨by simp (disch := omega) only [xu_ne, xa_ne], rfl⟩⟩, hS.F ht⟩) hS.2.2 d_P_append_79
    · have c_3 : ¬ σ.1 (11 + 2 * k) ≤ 0 := fun z => c_3 ((nLE (a := σ.1 (11 + 2 * k)) (b := 0) (by omega) (by omega)).mpr z)
      refine lv_iload_n hx hb d_P_append_37 rfl (lv_at hl 4 rfl) ?_
      refine lv_aload_n hx hb d_P_append_38 rfl (lv_at hl 2 rfl) ?_
      refine xr_get (ci := 4) (v := .ref (ad 6)) (C := R_P) (T := T_P) (N := 3) hx hb htw in_P hown hK hw 4 r4 rfl rfl 1 (by decide) (htw _ u_30) (fun _ h9 => h9) rfl d_P_append_39 ?_
      refine lv_iload hx hb d_P_append_42 (lv_at hl 0 rfl) ?_
      refine lv_iconst (v := 1) hx hb d_P_append_44 (by decide) ?_
      refine lv_isub hx hb d_P_append_45 ?_
      refine xr_iald (i := (((nI k) * 6) + (nI (σ.1 (11 + 2 * k)))) - 1) hx hb hK hw 6 0 r6 rfl rfl (xvin (a := ((k * 6) + (σ.1 (11 + 2 * k))) - 1) (xsub (a := (k * 6) + (σ.1 (11 + 2 * k))) (b := 1) (xadd (a := k * 6) (b := σ.1 (11 + 2 * k)) (xmul (a := k) (b := 6) rfl rfl) rfl) (by omega)) (by omega) (by omega)) d_P_append_46 ?_
      refine lv_topi (fun x_4 ex_4 => ?_)
      obtain rfl : x_4 = (σ.2.1 40) (((k * 6) + (σ.1 (11 + 2 * k))) - 1) := ex_4.trans ((congrArg (σ.2.1 40) (xcl (a := ((k * 6) + (σ.1 (11 + 2 * k))) - 1) (xsub (a := (k * 6) + (σ.1 (11 + 2 * k))) (b := 1) (xadd (a := k * 6) (b := σ.1 (11 + 2 * k)) (xmul (a := k) (b := 6) rfl rfl) rfl) (by omega)) (by omega))).trans rfl)
      refine lv_icmp_gt (tgt := 52) hx hb d_P_append_47 (by decide) (fun c_5 => ?_) (fun c_5 => ?_)
      · refine lv_aload_n hx hb d_P_append_52 rfl (lv_at hl 2 rfl) ?_
        refine xr_get (ci := 4) (v := .ref (ad 6)) (C := R_P) (T := T_P) (N := 3) hx hb htw in_P hown hK hw 4 r4 rfl rfl 1 (by decide) (htw _ u_30) (fun _ h9 => h9) rfl d_P_append_53 ?_
        refine lv_iload hx hb d_P_append_56 (lv_at hl 0 rfl) ?_
        refine lv_iload_n hx hb d_P_append_58 rfl (lv_at hl 4 rfl) ?_
        refine xr_iast (i := ((nI k) * 6) + (nI (σ.1 (11 + 2 * k)))) hx hb hK hw hS 6 0 r6 rfl rfl (xvin (a := (k * 6) + (σ.1 (11 + 2 * k))) (xadd (a := k * 6) (b := σ.1 (11 + 2 * k)) (xmul (a := k) (b := 6) rfl rfl) rfl) (by omega) (by omega)) d_P_append_59 (fun H locs hw hS => ?_)
        rw [show (((nI k) * 6) + (nI (σ.1 (11 + 2 * k)))).toNatClampNeg = (k * 6) + (σ.1 (11 + 2 * k)) from xcl (a := (k * 6) + (σ.1 (11 + 2 * k))) (xadd (a := k * 6) (b := σ.1 (11 + 2 * k)) (xmul (a := k) (b := 6) rfl rfl) rfl) (by omega)] at hw
        have hw : xw D vwCl B ad (xu w 6 (.inl (K 0, 24, .inl (upd (σ.2.1 40) ((k * 6) + (σ.1 (11 + 2 * k))) d)))) H := hw
        refine lv_aload_n hx hb d_P_append_60 rfl (lv_at hl 2 rfl) ?_
        refine xr_get (ci := 4) (v := .ref (ad 7)) (C := R_P) (T := T_P) (N := 3) hx hb htw in_P hown hK hw 4 ((xu_ne (by omega)).trans (r4)) rfl rfl 2 (by decide) (htw _ u_31) (fun _ h9 => h9) rfl d_P_append_61 ?_
        refine lv_iload hx hb d_P_append_64 (lv_at hl 0 rfl) ?_
        refine lv_lload_n hx hb d_P_append_66 rfl (lv_at hl 5 rfl) ?_
        refine xr_last (i := ((nI k) * 6) + (nI (σ.1 (11 + 2 * k)))) hx hb hK hw hS 7 1 ((xu_ne (by omega)).trans (r7)) rfl rfl (xvin (a := (k * 6) + (σ.1 (11 + 2 * k))) (xadd (a := k * 6) (b := σ.1 (11 + 2 * k)) (xmul (a := k) (b := 6) rfl rfl) rfl) (by omega) (by omega)) d_P_append_67 (fun H locs hw hS => ?_)
        rw [show (((nI k) * 6) + (nI (σ.1 (11 + 2 * k)))).toNatClampNeg = (k * 6) + (σ.1 (11 + 2 * k)) from xcl (a := (k * 6) + (σ.1 (11 + 2 * k))) (xadd (a := k * 6) (b := σ.1 (11 + 2 * k)) (xmul (a := k) (b := 6) rfl rfl) rfl) (by omega)] at hw
        have hw : xw D vwCl B ad (xu (xu w 6 (.inl (K 0, 24, .inl (upd (σ.2.1 40) ((k * 6) + (σ.1 (11 + 2 * k))) d)))) 7 (.inl (K 1, 24, .inr (.inl (vp_updL (σ.2.2.1 40) ((k * 6) + (σ.1 (11 + 2 * k))) u))))) H := hw
        refine lv_aload_n hx hb d_P_append_68 rfl (lv_at hl 2 rfl) ?_
        refine xr_get (ci := 4) (v := .ref (ad 5)) (C := R_P) (T := T_P) (N := 3) hx hb htw in_P hown hK hw 4 ((xu_ne (by omega)).trans ((xu_ne (by omega)).trans (r4))) rfl rfl 0 (by decide) (htw _ u_29) (fun _ h9 => h9) rfl d_P_append_69 ?_
        refine lv_iload_n hx hb d_P_append_72 rfl (lv_at hl 3 rfl) ?_
        refine lv_iload hx hb d_P_append_73 (lv_at hl 1 rfl) ?_
        refine lv_iconst (v := 1) hx hb d_P_append_75 (by decide) ?_
        refine lv_iadd hx hb d_P_append_76 ?_
        refine xr_iast (i := nI k) hx hb hK hw hS 5 0 ((xu_ne (by omega)).trans ((xu_ne (by omega)).trans (r5))) rfl rfl (xvin (a := k) rfl (by omega) (by omega)) d_P_append_77 (fun H locs hw hS => ?_)
        rw [show (nI k).toNatClampNeg = k from xcl (a := k) rfl (by omega)] at hw
        have hw : xw D vwCl B ad (xu (xu (xu w 6 (.inl (K 0, 24, .inl (upd (σ.2.1 40) ((k * 6) + (σ.1 (11 + 2 * k))) d)))) 7 (.inl (K 1, 24, .inr (.inl (vp_updL (σ.2.2.1 40) ((k * 6) + (σ.1 (11 + 2 * k))) u))))) 5 (.inl (K 0, 4, .inl (upd (fun k => nI (σ.1 (11 + 2 * k))) k ((nI (σ.1 (11 + 2 * k))) + 1))))) H := hw
        refine lv_iconst (v := 1) hx hb d_P_append_78 (by decide) ?_
        have hRep : RepX K (s_price σ k d u) ad (xu (xu (xu w 6 (.inl (K 0, 24, .inl (upd (σ.2.1 40) ((k * 6) + (σ.1 (11 + 2 * k))) d)))) 7 (.inl (K 1, 24, .inr (.inl (vp_updL (σ.2.2.1 40) ((k * 6) + (σ.1 (11 + 2 * k))) u))))) 5 (.inl (K 0, 4, .inl (upd (fun k => nI (σ.1 (11 + 2 * k))) k ((nI (σ.1 (11 + 2 * k))) + 1))))) := by
          unfold s_price
          refine ⟨?_, ?_, ?_, ?_, ?_, ?_, ?_, ?_, ?_, ?_, ?_, ?_, ?_, ?_, ?_⟩
          · simp (disch := omega) only [pN, pI, pL, pZ, row_eq, row_ne, xu_eq, xu_ne, xa_eq, xa_ne, pk_us, pk_un, pk_uLs, pk_uLn, r0]
          · simp (disch := omega) only [pN, pI, pL, pZ, row_eq, row_ne, xu_eq, xu_ne, xa_eq, xa_ne, pk_us, pk_un, pk_uLs, pk_uLn, r1]; try rfl
          · simp (disch := omega) only [pN, pI, pL, pZ, row_eq, row_ne, xu_eq, xu_ne, xa_eq, xa_ne, pk_us, pk_un, pk_uLs, pk_uLn, r2]; try rfl
          · simp (disch := omega) only [pN, pI, pL, pZ, row_eq, row_ne, xu_eq, xu_ne, xa_eq, xa_ne, pk_us, pk_un, pk_uLs, pk_uLn, r3]; try rfl
          · simp (disch := omega) only [pN, pI, pL, pZ, row_eq, row_ne, xu_eq, xu_ne, xa_eq, xa_ne, pk_us, pk_un, pk_uLs, pk_uLn, r4]
          · simp (disch := omega) only [pN, pI, pL, pZ, row_eq, row_ne, xu_eq, xu_ne, xa_eq, xa_ne, pk_us, pk_un, pk_uLs, pk_uLn]; exact congrArg _ (congrArg _ (congrArg _ (congrArg _ (congrArg _ (fc_up (nI_succ _).symm)))))
          · simp (disch := omega) only [pN, pI, pL, pZ, row_eq, row_ne, xu_eq, xu_ne, xa_eq, xa_ne, pk_us, pk_un, pk_uLs, pk_uLn, r6]
          · simp (disch := omega) only [pN, pI, pL, pZ, row_eq, row_ne, xu_eq, xu_ne, xa_eq, xa_ne, pk_us, pk_un, pk_uLs, pk_uLn, r7]
          · intro jj hj
            have hj : jj < σ.1 0 := by first | exact hj | simpa (disch := omega) only [pN, pI, pL, pZ, row_eq, row_ne, xu_eq, xu_ne, xa_eq, xa_ne, pk_us, pk_un, pk_uLs, pk_uLn] using hj
            simp (disch := omega) only [pN, pI, pL, pZ, row_eq, row_ne, xu_eq, xu_ne, xa_eq, xa_ne, pk_us, pk_un, pk_uLs, pk_uLn, rb jj hj]
          · intro jj hj
            have hj : jj < σ.1 0 := by first | exact hj | simpa (disch := omega) only [pN, pI, pL, pZ, row_eq, row_ne, xu_eq, xu_ne, xa_eq, xa_ne, pk_us, pk_un, pk_uLs, pk_uLn] using hj
            simp (disch := omega) only [pN, pI, pL, pZ, row_eq, row_ne, xu_eq, xu_ne, xa_eq, xa_ne, pk_us, pk_un, pk_uLs, pk_uLn, rba jj hj]
          · intro jj hj
            have hj : jj < σ.1 0 := by first | exact hj | simpa (disch := omega) only [pN, pI, pL, pZ, row_eq, row_ne, xu_eq, xu_ne, xa_eq, xa_ne, pk_us, pk_un, pk_uLs, pk_uLn] using hj
            simp (disch := omega) only [pN, pI, pL, pZ, row_eq, row_ne, xu_eq, xu_ne, xa_eq, xa_ne, pk_us, pk_un, pk_uLs, pk_uLn, rbt jj hj]
          · intro jj hj
            have hj : jj < σ.1 0 := by first | exact hj | simpa (disch := omega) only [pN, pI, pL, pZ, row_eq, row_ne, xu_eq, xu_ne, xa_eq, xa_ne, pk_us, pk_un, pk_uLs, pk_uLn] using hj
            simp (disch := omega) only [pN, pI, pL, pZ, row_eq, row_ne, xu_eq, xu_ne, xa_eq, xa_ne, pk_us, pk_un, pk_uLs, pk_uLn, rbo jj hj]
          · intro jj hj
            have hj : jj < σ.1 1 := by first | exact hj | simpa (disch := omega) only [pN, pI, pL, pZ, row_eq, row_ne, xu_eq, xu_ne, xa_eq, xa_ne, pk_us, pk_un, pk_uLs, pk_uLn] using hj
            simp (disch := omega) only [pN, pI, pL, pZ, row_eq, row_ne, xu_eq, xu_ne, xa_eq, xa_ne, pk_us, pk_un, pk_uLs, pk_uLn, rs jj hj]
          · intro jj hj
            have hj : jj < σ.1 1 := by first | exact hj | simpa (disch := omega) only [pN, pI, pL, pZ, row_eq, row_ne, xu_eq, xu_ne, xa_eq, xa_ne, pk_us, pk_un, pk_uLs, pk_uLn] using hj
            simp (disch := omega) only [pN, pI, pL, pZ, row_eq, row_ne, xu_eq, xu_ne, xa_eq, xa_ne, pk_us, pk_un, pk_uLs, pk_uLn, rss jj hj]
          · intro jj hj
            have hj : jj < σ.1 2 := by first | exact hj | simpa (disch := omega) only [pN, pI, pL, pZ, row_eq, row_ne, xu_eq, xu_ne, xa_eq, xa_ne, pk_us, pk_un, pk_uLs, pk_uLn] using hj
            simp (disch := omega) only [pN, pI, pL, pZ, row_eq, row_ne, xu_eq, xu_ne, xa_eq, xa_ne, pk_us, pk_un, pk_uLs, pk_uLn, rr jj hj]
        have hf : f_append σ k d u = (s_price σ k d u, 1) := by simp [f_append, opt_n, opt_s, c_1, c_2, c_3, c_5]
        exact W.zret (v := 1) hx hb hr (by decide) (fun t ht _ => ⟨_, rfl, by rw [hf, ht]; exact ⟨rfl, _, _, hw, hRep, rfl, fun t h2 => ⟨by simp (disch := omega) only [xu_ne, xa_ne], rfl⟩⟩, hS.F ht⟩) hS.2.2 d_P_append_79
      · refine lv_iconst (v := 0) hx hb d_P_append_50 (by decide) ?_
        have hf : f_append σ k d u = (σ, 0) := by simp [f_append, opt_n, opt_s, c_1, c_2, c_3, c_5]
        exact W.zret (v := 0) hx hb hr (by decide) (fun t ht _ => ⟨_, rfl, by rw [hf, ht]; exact ⟨rfl, PX_same hw hR⟩, hS.F ht⟩) hS.2.2 d_P_append_51
  · have c_2 : ¬ (σ.1 (11 + 2 * k)) < 6 := fun z => c_2 ((nLT (a := σ.1 (11 + 2 * k)) (b := 6) (by omega) (by omega)).mpr z)
    refine lv_iconst (v := 0) hx hb d_P_append_21 (by decide) ?_
    have hf : f_append σ k d u = (σ, 0) := by simp [f_append, opt_n, opt_s, c_1, c_2]
    exact W.zret (v := 0) hx hb hr (by decide) (fun t ht _ => ⟨_, rfl, by rw [hf, ht]; exact ⟨rfl, PX_same hw hR⟩, hS.F ht⟩) hS.2.2 d_P_append_22
set_option maxHeartbeats 4000000 in
set_option maxRecDepth 100000 in
theorem c_A_price {l : Launch} {D : va_G} {K : Nat → ClassId} {B : Nat} {ad : Nat → Nat} {w : Nat → Option va_E} {H : Heap} {σ : xS} (hR : RepX K σ ad w) (hI : Inv σ) (hw : xw D vwCl B ad w H) (x1 x2 : Int32) (x3 : Int64) : xC l D K B y_A_price b_A_price 5 (some .boolean) rm_A_price [.ref (ad 0), .int x1, .int x2, .long x3] H (fun v H1 => v = some (.int (f_price σ x1 x2 x3).2) ∧ PX D K B ad w (f_price σ x1 x2 x3).1 H1) := by
  refine Met.ofW (cc := b_A_price) (maxL := 5) (ret := (some .boolean)) (by decide) rfl ?_
  intro p e s m args below meth c s₁ B0 hml hv
  obtain ⟨rfl, hsz, hK, hN⟩ := hv
  have hx := B0.exec
  have hb := B0.bytes
  have hr := B0.returns
  have htw : ∀ w ∈ xW0, w.before [.ref (ad 0), .int x1, .int x2, .long x3].toArray s = true := fun w h => atoms_spec (ws := Cond.code y_A_price b_A_price 5 (some .boolean) :: xW0) B0.pre w (List.mem_cons_of_mem _ h)
  have hown : s.vm.findClass R_A = some m.cls := findClass_of_methodNamed B0.named
  have hlocks := B0.notSynchronized
  subst hsz
  have hS : va_S (fun q => B ≤ q) s.heap s.heap [] := va_S.rf
  have hl := lv_entry ([.ref (ad 0), .int x1, .int x2, .long x3]) (n := 5) (Nat.le_of_ble_eq_true rfl)
  rw [lg_entry_eq]
  generalize (lg_sl ([.ref (ad 0), .int x1, .int x2, .long x3]) ++ List.replicate (5 - (lg_sl ([.ref (ad 0), .int x1, .int x2, .long x3])).length) Slot.unset).toArray = ls at hl ⊢
  have hl : lv_has ls 5 [(0, .ref (ad 0)), (1, .int x1), (2, .int x2), (3, .long x3)] := hl
  have hH : s.heap = s.heap := rfl
  obtain ⟨r0, r1, r2, r3, r4, r5, r6, r7, rb, rba, rbt, rbo, rs, rss, rr⟩ := id hR
  obtain ⟨hnb, hns, hnr, hpc, hst, hto, htl, hrm, hpa, hwt, hdf, hds⟩ := id hI
  refine lv_iload_n hx hb d_A_price_0 rfl (lv_at hl 1 rfl) ?_
  refine xr_call (va_runS (As := [.int x1]) (rest := []) ⟨hx, hb, hml, hown, htw⟩ (c_A_isMetal x1) (va_cwS 1 htw (gS u_135 u_136 u_1 u_137) rfl rfl rfl hd_A_isMetal.2 ⟨Nat.le_of_ble_eq_true rfl, Nat.le_of_ble_eq_true rfl⟩) ⟨xP_blind, xP_of hK hN⟩ rfl rfl hl.1 rfl (lv_room (Nat.le_of_ble_eq_true rfl)) d_A_price_1 ⟨by decide, by decide⟩) hS (fun v H_ locs hp hS => ?_)
  obtain ⟨rfl, hHe⟩ := hp
  rw [hHe] at hS ⊢
  refine W.eq (g2 := F0 m 4 ls [.int (bI (xm x1))]) rfl ?_
  refine lv_if_eq (tgt := 30) hx hb d_A_price_4 (by decide) (fun c_1 => ?_) (fun c_1 => ?_)
  · have c_1 : (xm x1) = false := bI_f.mp c_1
    have f2 : xi 4 x1 = none := xm_xi c_1
    refine lv_iconst (v := 0) hx hb d_A_price_30 (by decide) ?_
    have hf : f_price σ x1 x2 x3 = (σ, 0) := by simp [f_price, opt_n, opt_s, f2, c_1]
    exact W.zret (v := 0) hx hb hr (by decide) (fun t ht _ => ⟨_, rfl, by rw [hf, ht]; exact ⟨rfl, PX_same hw hR⟩, hS.F ht⟩) hS.2.2 d_A_price_31
  · have c_1 : (xm x1) = true := bI_t.mp c_1
    obtain ⟨k3, hk3, rfl⟩ := xm_of c_1
    have xk3 : xi 4 (nI k3) = some k3 := xi_nI hk3 (by decide)
    refine lv_iload_n hx hb d_A_price_7 rfl (lv_at hl 2 rfl) ?_
    refine lv_i2l hx hb d_A_price_8 rfl ?_
    refine lv_lconst (v := 0) hx hb d_A_price_9 (by decide) ?_
    refine lv_ldc2 (v := 100000) hx hb hown (htw _ u_143) d_A_price_10 ?_
    refine xr_call (va_runS (As := [.long x2.toInt64, .long 0, .long 100000]) (rest := []) ⟨hx, hb, hml, hown, htw⟩ (c_A_isWithin x2.toInt64 0 100000) (va_cwS 3 htw (gS u_77 u_78 u_1 u_79) rfl rfl rfl hd_A_isWithin.2 ⟨Nat.le_of_ble_eq_true rfl, Nat.le_of_ble_eq_true rfl⟩) ⟨xP_blind, xP_of hK hN⟩ rfl rfl hl.1 rfl (lv_room (Nat.le_of_ble_eq_true rfl)) d_A_price_13 ⟨by decide, by decide⟩) hS (fun v H_ locs hp hS => ?_)
    obtain ⟨rfl, hHe⟩ := hp
    rw [hHe] at hS ⊢
    refine W.eq (g2 := F0 m 16 ls [.int (bI (xin x2.toInt64 0 100000))]) rfl ?_
    refine lv_if_eq (tgt := 30) hx hb d_A_price_16 (by decide) (fun c_4 => ?_) (fun c_4 => ?_)
    · have c_4 : (xin x2.toInt64 0 100000) = false := bI_f.mp c_4
      refine lv_iconst (v := 0) hx hb d_A_price_30 (by decide) ?_
      have hf : f_price σ (nI k3) x2 x3 = (σ, 0) := by simp [f_price, opt_n, opt_s, xk3, c_1, c_4]
      exact W.zret (v := 0) hx hb hr (by decide) (fun t ht _ => ⟨_, rfl, by rw [hf, ht]; exact ⟨rfl, PX_same hw hR⟩, hS.F ht⟩) hS.2.2 d_A_price_31
    · have c_4 : (xin x2.toInt64 0 100000) = true := bI_t.mp c_4
      refine lv_lload_n hx hb d_A_price_19 rfl (lv_at hl 3 rfl) ?_
      refine lv_lconst (v := 0) hx hb d_A_price_20 (by decide) ?_
      refine lv_ldc2 (v := 1000000) hx hb hown (htw _ u_138) d_A_price_21 ?_
      refine xr_call (va_runS (As := [.long x3, .long 0, .long 1000000]) (rest := []) ⟨hx, hb, hml, hown, htw⟩ (c_A_isWithin x3 0 1000000) (va_cwS 3 htw (gS u_77 u_78 u_1 u_79) rfl rfl rfl hd_A_isWithin.2 ⟨Nat.le_of_ble_eq_true rfl, Nat.le_of_ble_eq_true rfl⟩) ⟨xP_blind, xP_of hK hN⟩ rfl rfl hl.1 rfl (lv_room (Nat.le_of_ble_eq_true rfl)) d_A_price_24 ⟨by decide, by decide⟩) hS (fun v H_ locs hp hS => ?_)
      obtain ⟨rfl, hHe⟩ := hp
      rw [hHe] at hS ⊢
      refine W.eq (g2 := F0 m 27 ls [.int (bI (xin x3 0 1000000))]) rfl ?_
      refine lv_if_ne (tgt := 32) hx hb d_A_price_27 (by decide) (fun c_5 => ?_) (fun c_5 => ?_)
      · have c_5 : (xin x3 0 1000000) = true := bI_t.mp c_5
        refine lv_aload_n hx hb d_A_price_32 rfl (lv_at hl 0 rfl) ?_
        refine xr_get (ci := 0) (v := .ref (ad 4)) (C := R_A) (T := T_A) (N := 10) hx hb htw in_A hown hK hw 0 r0 rfl rfl 6 (by decide) (htw _ u_47) (fun _ h9 => h9) rfl d_A_price_33 ?_
        refine lv_iload_n hx hb d_A_price_36 rfl (lv_at hl 1 rfl) ?_
        refine lv_iload_n hx hb d_A_price_37 rfl (lv_at hl 2 rfl) ?_
        refine lv_lload_n hx hb d_A_price_38 rfl (lv_at hl 3 rfl) ?_
        refine xr_call (va_runV (As := [.int (nI k3), .int x2, .long x3]) (rest := []) ⟨hx, hb, hml, hown, htw⟩ (c_P_append (ad := ad) hR hI hw k3 (by omega) x2 x3) (cwV 3 htw (gV u_208 u_209 u_210 u_2 u_211) rfl rfl rfl hd_P_append ⟨Nat.le_of_ble_eq_true rfl, Nat.le_of_ble_eq_true rfl⟩) ⟨xP_blind, hw.recv hK (ci := 4) (t := 4) rfl r4 rfl, xP_of hK hN⟩ rfl rfl hl.1 rfl (lv_room (Nat.le_of_ble_eq_true rfl)) d_A_price_39 ⟨by decide, by decide⟩) hS (fun v H_ locs hp hS => ?_)
        obtain ⟨rfl, hPX⟩ := hp
        refine W.eq (g2 := F0 m 42 ls [.int ((f_append σ k3 x2 x3).2)]) rfl ?_
        have hf : f_price σ (nI k3) x2 x3 = f_append σ k3 x2 x3 := by simp [f_price, opt_n, opt_s, xk3, c_1, c_4, c_5]
        exact W.zret (v := (f_append σ k3 x2 x3).2) hx hb hr f_append_nar (fun t ht _ => ⟨_, rfl, by rw [hf, ht]; exact ⟨rfl, hPX⟩, hS.F ht⟩) hS.2.2 d_A_price_42
      · have c_5 : (xin x3 0 1000000) = false := bI_f.mp c_5
        refine lv_iconst (v := 0) hx hb d_A_price_30 (by decide) ?_
        have hf : f_price σ (nI k3) x2 x3 = (σ, 0) := by simp [f_price, opt_n, opt_s, xk3, c_1, c_4, c_5]
        exact W.zret (v := 0) hx hb hr (by decide) (fun t ht _ => ⟨_, rfl, by rw [hf, ht]; exact ⟨rfl, PX_same hw hR⟩, hS.F ht⟩) hS.2.2 d_A_price_31
end
section
theorem xu_xu {w : Nat → Option va_E} {t : Nat} {e e1 : va_E} : xu (xu w t e) t e1 = xu w t e1 := by
  funext u
  unfold xu
  by_cases h : u = t
  · simp [h]
  · simp [h]
theorem bI_ff : bI false = 0 := rfl
theorem bI_tt : bI true = 1 := rfl
/-- behind the making of cells: the tags in L are new or changed, all others as they were -/
def Fr (ad ad1 : Nat → Nat) (w w1 : Nat → Option va_E) (L : List Nat) : Prop := ∀ u, u ∉ L → w1 u = w u ∧ ad1 u = ad u
/-- one more batch, in numbers -/
def s_new (σ : xS) (g : Int64) (d : Int32) (b : Bool) : xS := pN (pZ (pI (pI (pI (pL σ 1 (vp_updL (σ.2.2.1 1) (σ.1 0) g)) 1 (upd (σ.2.1 1) (σ.1 0) d)) (20 + σ.1 0) (fun _ => -1)) 10 (upd (σ.2.1 10) (σ.1 0) (-1))) 0 (row (σ.2.2.2 0) (σ.1 0) b)) 0 (σ.1 0 + 1)
def f_batch (σ : xS) (g : Int64) : xS × Int32 := if xin g 1 1000000000 then (if σ.1 0 < 8 then (s_new σ g (σ.2.1 0 0) false, nI (σ.1 0)) else (σ, -1)) else (σ, -1)
def s_stage (σ : xS) (x1 x2 x3 : Int32) : xS := pN (pI (pI (pI σ 3 (upd (σ.2.1 3) (σ.1 1) x1)) 4 (upd (σ.2.1 4) (σ.1 1) x2)) 5 (upd (σ.2.1 5) (σ.1 1) x3)) 1 (σ.1 1 + 1)
def f_stage (σ : xS) (x1 x2 x3 : Int32) : xS × Int32 := if xm x1 then (if σ.1 1 < 6 then (if xin x2.toInt64 0 1000 then (if xin x3.toInt64 0 1000 then (s_stage σ x1 x2 x3, nI (σ.1 1)) else (σ, -1)) else (σ, -1)) else (σ, -1)) else (σ, -1)
def s_rule (σ : xS) (x1 x2 x3 x4 : Int32) : xS := pN (pI (pI (pI (pI σ 6 (upd (σ.2.1 6) (σ.1 2) x1)) 7 (upd (σ.2.1 7) (σ.1 2) x2)) 8 (upd (σ.2.1 8) (σ.1 2) x3)) 9 (upd (σ.2.1 9) (σ.1 2) x4)) 2 (σ.1 2 + 1)
def f_rule (σ : xS) (x1 x2 x3 x4 : Int32) : xS × Int32 := if xin x1.toInt64 0 9 then (if xm x2 then (if σ.1 2 < 8 then (if xin x3.toInt64 0 1000000 then (if xin x4.toInt64 0 100000 then (s_rule σ x1 x2 x3 x4, nI (σ.1 2)) else (σ, -1)) else (σ, -1)) else (σ, -1)) else (σ, -1)) else (σ, -1)
end
section
set_option maxHeartbeats 4000000 in
set_option maxRecDepth 100000 in
theorem c_J_fillI {l : Launch} {D : va_G} {K : Nat → ClassId} {B : Nat} {ad : Nat → Nat} {w : Nat → Option va_E} {H : Heap} (hw : xw D vwCl B ad w H) (t n : Nat) (hn : n < 1000) (f : Nat → Int32) (u : Int32) (h0 : w t = some (.inl (K 0, n, .inl f))) (a : Nat) (ha : ad t = a) : xC l D K B y_J_fillI b_J_fillI 4 none rm_J_fillI [.ref a, .int u] H (fun v H1 => v = none ∧ xw D vwCl B ad (xu w t (.inl (K 0, n, .inl (fun _ => u)))) H1) := by
  refine Met.ofW (cc := b_J_fillI) (maxL := 4) (ret := none) (by decide) rfl ?_
  intro p e s m args below meth c s₁ B0 hml hv
  obtain ⟨rfl, hsz, hK, hN⟩ := hv
  have hx := B0.exec
  have hb := B0.bytes
  have hr := B0.returns
  have htw : ∀ w ∈ xW0, w.before [.ref a, .int u].toArray s = true := fun w h => atoms_spec (ws := Cond.code y_J_fillI b_J_fillI 4 none :: xW0) B0.pre w (List.mem_cons_of_mem _ h)
  have hown : s.vm.findClass R_J = some m.cls := findClass_of_methodNamed B0.named
  have hlocks := B0.notSynchronized
  subst hsz
  have hS : va_S (fun q => B ≤ q) s.heap s.heap [] := va_S.rf
  have hl := lv_entry ([.ref a, .int u]) (n := 4) (Nat.le_of_ble_eq_true rfl)
  rw [lg_entry_eq]
  generalize (lg_sl ([.ref a, .int u]) ++ List.replicate (4 - (lg_sl ([.ref a, .int u])).length) Slot.unset).toArray = ls at hl ⊢
  have hl : lv_has ls 4 [(0, .ref a), (1, .int u)] := hl
  have hH : s.heap = s.heap := rfl
  refine lv_iconst (v := 0) hx hb d_J_fillI_0 (by decide) ?_
  refine lv_istore_n (lv' := [(2, .int 0), (0, .ref a), (1, .int u)]) hx hb d_J_fillI_1 rfl hl (by decide) rfl (fun ls hl => ?_)
  refine lv_aload_n hx hb d_J_fillI_2 rfl (lv_at hl 1 rfl) ?_
  refine xr_alen (v := nI n) hx hb hK hw t 0 h0 ha rfl rfl d_J_fillI_3 ?_
  refine lv_istore_n (lv' := [(3, .int (nI n)), (2, .int 0), (0, .ref a), (1, .int u)]) hx hb d_J_fillI_4 rfl hl (by decide) rfl (fun ls hl => ?_)
  refine xloop n (fun i H locs ls => ∃ g : Nat → Int32, xw D vwCl B ad (xu w t (.inl (K 0, n, .inl g))) H ∧ va_S (fun q => B ≤ q) s.heap H locs ∧ (∀ j, j < i → g j = u) ∧ lv_has ls 4 [(3, .int (nI n)), (2, .int (nI i)), (0, .ref a), (1, .int u)]) 0 (Nat.zero_le _) ⟨f, hw.as t h0 rfl, hS, fun j hj => absurd hj (by omega), hl⟩ (fun i H locs ls hi hJ ih => ?_)
  obtain ⟨g, hw, hS, hg, hl⟩ := hJ
  refine lv_iload_n hx hb d_J_fillI_5 rfl (lv_at hl 1 rfl) ?_
  refine lv_iload_n hx hb d_J_fillI_6 rfl (lv_at hl 0 rfl) ?_
  refine lv_icmp_ge (tgt := 20) hx hb d_J_fillI_7 (by decide) (fun c_1 => ?_) (fun c_1 => ?_)
  · have c_1 : n ≤ i := (nLE (a := n) (b := i) (by omega) (by omega)).mp c_1
    have hw := hw.as t xu_eq (b := (n, .inl (fun _ => u))) (vp_cell_congrI (fun j hj => hg j (by omega)))
    rw [xu_xu] at hw
    exact W.vret hx hb hr (fun t ht _ => ⟨_, rfl, ⟨rfl, by rw [ht]; exact hw⟩, hS.F ht⟩) hS.2.2 d_J_fillI_20
  · have c_1 : ¬ n ≤ i := fun z => c_1 ((nLE (a := n) (b := i) (by omega) (by omega)).mpr z)
    refine lv_aload_n hx hb d_J_fillI_10 rfl (lv_at hl 2 rfl) ?_
    refine lv_iload_n hx hb d_J_fillI_11 rfl (lv_at hl 1 rfl) ?_
    refine lv_iload_n hx hb d_J_fillI_12 rfl (lv_at hl 3 rfl) ?_
    refine xr_iast (i := nI i) hx hb hK hw hS t 0 xu_eq ha rfl (xvin (a := i) rfl (by omega) (by omega)) d_J_fillI_13 (fun H locs hw hS => ?_)
    rw [show (nI i).toNatClampNeg = i from xcl (a := i) rfl (by omega)] at hw
    have hw : xw D vwCl B ad (xu (xu w t (.inl (K 0, n, .inl g))) t (.inl (K 0, n, .inl (upd g i u)))) H := hw
    refine lv_iinc (v := nI i + 1) (lv' := [(2, .int (nI i + 1)), (3, .int (nI n)), (0, .ref a), (1, .int u)]) hx hb d_J_fillI_14 hl (k := 1) rfl rfl (by decide) rfl (fun ls hl => ?_)
    refine lv_goto (tgt := 5) hx hb d_J_fillI_17 (by decide) ?_
    refine ih (by omega) _ _ _ ⟨upd g i u, by rw [xu_xu] at hw; exact hw, hS, fun j hj => ?_, ?_⟩
    · by_cases hji : j = i
      · rw [hji]; exact pk_us
      · rw [pk_un hji]; exact hg j (by omega)
    · rw [show nI (i + 1) = nI i + 1 from nI_succ i]; exact lv_sub hl [1, 0, 2, 3] rfl
set_option maxHeartbeats 4000000 in
set_option maxRecDepth 100000 in
theorem c_J_fillJ {l : Launch} {D : va_G} {K : Nat → ClassId} {B : Nat} {ad : Nat → Nat} {w : Nat → Option va_E} {H : Heap} (hw : xw D vwCl B ad w H) (t n : Nat) (hn : n < 1000) (f : Nat → Int64) (u : Int64) (h0 : w t = some (.inl (K 1, n, .inr (.inl f)))) (a : Nat) (ha : ad t = a) : xC l D K B y_J_fillJ b_J_fillJ 5 none rm_J_fillJ [.ref a, .long u] H (fun v H1 => v = none ∧ xw D vwCl B ad (xu w t (.inl (K 1, n, .inr (.inl (fun _ => u))))) H1) := by
  refine Met.ofW (cc := b_J_fillJ) (maxL := 5) (ret := none) (by decide) rfl ?_
  intro p e s m args below meth c s₁ B0 hml hv
  obtain ⟨rfl, hsz, hK, hN⟩ := hv
  have hx := B0.exec
  have hb := B0.bytes
  have hr := B0.returns
  have htw : ∀ w ∈ xW0, w.before [.ref a, .long u].toArray s = true := fun w h => atoms_spec (ws := Cond.code y_J_fillJ b_J_fillJ 5 none :: xW0) B0.pre w (List.mem_cons_of_mem _ h)
  have hown : s.vm.findClass R_J = some m.cls := findClass_of_methodNamed B0.named
  have hlocks := B0.notSynchronized
  subst hsz
  have hS : va_S (fun q => B ≤ q) s.heap s.heap [] := va_S.rf
  have hl := lv_entry ([.ref a, .long u]) (n := 5) (Nat.le_of_ble_eq_true rfl)
  rw [lg_entry_eq]
  generalize (lg_sl ([.ref a, .long u]) ++ List.replicate (5 - (lg_sl ([.ref a, .long u])).length) Slot.unset).toArray = ls at hl ⊢
  have hl : lv_has ls 5 [(0, .ref a), (1, .long u)] := hl
  have hH : s.heap = s.heap := rfl
  refine lv_iconst (v := 0) hx hb d_J_fillJ_0 (by decide) ?_
  refine lv_istore_n (lv' := [(3, .int 0), (0, .ref a), (1, .long u)]) hx hb d_J_fillJ_1 rfl hl (by decide) rfl (fun ls hl => ?_)
  refine lv_aload_n hx hb d_J_fillJ_2 rfl (lv_at hl 1 rfl) ?_
  refine xr_alen (v := nI n) hx hb hK hw t 1 h0 ha rfl rfl d_J_fillJ_3 ?_
  refine lv_istore (lv' := [(4, .int (nI n)), (3, .int 0), (0, .ref a), (1, .long u)]) hx hb d_J_fillJ_4 hl (by decide) rfl (fun ls hl => ?_)
  refine xloop n (fun i H locs ls => ∃ g : Nat → Int64, xw D vwCl B ad (xu w t (.inl (K 1, n, .inr (.inl g)))) H ∧ va_S (fun q => B ≤ q) s.heap H locs ∧ (∀ j, j < i → g j = u) ∧ lv_has ls 5 [(4, .int (nI n)), (3, .int (nI i)), (0, .ref a), (1, .long u)]) 0 (Nat.zero_le _) ⟨f, hw.as t h0 rfl, hS, fun j hj => absurd hj (by omega), hl⟩ (fun i H locs ls hi hJ ih => ?_)
  obtain ⟨g, hw, hS, hg, hl⟩ := hJ
  refine lv_iload_n hx hb d_J_fillJ_6 rfl (lv_at hl 1 rfl) ?_
  refine lv_iload hx hb d_J_fillJ_7 (lv_at hl 0 rfl) ?_
  refine lv_icmp_ge (tgt := 22) hx hb d_J_fillJ_9 (by decide) (fun c_1 => ?_) (fun c_1 => ?_)
  · have c_1 : n ≤ i := (nLE (a := n) (b := i) (by omega) (by omega)).mp c_1
    have hw := hw.as t xu_eq (b := (n, .inr (.inl (fun _ => u)))) (vp_cell_congrL (fun j hj => hg j (by omega)))
    rw [xu_xu] at hw
    exact W.vret hx hb hr (fun t ht _ => ⟨_, rfl, ⟨rfl, by rw [ht]; exact hw⟩, hS.F ht⟩) hS.2.2 d_J_fillJ_22
  · have c_1 : ¬ n ≤ i := fun z => c_1 ((nLE (a := n) (b := i) (by omega) (by omega)).mpr z)
    refine lv_aload_n hx hb d_J_fillJ_12 rfl (lv_at hl 2 rfl) ?_
    refine lv_iload_n hx hb d_J_fillJ_13 rfl (lv_at hl 1 rfl) ?_
    refine lv_lload_n hx hb d_J_fillJ_14 rfl (lv_at hl 3 rfl) ?_
    refine xr_last (i := nI i) hx hb hK hw hS t 1 xu_eq ha rfl (xvin (a := i) rfl (by omega) (by omega)) d_J_fillJ_15 (fun H locs hw hS => ?_)
    rw [show (nI i).toNatClampNeg = i from xcl (a := i) rfl (by omega)] at hw
    have hw : xw D vwCl B ad (xu (xu w t (.inl (K 1, n, .inr (.inl g)))) t (.inl (K 1, n, .inr (.inl (vp_updL g i u))))) H := hw
    refine lv_iinc (v := nI i + 1) (lv' := [(3, .int (nI i + 1)), (4, .int (nI n)), (0, .ref a), (1, .long u)]) hx hb d_J_fillJ_16 hl (k := 1) rfl rfl (by decide) rfl (fun ls hl => ?_)
    refine lv_goto (tgt := 6) hx hb d_J_fillJ_19 (by decide) ?_
    refine ih (by omega) _ _ _ ⟨vp_updL g i u, by rw [xu_xu] at hw; exact hw, hS, fun j hj => ?_, ?_⟩
    · by_cases hji : j = i
      · rw [hji]; exact pk_uLs
      · rw [pk_uLn hji]; exact hg j (by omega)
    · rw [show nI (i + 1) = nI i + 1 from nI_succ i]; exact lv_sub hl [1, 0, 2, 3] rfl
set_option maxHeartbeats 4000000 in
set_option maxRecDepth 100000 in
theorem c_S_init {l : Launch} {D : va_G} {K : Nat → ClassId} {B : Nat} {ad : Nat → Nat} {w : Nat → Option va_E} {H : Heap} (hw : xw D vwCl B ad w H) (t t1 : Nat) (y1 y2 y3 : Int32) (hd : t ≠ t1) (h0 : w t = some (.inr (2, [.int 0, .int 0, .int 0, .null]))) (hB : B ≤ H.size) (a : Nat) (ha : ad t = a) : xC l D K B y_S_init b_S_init 4 none rm_S_init [.ref a, .int y1, .int y2, .int y3] H (fun v H1 => v = none ∧ ∃ (ad1 : Nat → Nat) (w1 : Nat → Option va_E), xw D vwCl B ad1 w1 H1 ∧ w1 t = some (.inr (2, [.int y1, .int y2, .int y3, .ref (ad1 t1)])) ∧ w1 t1 = some (.inl (K 1, 4, .inr (.inl (fun _ => 0)))) ∧ ad1 t = ad t ∧ Fr ad ad1 w w1 [t, t1]) := by
  refine Met.ofW (cc := b_S_init) (maxL := 4) (ret := none) (by decide) rfl ?_
  intro p e s m args below meth c s₁ B0 hml hv
  obtain ⟨rfl, hsz, hK, hN⟩ := hv
  have hx := B0.exec
  have hb := B0.bytes
  have hr := B0.returns
  have htw : ∀ w ∈ xW0, w.before [.ref a, .int y1, .int y2, .int y3].toArray s = true := fun w h => atoms_spec (ws := Cond.code y_S_init b_S_init 4 none :: xW0) B0.pre w (List.mem_cons_of_mem _ h)
  have hown : s.vm.findClass R_S = some m.cls := findClass_of_methodNamed B0.named
  have hlocks := B0.notSynchronized
  have hin : meth.name = "<init>" := (name_of_methodNamed B0.named B0.method).1
  subst hsz
  have hS : va_S (fun q => B ≤ q) s.heap s.heap [] := va_S.rf
  have hl := lv_entry ([.ref a, .int y1, .int y2, .int y3]) (n := 4) (Nat.le_of_ble_eq_true rfl)
  rw [lg_entry_eq]
  generalize (lg_sl ([.ref a, .int y1, .int y2, .int y3]) ++ List.replicate (4 - (lg_sl ([.ref a, .int y1, .int y2, .int y3])).length) Slot.unset).toArray = ls at hl ⊢
  have hl : lv_has ls 4 [(0, .ref a), (1, .int y1), (2, .int y2), (3, .int y3)] := hl
  have hH : s.heap = s.heap := rfl
  refine lv_aload_n hx hb d_S_init_0 rfl (lv_at hl 0 rfl) ?_
  refine W.objInit hx hb hown (htw _ u_153) (htw _ u_15) (htw _ u_16) rfl (by rw [hml]; exact hl.1) rfl d_S_init_1 (Nat.le_of_ble_eq_true rfl) (Nat.le_of_ble_eq_true rfl) ?_
  refine W.eq (g2 := F0 m 4 ls []) rfl ?_
  refine lv_aload_n hx hb d_S_init_4 rfl (lv_at hl 0 rfl) ?_
  refine lv_iload_n hx hb d_S_init_5 rfl (lv_at hl 1 rfl) ?_
  refine xr_putF (ci := 2) (v := .int y1) (ty := .int) (C := R_S) (T := T_S) (N := 4) hx hb htw in_S ty_S tk_S nm_S hown hK hw hS t h0 ha rfl 0 (by decide) (htw _ u_154) (fun _ h9 => h9) rfl hin rfl (by decide +kernel) rfl rfl (Nat.le_of_ble_eq_true rfl) d_S_init_6 (fun H locs hw hS => ?_)
  have hw : xw D vwCl B ad (xu w t (.inr (2, [.int y1, .int 0, .int 0, .null]))) H := hw
  refine lv_aload_n hx hb d_S_init_9 rfl (lv_at hl 0 rfl) ?_
  refine lv_iload_n hx hb d_S_init_10 rfl (lv_at hl 2 rfl) ?_
  refine xr_putF (ci := 2) (v := .int y2) (ty := .int) (C := R_S) (T := T_S) (N := 4) hx hb htw in_S ty_S tk_S nm_S hown hK hw hS t xu_eq ha rfl 1 (by decide) (htw _ u_155) (fun _ h9 => h9) rfl hin rfl (by decide +kernel) rfl rfl (Nat.le_of_ble_eq_true rfl) d_S_init_11 (fun H locs hw hS => ?_)
  have hw : xw D vwCl B ad (xu (xu w t (.inr (2, [.int y1, .int 0, .int 0, .null]))) t (.inr (2, [.int y1, .int y2, .int 0, .null]))) H := hw
  refine lv_aload_n hx hb d_S_init_14 rfl (lv_at hl 0 rfl) ?_
  refine lv_iload_n hx hb d_S_init_15 rfl (lv_at hl 3 rfl) ?_
  refine xr_putF (ci := 2) (v := .int y3) (ty := .int) (C := R_S) (T := T_S) (N := 4) hx hb htw in_S ty_S tk_S nm_S hown hK hw hS t xu_eq ha rfl 2 (by decide) (htw _ u_156) (fun _ h9 => h9) rfl hin rfl (by decide +kernel) rfl rfl (Nat.le_of_ble_eq_true rfl) d_S_init_16 (fun H locs hw hS => ?_)
  have hw : xw D vwCl B ad (xu (xu (xu w t (.inr (2, [.int y1, .int 0, .int 0, .null]))) t (.inr (2, [.int y1, .int y2, .int 0, .null]))) t (.inr (2, [.int y1, .int y2, .int y3, .null]))) H := hw
  refine lv_aload_n hx hb d_S_init_19 rfl (lv_at hl 0 rfl) ?_
  refine lv_iconst (v := 4) hx hb d_S_init_20 (by decide) ?_
  refine xr_newa (atype := .long) (a0 := (4, .inr (.inl (fun _ => 0)))) (N' := 4) hx hb (htw _ u_40) (ty := .long) rfl hK hw hS hB t1 1 rfl (fun _ h => by cases h) (fun _ => rfl) (by decide) (by decide) (by decide) (by decide) (by decide) d_S_init_21 (fun H ad_2 q_1 eq_1 lq_1 hw hS => ?_)
  have hw : xw D vwCl B ad_2 (xu (xu (xu (xu w t (.inr (2, [.int y1, .int 0, .int 0, .null]))) t (.inr (2, [.int y1, .int y2, .int 0, .null]))) t (.inr (2, [.int y1, .int y2, .int y3, .null]))) t1 (.inl (K 1, 4, .inr (.inl (fun _ => 0))))) H := hw
  have aq_1 : ad_2 t1 = q_1 := by rw [eq_1]; exact xa_eq
  refine xr_putF (ci := 2) (v := .ref q_1) (ty := .array .long) (C := R_S) (T := T_S) (N := 4) hx hb htw in_S ty_S tk_S nm_S hown hK hw hS t ((xu_ne (by omega)).trans (xu_eq)) ((show ad_2 t = ad t by rw [eq_1]; exact xa_ne (by omega)).trans ha) rfl 3 (by decide) (htw _ u_157) (fun _ h9 => h9) rfl hin rfl (by decide +kernel) rfl rfl (Nat.le_of_ble_eq_true rfl) d_S_init_23 (fun H locs hw hS => ?_)
  have hw : xw D vwCl B ad_2 (xu (xu (xu (xu (xu w t (.inr (2, [.int y1, .int 0, .int 0, .null]))) t (.inr (2, [.int y1, .int y2, .int 0, .null]))) t (.inr (2, [.int y1, .int y2, .int y3, .null]))) t1 (.inl (K 1, 4, .inr (.inl (fun _ => 0))))) t (.inr (2, [.int y1, .int y2, .int y3, .ref q_1]))) H := hw
  have hz : ∀ u, u ∉ ([t, t1] : List Nat) → u ≠ t ∧ u ≠ t1 := fun u hu => by simp only [List.mem_cons, List.not_mem_nil, or_false, not_or] at hu; omega
  exact W.vret hx hb hr (fun t ht _ => ⟨_, rfl, ⟨rfl, ad_2, _, by rw [ht]; exact hw, by simp (disch := omega) only [xu_eq, xu_ne, xa_eq, xa_ne, eq_1], by simp (disch := omega) only [xu_eq, xu_ne, xa_eq, xa_ne, eq_1], by simp (disch := omega) only [xu_eq, xu_ne, xa_eq, xa_ne, eq_1], fun u hu => by have hq := hz u hu; exact ⟨by simp (disch := omega) only [xu_eq, xu_ne, xa_eq, xa_ne, eq_1], by simp (disch := omega) only [xu_eq, xu_ne, xa_eq, xa_ne, eq_1]⟩⟩, hS.F ht⟩) hS.2.2 d_S_init_26
set_option maxHeartbeats 4000000 in
set_option maxRecDepth 100000 in
theorem c_R_init {l : Launch} {D : va_G} {K : Nat → ClassId} {B : Nat} {ad : Nat → Nat} {w : Nat → Option va_E} {H : Heap} (hw : xw D vwCl B ad w H) (t : Nat) (y1 y2 y3 y4 : Int32) (h0 : w t = some (.inr (3, [.int 0, .int 0, .int 0, .int 0]))) (a : Nat) (ha : ad t = a) : xC l D K B y_R_init b_R_init 5 none rm_R_init [.ref a, .int y1, .int y2, .int y3, .int y4] H (fun v H1 => v = none ∧ ∃ (ad1 : Nat → Nat) (w1 : Nat → Option va_E), xw D vwCl B ad1 w1 H1 ∧ w1 t = some (.inr (3, [.int y1, .int y2, .int y3, .int y4])) ∧ ad1 t = ad t ∧ Fr ad ad1 w w1 [t]) := by
  refine Met.ofW (cc := b_R_init) (maxL := 5) (ret := none) (by decide) rfl ?_
  intro p e s m args below meth c s₁ B0 hml hv
  obtain ⟨rfl, hsz, hK, hN⟩ := hv
  have hx := B0.exec
  have hb := B0.bytes
  have hr := B0.returns
  have htw : ∀ w ∈ xW0, w.before [.ref a, .int y1, .int y2, .int y3, .int y4].toArray s = true := fun w h => atoms_spec (ws := Cond.code y_R_init b_R_init 5 none :: xW0) B0.pre w (List.mem_cons_of_mem _ h)
  have hown : s.vm.findClass R_R = some m.cls := findClass_of_methodNamed B0.named
  have hlocks := B0.notSynchronized
  have hin : meth.name = "<init>" := (name_of_methodNamed B0.named B0.method).1
  subst hsz
  have hS : va_S (fun q => B ≤ q) s.heap s.heap [] := va_S.rf
  have hl := lv_entry ([.ref a, .int y1, .int y2, .int y3, .int y4]) (n := 5) (Nat.le_of_ble_eq_true rfl)
  rw [lg_entry_eq]
  generalize (lg_sl ([.ref a, .int y1, .int y2, .int y3, .int y4]) ++ List.replicate (5 - (lg_sl ([.ref a, .int y1, .int y2, .int y3, .int y4])).length) Slot.unset).toArray = ls at hl ⊢
  have hl : lv_has ls 5 [(0, .ref a), (1, .int y1), (2, .int y2), (3, .int y3), (4, .int y4)] := hl
  have hH : s.heap = s.heap := rfl
  refine lv_aload_n hx hb d_R_init_0 rfl (lv_at hl 0 rfl) ?_
  refine W.objInit hx hb hown (htw _ u_286) (htw _ u_15) (htw _ u_16) rfl (by rw [hml]; exact hl.1) rfl d_R_init_1 (Nat.le_of_ble_eq_true rfl) (Nat.le_of_ble_eq_true rfl) ?_
  refine W.eq (g2 := F0 m 4 ls []) rfl ?_
  refine lv_aload_n hx hb d_R_init_4 rfl (lv_at hl 0 rfl) ?_
  refine lv_iload_n hx hb d_R_init_5 rfl (lv_at hl 1 rfl) ?_
  refine xr_putF (ci := 3) (v := .int y1) (ty := .int) (C := R_R) (T := T_R) (N := 4) hx hb htw in_R ty_R tk_R nm_R hown hK hw hS t h0 ha rfl 0 (by decide) (htw _ u_287) (fun _ h9 => h9) rfl hin rfl (by decide +kernel) rfl rfl (Nat.le_of_ble_eq_true rfl) d_R_init_6 (fun H locs hw hS => ?_)
  have hw : xw D vwCl B ad (xu w t (.inr (3, [.int y1, .int 0, .int 0, .int 0]))) H := hw
  refine lv_aload_n hx hb d_R_init_9 rfl (lv_at hl 0 rfl) ?_
  refine lv_iload_n hx hb d_R_init_10 rfl (lv_at hl 2 rfl) ?_
  refine xr_putF (ci := 3) (v := .int y2) (ty := .int) (C := R_R) (T := T_R) (N := 4) hx hb htw in_R ty_R tk_R nm_R hown hK hw hS t xu_eq ha rfl 1 (by decide) (htw _ u_289) (fun _ h9 => h9) rfl hin rfl (by decide +kernel) rfl rfl (Nat.le_of_ble_eq_true rfl) d_R_init_11 (fun H locs hw hS => ?_)
  have hw : xw D vwCl B ad (xu (xu w t (.inr (3, [.int y1, .int 0, .int 0, .int 0]))) t (.inr (3, [.int y1, .int y2, .int 0, .int 0]))) H := hw
  refine lv_aload_n hx hb d_R_init_14 rfl (lv_at hl 0 rfl) ?_
  refine lv_iload_n hx hb d_R_init_15 rfl (lv_at hl 3 rfl) ?_
  refine xr_putF (ci := 3) (v := .int y3) (ty := .int) (C := R_R) (T := T_R) (N := 4) hx hb htw in_R ty_R tk_R nm_R hown hK hw hS t xu_eq ha rfl 2 (by decide) (htw _ u_290) (fun _ h9 => h9) rfl hin rfl (by decide +kernel) rfl rfl (Nat.le_of_ble_eq_true rfl) d_R_init_16 (fun H locs hw hS => ?_)
  have hw : xw D vwCl B ad (xu (xu (xu w t (.inr (3, [.int y1, .int 0, .int 0, .int 0]))) t (.inr (3, [.int y1, .int y2, .int 0, .int 0]))) t (.inr (3, [.int y1, .int y2, .int y3, .int 0]))) H := hw
  refine lv_aload_n hx hb d_R_init_19 rfl (lv_at hl 0 rfl) ?_
  refine lv_iload hx hb d_R_init_20 (lv_at hl 4 rfl) ?_
  refine xr_putF (ci := 3) (v := .int y4) (ty := .int) (C := R_R) (T := T_R) (N := 4) hx hb htw in_R ty_R tk_R nm_R hown hK hw hS t xu_eq ha rfl 3 (by decide) (htw _ u_291) (fun _ h9 => h9) rfl hin rfl (by decide +kernel) rfl rfl (Nat.le_of_ble_eq_true rfl) d_R_init_22 (fun H locs hw hS => ?_)
  have hw : xw D vwCl B ad (xu (xu (xu (xu w t (.inr (3, [.int y1, .int 0, .int 0, .int 0]))) t (.inr (3, [.int y1, .int y2, .int 0, .int 0]))) t (.inr (3, [.int y1, .int y2, .int y3, .int 0]))) t (.inr (3, [.int y1, .int y2, .int y3, .int y4]))) H := hw
  have hz : ∀ u, u ∉ ([t] : List Nat) → u ≠ t := fun u hu => by simp only [List.mem_cons, List.not_mem_nil, or_false, not_or] at hu; omega
  exact W.vret hx hb hr (fun t ht _ => ⟨_, rfl, ⟨rfl, ad, _, by rw [ht]; exact hw, by simp (disch := omega) only [xu_eq, xu_ne, xa_eq, xa_ne], rfl, fun u hu => by have hq := hz u hu; exact ⟨by simp (disch := omega) only [xu_eq, xu_ne, xa_eq, xa_ne], rfl⟩⟩, hS.F ht⟩) hS.2.2 d_R_init_25
set_option maxHeartbeats 4000000 in
set_option maxRecDepth 100000 in
theorem c_P_init {l : Launch} {D : va_G} {K : Nat → ClassId} {B : Nat} {ad : Nat → Nat} {w : Nat → Option va_E} {H : Heap} (hw : xw D vwCl B ad w H) (t t1 t2 t3 : Nat) (hd : t ≠ t1 ∧ t ≠ t2 ∧ t ≠ t3 ∧ t1 ≠ t2 ∧ t1 ≠ t3 ∧ t2 ≠ t3) (h0 : w t = some (.inr (4, [.null, .null, .null]))) (hB : B ≤ H.size) (a : Nat) (ha : ad t = a) : xC l D K B y_P_init b_P_init 1 none rm_P_init [.ref a] H (fun v H1 => v = none ∧ ∃ (ad1 : Nat → Nat) (w1 : Nat → Option va_E), xw D vwCl B ad1 w1 H1 ∧ w1 t = some (.inr (4, [.ref (ad1 t1), .ref (ad1 t2), .ref (ad1 t3)])) ∧ w1 t1 = some (.inl (K 0, 4, .inl (fun _ => 0))) ∧ w1 t2 = some (.inl (K 0, 24, .inl (fun _ => 0))) ∧ w1 t3 = some (.inl (K 1, 24, .inr (.inl (fun _ => 0)))) ∧ ad1 t = ad t ∧ Fr ad ad1 w w1 [t, t1, t2, t3]) := by
  refine Met.ofW (cc := b_P_init) (maxL := 1) (ret := none) (by decide) rfl ?_
  intro p e s m args below meth c s₁ B0 hml hv
  obtain ⟨rfl, hsz, hK, hN⟩ := hv
  have hx := B0.exec
  have hb := B0.bytes
  have hr := B0.returns
  have htw : ∀ w ∈ xW0, w.before [.ref a].toArray s = true := fun w h => atoms_spec (ws := Cond.code y_P_init b_P_init 1 none :: xW0) B0.pre w (List.mem_cons_of_mem _ h)
  have hown : s.vm.findClass R_P = some m.cls := findClass_of_methodNamed B0.named
  have hlocks := B0.notSynchronized
  have hin : meth.name = "<init>" := (name_of_methodNamed B0.named B0.method).1
  subst hsz
  have hS : va_S (fun q => B ≤ q) s.heap s.heap [] := va_S.rf
  have hl := lv_entry ([.ref a]) (n := 1) (Nat.le_of_ble_eq_true rfl)
  rw [lg_entry_eq]
  generalize (lg_sl ([.ref a]) ++ List.replicate (1 - (lg_sl ([.ref a])).length) Slot.unset).toArray = ls at hl ⊢
  have hl : lv_has ls 1 [(0, .ref a)] := hl
  have hH : s.heap = s.heap := rfl
  refine lv_aload_n hx hb d_P_init_0 rfl (lv_at hl 0 rfl) ?_
  refine W.objInit hx hb hown (htw _ u_28) (htw _ u_15) (htw _ u_16) rfl (by rw [hml]; exact hl.1) rfl d_P_init_1 (Nat.le_of_ble_eq_true rfl) (Nat.le_of_ble_eq_true rfl) ?_
  refine W.eq (g2 := F0 m 4 ls []) rfl ?_
  refine lv_aload_n hx hb d_P_init_4 rfl (lv_at hl 0 rfl) ?_
  refine lv_iconst (v := 4) hx hb d_P_init_5 (by decide) ?_
  refine xr_newa (atype := .int) (a0 := (4, .inl (fun _ => 0))) (N' := 4) hx hb (htw _ u_39) (ty := .int) rfl hK hw hS hB t1 0 rfl (fun _ h => by cases h) (fun _ => rfl) (by decide) (by decide) (by decide) (by decide) (by decide) d_P_init_6 (fun H ad_2 q_1 eq_1 lq_1 hw hS => ?_)
  have hw : xw D vwCl B ad_2 (xu w t1 (.inl (K 0, 4, .inl (fun _ => 0)))) H := hw
  have aq_1 : ad_2 t1 = q_1 := by rw [eq_1]; exact xa_eq
  refine xr_putF (ci := 4) (v := .ref q_1) (ty := .array .int) (C := R_P) (T := T_P) (N := 3) hx hb htw in_P ty_P tk_P nm_P hown hK hw hS t ((xu_ne (by omega)).trans (h0)) ((show ad_2 t = ad t by rw [eq_1]; exact xa_ne (by omega)).trans ha) rfl 0 (by decide) (htw _ u_29) (fun _ h9 => h9) rfl hin rfl (by decide +kernel) rfl rfl (Nat.le_of_ble_eq_true rfl) d_P_init_8 (fun H locs hw hS => ?_)
  have hw : xw D vwCl B ad_2 (xu (xu w t1 (.inl (K 0, 4, .inl (fun _ => 0)))) t (.inr (4, [.ref q_1, .null, .null]))) H := hw
  refine lv_aload_n hx hb d_P_init_11 rfl (lv_at hl 0 rfl) ?_
  refine lv_bipush (v := 24) hx hb d_P_init_12 (by decide) ?_
  refine xr_newa (atype := .int) (a0 := (24, .inl (fun _ => 0))) (N' := 24) hx hb (htw _ u_39) (ty := .int) rfl hK hw hS hB t2 0 rfl (fun _ h => by cases h) (fun _ => rfl) (by decide) (by decide) (by decide) (by decide) (by decide) d_P_init_14 (fun H ad_4 q_3 eq_3 lq_3 hw hS => ?_)
  have hw : xw D vwCl B ad_4 (xu (xu (xu w t1 (.inl (K 0, 4, .inl (fun _ => 0)))) t (.inr (4, [.ref q_1, .null, .null]))) t2 (.inl (K 0, 24, .inl (fun _ => 0)))) H := hw
  have aq_3 : ad_4 t2 = q_3 := by rw [eq_3]; exact xa_eq
  refine xr_putF (ci := 4) (v := .ref q_3) (ty := .array .int) (C := R_P) (T := T_P) (N := 3) hx hb htw in_P ty_P tk_P nm_P hown hK hw hS t ((xu_ne (by omega)).trans (xu_eq)) ((show ad_4 t = ad_2 t by rw [eq_3]; exact xa_ne (by omega)).trans ((show ad_2 t = ad t by rw [eq_1]; exact xa_ne (by omega)).trans ha)) rfl 1 (by decide) (htw _ u_30) (fun _ h9 => h9) rfl hin rfl (by decide +kernel) rfl rfl (Nat.le_of_ble_eq_true rfl) d_P_init_16 (fun H locs hw hS => ?_)
  have hw : xw D vwCl B ad_4 (xu (xu (xu (xu w t1 (.inl (K 0, 4, .inl (fun _ => 0)))) t (.inr (4, [.ref q_1, .null, .null]))) t2 (.inl (K 0, 24, .inl (fun _ => 0)))) t (.inr (4, [.ref q_1, .ref q_3, .null]))) H := hw
  refine lv_aload_n hx hb d_P_init_19 rfl (lv_at hl 0 rfl) ?_
  refine lv_bipush (v := 24) hx hb d_P_init_20 (by decide) ?_
  refine xr_newa (atype := .long) (a0 := (24, .inr (.inl (fun _ => 0)))) (N' := 24) hx hb (htw _ u_40) (ty := .long) rfl hK hw hS hB t3 1 rfl (fun _ h => by cases h) (fun _ => rfl) (by decide) (by decide) (by decide) (by decide) (by decide) d_P_init_22 (fun H ad_6 q_5 eq_5 lq_5 hw hS => ?_)
  have hw : xw D vwCl B ad_6 (xu (xu (xu (xu (xu w t1 (.inl (K 0, 4, .inl (fun _ => 0)))) t (.inr (4, [.ref q_1, .null, .null]))) t2 (.inl (K 0, 24, .inl (fun _ => 0)))) t (.inr (4, [.ref q_1, .ref q_3, .null]))) t3 (.inl (K 1, 24, .inr (.inl (fun _ => 0))))) H := hw
  have aq_5 : ad_6 t3 = q_5 := by rw [eq_5]; exact xa_eq
  refine xr_putF (ci := 4) (v := .ref q_5) (ty := .array .long) (C := R_P) (T := T_P) (N := 3) hx hb htw in_P ty_P tk_P nm_P hown hK hw hS t ((xu_ne (by omega)).trans (xu_eq)) ((show ad_6 t = ad_4 t by rw [eq_5]; exact xa_ne (by omega)).trans ((show ad_4 t = ad_2 t by rw [eq_3]; exact xa_ne (by omega)).trans ((show ad_2 t = ad t by rw [eq_1]; exact xa_ne (by omega)).trans ha))) rfl 2 (by decide) (htw _ u_31) (fun _ h9 => h9) rfl hin rfl (by decide +kernel) rfl rfl (Nat.le_of_ble_eq_true rfl) d_P_init_24 (fun H locs hw hS => ?_)
  have hw : xw D vwCl B ad_6 (xu (xu (xu (xu (xu (xu w t1 (.inl (K 0, 4, .inl (fun _ => 0)))) t (.inr (4, [.ref q_1, .null, .null]))) t2 (.inl (K 0, 24, .inl (fun _ => 0)))) t (.inr (4, [.ref q_1, .ref q_3, .null]))) t3 (.inl (K 1, 24, .inr (.inl (fun _ => 0))))) t (.inr (4, [.ref q_1, .ref q_3, .ref q_5]))) H := hw
  have hz : ∀ u, u ∉ ([t, t1, t2, t3] : List Nat) → u ≠ t ∧ u ≠ t1 ∧ u ≠ t2 ∧ u ≠ t3 := fun u hu => by simp only [List.mem_cons, List.not_mem_nil, or_false, not_or] at hu; omega
  exact W.vret hx hb hr (fun t ht _ => ⟨_, rfl, ⟨rfl, ad_6, _, by rw [ht]; exact hw, by simp (disch := omega) only [xu_eq, xu_ne, xa_eq, xa_ne, eq_1, eq_3, eq_5], by simp (disch := omega) only [xu_eq, xu_ne, xa_eq, xa_ne, eq_1, eq_3, eq_5], by simp (disch := omega) only [xu_eq, xu_ne, xa_eq, xa_ne, eq_1, eq_3, eq_5], by simp (disch := omega) only [xu_eq, xu_ne, xa_eq, xa_ne, eq_1, eq_3, eq_5], by simp (disch := omega) only [xu_eq, xu_ne, xa_eq, xa_ne, eq_1, eq_3, eq_5], fun u hu => by have hq := hz u hu; exact ⟨by simp (disch := omega) only [xu_eq, xu_ne, xa_eq, xa_ne, eq_1, eq_3, eq_5], by simp (disch := omega) only [xu_eq, xu_ne, xa_eq, xa_ne, eq_1, eq_3, eq_5]⟩⟩, hS.F ht⟩) hS.2.2 d_P_init_27
set_option maxHeartbeats 4000000 in
set_option maxRecDepth 100000 in
theorem c_B_init {l : Launch} {D : va_G} {K : Nat → ClassId} {B : Nat} {ad : Nat → Nat} {w : Nat → Option va_E} {H : Heap} (hw : xw D vwCl B ad w H) (t t1 t2 t3 : Nat) (g : Int64) (d : Int32) (bb : Bool) (hd : t ≠ t1 ∧ t ≠ t2 ∧ t ≠ t3 ∧ t1 ≠ t2 ∧ t1 ≠ t3 ∧ t2 ≠ t3) (h0 : w t = some (.inr (1, [.int 0, .int 0, .null, .null, .null, .long 0, .int 0, .int 0, .int 0]))) (hB : B ≤ H.size) (a : Nat) (ha : ad t = a) : xC l D K B y_B_init b_B_init 5 none rm_B_init [.ref a, .long g, .int d, .int (bI bb)] H (fun v H1 => v = none ∧ ∃ (ad1 : Nat → Nat) (w1 : Nat → Option va_E), xw D vwCl B ad1 w1 H1 ∧ w1 t = some (.inr (1, [.int d, .int (bI bb), .ref (ad1 t1), .ref (ad1 t2), .ref (ad1 t3), .long g, .int 0, .int 0, .int 0])) ∧ w1 t1 = some (.inl (K 1, 4, .inr (.inl (fun _ => 0)))) ∧ w1 t2 = some (.inl (K 1, 24, .inr (.inl (fun _ => 0)))) ∧ w1 t3 = some (.inl (K 0, 12, .inl (fun _ => -1))) ∧ ad1 t = ad t ∧ Fr ad ad1 w w1 [t, t1, t2, t3]) := by
  refine Met.ofW (cc := b_B_init) (maxL := 5) (ret := none) (by decide) rfl ?_
  intro p e s m args below meth c s₁ B0 hml hv
  obtain ⟨rfl, hsz, hK, hN⟩ := hv
  have hx := B0.exec
  have hb := B0.bytes
  have hr := B0.returns
  have htw : ∀ w ∈ xW0, w.before [.ref a, .long g, .int d, .int (bI bb)].toArray s = true := fun w h => atoms_spec (ws := Cond.code y_B_init b_B_init 5 none :: xW0) B0.pre w (List.mem_cons_of_mem _ h)
  have hown : s.vm.findClass R_B = some m.cls := findClass_of_methodNamed B0.named
  have hlocks := B0.notSynchronized
  have hin : meth.name = "<init>" := (name_of_methodNamed B0.named B0.method).1
  subst hsz
  have hS : va_S (fun q => B ≤ q) s.heap s.heap [] := va_S.rf
  have hl := lv_entry ([.ref a, .long g, .int d, .int (bI bb)]) (n := 5) (Nat.le_of_ble_eq_true rfl)
  rw [lg_entry_eq]
  generalize (lg_sl ([.ref a, .long g, .int d, .int (bI bb)]) ++ List.replicate (5 - (lg_sl ([.ref a, .long g, .int d, .int (bI bb)])).length) Slot.unset).toArray = ls at hl ⊢
  have hl : lv_has ls 5 [(0, .ref a), (1, .long g), (3, .int d), (4, .int (bI bb))] := hl
  have hH : s.heap = s.heap := rfl
  refine lv_aload_n hx hb d_B_init_0 rfl (lv_at hl 0 rfl) ?_
  refine W.objInit hx hb hown (htw _ u_84) (htw _ u_15) (htw _ u_16) rfl (by rw [hml]; exact hl.1) rfl d_B_init_1 (Nat.le_of_ble_eq_true rfl) (Nat.le_of_ble_eq_true rfl) ?_
  refine W.eq (g2 := F0 m 4 ls []) rfl ?_
  refine lv_aload_n hx hb d_B_init_4 rfl (lv_at hl 0 rfl) ?_
  refine lv_lload_n hx hb d_B_init_5 rfl (lv_at hl 1 rfl) ?_
  refine xr_put (ci := 1) (v := .long g) (ty := .long) (C := R_B) (T := T_B) (N := 9) hx hb htw in_B ty_B tk_B nm_B hown hK hw hS t h0 ha rfl 5 (by decide) (htw _ u_99) (fun _ h9 => h9) rfl (by decide +kernel) rfl rfl (Nat.le_of_ble_eq_true rfl) d_B_init_6 (fun H locs hw hS => ?_)
  have hw : xw D vwCl B ad (xu w t (.inr (1, [.int 0, .int 0, .null, .null, .null, .long g, .int 0, .int 0, .int 0]))) H := hw
  refine lv_aload_n hx hb d_B_init_9 rfl (lv_at hl 0 rfl) ?_
  refine lv_iload_n hx hb d_B_init_10 rfl (lv_at hl 2 rfl) ?_
  refine xr_putF (ci := 1) (v := .int d) (ty := .int) (C := R_B) (T := T_B) (N := 9) hx hb htw in_B ty_B tk_B nm_B hown hK hw hS t xu_eq ha rfl 0 (by decide) (htw _ u_88) (fun _ h9 => h9) rfl hin rfl (by decide +kernel) rfl rfl (Nat.le_of_ble_eq_true rfl) d_B_init_11 (fun H locs hw hS => ?_)
  have hw : xw D vwCl B ad (xu (xu w t (.inr (1, [.int 0, .int 0, .null, .null, .null, .long g, .int 0, .int 0, .int 0]))) t (.inr (1, [.int d, .int 0, .null, .null, .null, .long g, .int 0, .int 0, .int 0]))) H := hw
  refine lv_aload_n hx hb d_B_init_14 rfl (lv_at hl 0 rfl) ?_
  refine lv_iload hx hb d_B_init_15 (lv_at hl 3 rfl) ?_
  refine xr_putF (ci := 1) (v := .int (bI bb)) (ty := .boolean) (C := R_B) (T := T_B) (N := 9) hx hb htw in_B ty_B tk_B nm_B hown hK hw hS t xu_eq ha rfl 1 (by decide) (htw _ u_91) (fun _ h9 => h9) rfl hin rfl (by decide +kernel) bI_nar bI_fit (Nat.le_of_ble_eq_true rfl) d_B_init_17 (fun H locs hw hS => ?_)
  have hw : xw D vwCl B ad (xu (xu (xu w t (.inr (1, [.int 0, .int 0, .null, .null, .null, .long g, .int 0, .int 0, .int 0]))) t (.inr (1, [.int d, .int 0, .null, .null, .null, .long g, .int 0, .int 0, .int 0]))) t (.inr (1, [.int d, .int (bI bb), .null, .null, .null, .long g, .int 0, .int 0, .int 0]))) H := hw
  refine lv_aload_n hx hb d_B_init_20 rfl (lv_at hl 0 rfl) ?_
  refine lv_iconst (v := 4) hx hb d_B_init_21 (by decide) ?_
  refine xr_newa (atype := .long) (a0 := (4, .inr (.inl (fun _ => 0)))) (N' := 4) hx hb (htw _ u_40) (ty := .long) rfl hK hw hS hB t1 1 rfl (fun _ h => by cases h) (fun _ => rfl) (by decide) (by decide) (by decide) (by decide) (by decide) d_B_init_22 (fun H ad_2 q_1 eq_1 lq_1 hw hS => ?_)
  have hw : xw D vwCl B ad_2 (xu (xu (xu (xu w t (.inr (1, [.int 0, .int 0, .null, .null, .null, .long g, .int 0, .int 0, .int 0]))) t (.inr (1, [.int d, .int 0, .null, .null, .null, .long g, .int 0, .int 0, .int 0]))) t (.inr (1, [.int d, .int (bI bb), .null, .null, .null, .long g, .int 0, .int 0, .int 0]))) t1 (.inl (K 1, 4, .inr (.inl (fun _ => 0))))) H := hw
  have aq_1 : ad_2 t1 = q_1 := by rw [eq_1]; exact xa_eq
  refine xr_putF (ci := 1) (v := .ref q_1) (ty := .array .long) (C := R_B) (T := T_B) (N := 9) hx hb htw in_B ty_B tk_B nm_B hown hK hw hS t ((xu_ne (by omega)).trans (xu_eq)) ((show ad_2 t = ad t by rw [eq_1]; exact xa_ne (by omega)).trans ha) rfl 2 (by decide) (htw _ u_93) (fun _ h9 => h9) rfl hin rfl (by decide +kernel) rfl rfl (Nat.le_of_ble_eq_true rfl) d_B_init_24 (fun H locs hw hS => ?_)
  have hw : xw D vwCl B ad_2 (xu (xu (xu (xu (xu w t (.inr (1, [.int 0, .int 0, .null, .null, .null, .long g, .int 0, .int 0, .int 0]))) t (.inr (1, [.int d, .int 0, .null, .null, .null, .long g, .int 0, .int 0, .int 0]))) t (.inr (1, [.int d, .int (bI bb), .null, .null, .null, .long g, .int 0, .int 0, .int 0]))) t1 (.inl (K 1, 4, .inr (.inl (fun _ => 0))))) t (.inr (1, [.int d, .int (bI bb), .ref q_1, .null, .null, .long g, .int 0, .int 0, .int 0]))) H := hw
  refine lv_aload_n hx hb d_B_init_27 rfl (lv_at hl 0 rfl) ?_
  refine lv_bipush (v := 24) hx hb d_B_init_28 (by decide) ?_
  refine xr_newa (atype := .long) (a0 := (24, .inr (.inl (fun _ => 0)))) (N' := 24) hx hb (htw _ u_40) (ty := .long) rfl hK hw hS hB t2 1 rfl (fun _ h => by cases h) (fun _ => rfl) (by decide) (by decide) (by decide) (by decide) (by decide) d_B_init_30 (fun H ad_4 q_3 eq_3 lq_3 hw hS => ?_)
  have hw : xw D vwCl B ad_4 (xu (xu (xu (xu (xu (xu w t (.inr (1, [.int 0, .int 0, .null, .null, .null, .long g, .int 0, .int 0, .int 0]))) t (.inr (1, [.int d, .int 0, .null, .null, .null, .long g, .int 0, .int 0, .int 0]))) t (.inr (1, [.int d, .int (bI bb), .null, .null, .null, .long g, .int 0, .int 0, .int 0]))) t1 (.inl (K 1, 4, .inr (.inl (fun _ => 0))))) t (.inr (1, [.int d, .int (bI bb), .ref q_1, .null, .null, .long g, .int 0, .int 0, .int 0]))) t2 (.inl (K 1, 24, .inr (.inl (fun _ => 0))))) H := hw
  have aq_3 : ad_4 t2 = q_3 := by rw [eq_3]; exact xa_eq
  refine xr_putF (ci := 1) (v := .ref q_3) (ty := .array .long) (C := R_B) (T := T_B) (N := 9) hx hb htw in_B ty_B tk_B nm_B hown hK hw hS t ((xu_ne (by omega)).trans (xu_eq)) ((show ad_4 t = ad_2 t by rw [eq_3]; exact xa_ne (by omega)).trans ((show ad_2 t = ad t by rw [eq_1]; exact xa_ne (by omega)).trans ha)) rfl 3 (by decide) (htw _ u_95) (fun _ h9 => h9) rfl hin rfl (by decide +kernel) rfl rfl (Nat.le_of_ble_eq_true rfl) d_B_init_32 (fun H locs hw hS => ?_)
  have hw : xw D vwCl B ad_4 (xu (xu (xu (xu (xu (xu (xu w t (.inr (1, [.int 0, .int 0, .null, .null, .null, .long g, .int 0, .int 0, .int 0]))) t (.inr (1, [.int d, .int 0, .null, .null, .null, .long g, .int 0, .int 0, .int 0]))) t (.inr (1, [.int d, .int (bI bb), .null, .null, .null, .long g, .int 0, .int 0, .int 0]))) t1 (.inl (K 1, 4, .inr (.inl (fun _ => 0))))) t (.inr (1, [.int d, .int (bI bb), .ref q_1, .null, .null, .long g, .int 0, .int 0, .int 0]))) t2 (.inl (K 1, 24, .inr (.inl (fun _ => 0))))) t (.inr (1, [.int d, .int (bI bb), .ref q_1, .ref q_3, .null, .long g, .int 0, .int 0, .int 0]))) H := hw
  refine lv_aload_n hx hb d_B_init_35 rfl (lv_at hl 0 rfl) ?_
  refine lv_bipush (v := 12) hx hb d_B_init_36 (by decide) ?_
  refine xr_newa (atype := .int) (a0 := (12, .inl (fun _ => 0))) (N' := 12) hx hb (htw _ u_39) (ty := .int) rfl hK hw hS hB t3 0 rfl (fun _ h => by cases h) (fun _ => rfl) (by decide) (by decide) (by decide) (by decide) (by decide) d_B_init_38 (fun H ad_6 q_5 eq_5 lq_5 hw hS => ?_)
  have hw : xw D vwCl B ad_6 (xu (xu (xu (xu (xu (xu (xu (xu w t (.inr (1, [.int 0, .int 0, .null, .null, .null, .long g, .int 0, .int 0, .int 0]))) t (.inr (1, [.int d, .int 0, .null, .null, .null, .long g, .int 0, .int 0, .int 0]))) t (.inr (1, [.int d, .int (bI bb), .null, .null, .null, .long g, .int 0, .int 0, .int 0]))) t1 (.inl (K 1, 4, .inr (.inl (fun _ => 0))))) t (.inr (1, [.int d, .int (bI bb), .ref q_1, .null, .null, .long g, .int 0, .int 0, .int 0]))) t2 (.inl (K 1, 24, .inr (.inl (fun _ => 0))))) t (.inr (1, [.int d, .int (bI bb), .ref q_1, .ref q_3, .null, .long g, .int 0, .int 0, .int 0]))) t3 (.inl (K 0, 12, .inl (fun _ => 0)))) H := hw
  have aq_5 : ad_6 t3 = q_5 := by rw [eq_5]; exact xa_eq
  refine xr_putF (ci := 1) (v := .ref q_5) (ty := .array .int) (C := R_B) (T := T_B) (N := 9) hx hb htw in_B ty_B tk_B nm_B hown hK hw hS t ((xu_ne (by omega)).trans (xu_eq)) ((show ad_6 t = ad_4 t by rw [eq_5]; exact xa_ne (by omega)).trans ((show ad_4 t = ad_2 t by rw [eq_3]; exact xa_ne (by omega)).trans ((show ad_2 t = ad t by rw [eq_1]; exact xa_ne (by omega)).trans ha))) rfl 4 (by decide) (htw _ u_97) (fun _ h9 => h9) rfl hin rfl (by decide +kernel) rfl rfl (Nat.le_of_ble_eq_true rfl) d_B_init_40 (fun H locs hw hS => ?_)
  have hw : xw D vwCl B ad_6 (xu (xu (xu (xu (xu (xu (xu (xu (xu w t (.inr (1, [.int 0, .int 0, .null, .null, .null, .long g, .int 0, .int 0, .int 0]))) t (.inr (1, [.int d, .int 0, .null, .null, .null, .long g, .int 0, .int 0, .int 0]))) t (.inr (1, [.int d, .int (bI bb), .null, .null, .null, .long g, .int 0, .int 0, .int 0]))) t1 (.inl (K 1, 4, .inr (.inl (fun _ => 0))))) t (.inr (1, [.int d, .int (bI bb), .ref q_1, .null, .null, .long g, .int 0, .int 0, .int 0]))) t2 (.inl (K 1, 24, .inr (.inl (fun _ => 0))))) t (.inr (1, [.int d, .int (bI bb), .ref q_1, .ref q_3, .null, .long g, .int 0, .int 0, .int 0]))) t3 (.inl (K 0, 12, .inl (fun _ => 0)))) t (.inr (1, [.int d, .int (bI bb), .ref q_1, .ref q_3, .ref q_5, .long g, .int 0, .int 0, .int 0]))) H := hw
  refine lv_aload_n hx hb d_B_init_43 rfl (lv_at hl 0 rfl) ?_
  refine xr_get (ci := 1) (v := .ref q_5) (C := R_B) (T := T_B) (N := 9) hx hb htw in_B hown hK hw t xu_eq ((show ad_6 t = ad_4 t by rw [eq_5]; exact xa_ne (by omega)).trans ((show ad_4 t = ad_2 t by rw [eq_3]; exact xa_ne (by omega)).trans ((show ad_2 t = ad t by rw [eq_1]; exact xa_ne (by omega)).trans ha))) rfl 4 (by decide) (htw _ u_97) (fun _ h9 => h9) rfl d_B_init_44 ?_
  refine lv_iconst (v := (-1)) hx hb d_B_init_47 (by decide) ?_
  refine xr_call (va_runS (As := [.ref q_5, .int (-1)]) (rest := []) ⟨hx, hb, hml, hown, htw⟩ (c_J_fillI (ad := ad_6) hw t3 12 (by decide) (fun _ => 0) (-1) ((xu_ne (by omega)).trans (xu_eq)) q_5 aq_5) (va_cwS 2 htw (gS u_85 u_86 u_5 u_87) rfl rfl rfl hd_J_fillI.2 ⟨Nat.le_of_ble_eq_true rfl, Nat.le_of_ble_eq_true rfl⟩) ⟨xP_blind, xP_of hK hN⟩ rfl rfl hl.1 rfl (lv_room (Nat.le_of_ble_eq_true rfl)) d_B_init_48 ⟨by decide, by decide⟩) hS (fun v H_ locs hp hS => ?_)
  obtain ⟨rfl, hw⟩ := hp
  generalize H_ = H at hw hS ⊢
  have hw : xw D vwCl B ad_6 (xu (xu (xu (xu (xu (xu (xu (xu (xu (xu w t (.inr (1, [.int 0, .int 0, .null, .null, .null, .long g, .int 0, .int 0, .int 0]))) t (.inr (1, [.int d, .int 0, .null, .null, .null, .long g, .int 0, .int 0, .int 0]))) t (.inr (1, [.int d, .int (bI bb), .null, .null, .null, .long g, .int 0, .int 0, .int 0]))) t1 (.inl (K 1, 4, .inr (.inl (fun _ => 0))))) t (.inr (1, [.int d, .int (bI bb), .ref q_1, .null, .null, .long g, .int 0, .int 0, .int 0]))) t2 (.inl (K 1, 24, .inr (.inl (fun _ => 0))))) t (.inr (1, [.int d, .int (bI bb), .ref q_1, .ref q_3, .null, .long g, .int 0, .int 0, .int 0]))) t3 (.inl (K 0, 12, .inl (fun _ => 0)))) t (.inr (1, [.int d, .int (bI bb), .ref q_1, .ref q_3, .ref q_5, .long g, .int 0, .int 0, .int 0]))) t3 (.inl (K 0, 12, .inl (fun _ => (-1))))) H := hw
  refine W.eq (g2 := F0 m 51 ls []) rfl ?_
  have hz : ∀ u, u ∉ ([t, t1, t2, t3] : List Nat) → u ≠ t ∧ u ≠ t1 ∧ u ≠ t2 ∧ u ≠ t3 := fun u hu => by simp only [List.mem_cons, List.not_mem_nil, or_false, not_or] at hu; omega
  exact W.vret hx hb hr (fun t ht _ => ⟨_, rfl, ⟨rfl, ad_6, _, by rw [ht]; exact hw, by simp (disch := omega) only [xu_eq, xu_ne, xa_eq, xa_ne, eq_1, eq_3, eq_5], by simp (disch := omega) only [xu_eq, xu_ne, xa_eq, xa_ne, eq_1, eq_3, eq_5], by simp (disch := omega) only [xu_eq, xu_ne, xa_eq, xa_ne, eq_1, eq_3, eq_5], by simp (disch := omega) only [xu_eq, xu_ne, xa_eq, xa_ne, eq_1, eq_3, eq_5], by simp (disch := omega) only [xu_eq, xu_ne, xa_eq, xa_ne, eq_1, eq_3, eq_5], fun u hu => by have hq := hz u hu; exact ⟨by simp (disch := omega) only [xu_eq, xu_ne, xa_eq, xa_ne, eq_1, eq_3, eq_5], by simp (disch := omega) only [xu_eq, xu_ne, xa_eq, xa_ne, eq_1, eq_3, eq_5]⟩⟩, hS.F ht⟩) hS.2.2 d_B_init_51
end
section
set_option maxHeartbeats 4000000 in
set_option maxRecDepth 100000 in
theorem c_A_stage {l : Launch} {D : va_G} {K : Nat → ClassId} {B : Nat} {ad : Nat → Nat} {w : Nat → Option va_E} {H : Heap} {σ : xS} (hR : RepX K σ ad w) (hI : Inv σ) (hw : xw D vwCl B ad w H) (hB : B ≤ H.size) (x1 x2 x3 : Int32) : xC l D K B y_A_stage b_A_stage 4 (some .int) rm_A_stage [.ref (ad 0), .int x1, .int x2, .int x3] H (fun v H1 => v = some (.int (f_stage σ x1 x2 x3).2) ∧ PX D K B ad w (f_stage σ x1 x2 x3).1 H1) := by
  refine Met.ofW (cc := b_A_stage) (maxL := 4) (ret := (some .int)) (by decide) rfl ?_
  intro p e s m args below meth c s₁ B0 hml hv
  obtain ⟨rfl, hsz, hK, hN⟩ := hv
  have hx := B0.exec
  have hb := B0.bytes
  have hr := B0.returns
  have htw : ∀ w ∈ xW0, w.before [.ref (ad 0), .int x1, .int x2, .int x3].toArray s = true := fun w h => atoms_spec (ws := Cond.code y_A_stage b_A_stage 4 (some .int) :: xW0) B0.pre w (List.mem_cons_of_mem _ h)
  have hown : s.vm.findClass R_A = some m.cls := findClass_of_methodNamed B0.named
  have hlocks := B0.notSynchronized
  subst hsz
  have hS : va_S (fun q => B ≤ q) s.heap s.heap [] := va_S.rf
  have hl := lv_entry ([.ref (ad 0), .int x1, .int x2, .int x3]) (n := 4) (Nat.le_of_ble_eq_true rfl)
  rw [lg_entry_eq]
  generalize (lg_sl ([.ref (ad 0), .int x1, .int x2, .int x3]) ++ List.replicate (4 - (lg_sl ([.ref (ad 0), .int x1, .int x2, .int x3])).length) Slot.unset).toArray = ls at hl ⊢
  have hl : lv_has ls 4 [(0, .ref (ad 0)), (1, .int x1), (2, .int x2), (3, .int x3)] := hl
  have hH : s.heap = s.heap := rfl
  obtain ⟨r0, r1, r2, r3, r4, r5, r6, r7, rb, rba, rbt, rbo, rs, rss, rr⟩ := id hR
  obtain ⟨hnb, hns, hnr, hpc, hst, hto, htl, hrm, hpa, hwt, hdf, hds⟩ := id hI
  refine lv_iload_n hx hb d_A_stage_0 rfl (lv_at hl 1 rfl) ?_
  refine xr_call (va_runS (As := [.int x1]) (rest := []) ⟨hx, hb, hml, hown, htw⟩ (c_A_isMetal x1) (va_cwS 1 htw (gS u_135 u_136 u_1 u_137) rfl rfl rfl hd_A_isMetal.2 ⟨Nat.le_of_ble_eq_true rfl, Nat.le_of_ble_eq_true rfl⟩) ⟨xP_blind, xP_of hK hN⟩ rfl rfl hl.1 rfl (lv_room (Nat.le_of_ble_eq_true rfl)) d_A_stage_1 ⟨by decide, by decide⟩) hS (fun v H_ locs hp hS => ?_)
  obtain ⟨rfl, hHe⟩ := hp
  rw [hHe] at hS ⊢
  refine W.eq (g2 := F0 m 4 ls [.int (bI (xm x1))]) rfl ?_
  refine lv_if_eq (tgt := 16) hx hb d_A_stage_4 (by decide) (fun c_1 => ?_) (fun c_1 => ?_)
  · have c_1 : (xm x1) = false := bI_f.mp c_1
    refine lv_iconst (v := (-1)) hx hb d_A_stage_16 (by decide) ?_
    have hf : f_stage σ x1 x2 x3 = (σ, (-1)) := by simp [f_stage, opt_n, opt_s, c_1]
    refine W.widen (k := 2) (n := 8) (by decide) (by decide) ?_
    exact W.iret (v := (-1)) hx hb hr (fun t ht _ => ⟨_, rfl, by rw [hf, ht]; exact ⟨rfl, PX_same hw hR⟩, hS.F ht⟩) hS.2.2 d_A_stage_17
  · have c_1 : (xm x1) = true := bI_t.mp c_1
    refine lv_aload_n hx hb d_A_stage_7 rfl (lv_at hl 0 rfl) ?_
    refine xr_get (ci := 0) (v := .int (nI (σ.1 1))) (C := R_A) (T := T_A) (N := 10) hx hb htw in_A hown hK hw 0 r0 rfl rfl 3 (by decide) (htw _ u_44) (fun _ h9 => h9) rfl d_A_stage_8 ?_
    refine lv_bipush (v := 6) hx hb d_A_stage_11 (by decide) ?_
    refine lv_icmp_lt (tgt := 18) hx hb d_A_stage_13 (by decide) (fun c_2 => ?_) (fun c_2 => ?_)
    · have c_2 : (σ.1 1) < 6 := (nLT (a := σ.1 1) (b := 6) (by omega) (by omega)).mp c_2
      refine lv_iload_n hx hb d_A_stage_18 rfl (lv_at hl 2 rfl) ?_
      refine lv_i2l hx hb d_A_stage_19 rfl ?_
      refine lv_lconst (v := 0) hx hb d_A_stage_20 (by decide) ?_
      refine lv_ldc2 (v := 1000) hx hb hown (htw _ u_148) d_A_stage_21 ?_
      refine xr_call (va_runS (As := [.long x2.toInt64, .long 0, .long 1000]) (rest := []) ⟨hx, hb, hml, hown, htw⟩ (c_A_isWithin x2.toInt64 0 1000) (va_cwS 3 htw (gS u_77 u_78 u_1 u_79) rfl rfl rfl hd_A_isWithin.2 ⟨Nat.le_of_ble_eq_true rfl, Nat.le_of_ble_eq_true rfl⟩) ⟨xP_blind, xP_of hK hN⟩ rfl rfl hl.1 rfl (lv_room (Nat.le_of_ble_eq_true rfl)) d_A_stage_24 ⟨by decide, by decide⟩) hS (fun v H_ locs hp hS => ?_)
      obtain ⟨rfl, hHe⟩ := hp
      rw [hHe] at hS ⊢
      refine W.eq (g2 := F0 m 27 ls [.int (bI (xin x2.toInt64 0 1000))]) rfl ?_
      refine lv_if_eq (tgt := 42) hx hb d_A_stage_27 (by decide) (fun c_3 => ?_) (fun c_3 => ?_)
      · have c_3 : (xin x2.toInt64 0 1000) = false := bI_f.mp c_3
        refine lv_iconst (v := (-1)) hx hb d_A_stage_42 (by decide) ?_
        have hf : f_stage σ x1 x2 x3 = (σ, (-1)) := by simp [f_stage, opt_n, opt_s, c_1, c_2, c_3]
        refine W.widen (k := 2) (n := 8) (by decide) (by decide) ?_
        exact W.iret (v := (-1)) hx hb hr (fun t ht _ => ⟨_, rfl, by rw [hf, ht]; exact ⟨rfl, PX_same hw hR⟩, hS.F ht⟩) hS.2.2 d_A_stage_43
      · have c_3 : (xin x2.toInt64 0 1000) = true := bI_t.mp c_3
        refine lv_iload_n hx hb d_A_stage_30 rfl (lv_at hl 3 rfl) ?_
        refine lv_i2l hx hb d_A_stage_31 rfl ?_
        refine lv_lconst (v := 0) hx hb d_A_stage_32 (by decide) ?_
        refine lv_ldc2 (v := 1000) hx hb hown (htw _ u_148) d_A_stage_33 ?_
        refine xr_call (va_runS (As := [.long x3.toInt64, .long 0, .long 1000]) (rest := []) ⟨hx, hb, hml, hown, htw⟩ (c_A_isWithin x3.toInt64 0 1000) (va_cwS 3 htw (gS u_77 u_78 u_1 u_79) rfl rfl rfl hd_A_isWithin.2 ⟨Nat.le_of_ble_eq_true rfl, Nat.le_of_ble_eq_true rfl⟩) ⟨xP_blind, xP_of hK hN⟩ rfl rfl hl.1 rfl (lv_room (Nat.le_of_ble_eq_true rfl)) d_A_stage_36 ⟨by decide, by decide⟩) hS (fun v H_ locs hp hS => ?_)
        obtain ⟨rfl, hHe⟩ := hp
        rw [hHe] at hS ⊢
        refine W.eq (g2 := F0 m 39 ls [.int (bI (xin x3.toInt64 0 1000))]) rfl ?_
        refine lv_if_ne (tgt := 44) hx hb d_A_stage_39 (by decide) (fun c_4 => ?_) (fun c_4 => ?_)
        · have c_4 : (xin x3.toInt64 0 1000) = true := bI_t.mp c_4
          refine lv_aload_n hx hb d_A_stage_44 rfl (lv_at hl 0 rfl) ?_
          refine xr_get (ci := 0) (v := .ref (ad 2)) (C := R_A) (T := T_A) (N := 10) hx hb htw in_A hown hK hw 0 r0 rfl rfl 2 (by decide) (htw _ u_43) (fun _ h9 => h9) rfl d_A_stage_45 ?_
          refine lv_aload_n hx hb d_A_stage_48 rfl (lv_at hl 0 rfl) ?_
          refine xr_get (ci := 0) (v := .int (nI (σ.1 1))) (C := R_A) (T := T_A) (N := 10) hx hb htw in_A hown hK hw 0 r0 rfl rfl 3 (by decide) (htw _ u_44) (fun _ h9 => h9) rfl d_A_stage_49 ?_
          refine xr_new (ci := 2) (fs := [.int 0, .int 0, .int 0, .null]) (C := R_S) (T := T_S) (N := 4) hx hb htw in_S ty_S tk_S hown (htw _ u_19) (htw _ u_149) (htw _ u_6) hK hw hS hB (140 + σ.1 1) rfl (fun j hj => by rcases (show j = 0 ∨ j = 1 ∨ j = 2 ∨ j = 3 by omega) with rfl | rfl | rfl | rfl <;> rfl) (by decide) (by decide) d_A_stage_52 (fun H ad_6 q_5 eq_5 lq_5 hw hS => ?_)
          have hw : xw D vwCl B ad_6 (xu w (140 + σ.1 1) (.inr (2, [.int 0, .int 0, .int 0, .null]))) H := hw
          have aq_5 : ad_6 (140 + σ.1 1) = q_5 := by rw [eq_5]; exact xa_eq
          refine lv_dup hx hb d_A_stage_55 rfl ?_
          refine lv_iload_n hx hb d_A_stage_56 rfl (lv_at hl 1 rfl) ?_
          refine lv_iload_n hx hb d_A_stage_57 rfl (lv_at hl 2 rfl) ?_
          refine lv_iload_n hx hb d_A_stage_58 rfl (lv_at hl 3 rfl) ?_
          refine xr_call (va_runI (As := [.int x1, .int x2, .int x3]) (rest := [.ref q_5, .int (nI (σ.1 1)), .ref (ad 2)]) ⟨hx, hb, hml, hown, htw⟩ (c_S_init (ad := ad_6) hw (140 + σ.1 1) (150 + σ.1 1) x1 x2 x3 (by omega) xu_eq (Nat.le_trans hB hS.1) q_5 aq_5) (cwI 3 htw (gC u_152) rfl rfl rfl (htw _ u_6) (htw _ u_150) (htw _ u_151) rfl hd_S_init.2 ⟨Nat.le_of_ble_eq_true rfl, Nat.le_of_ble_eq_true rfl⟩) ⟨xP_blind, xP_of hK hN⟩ rfl rfl hl.1 rfl (lv_room (Nat.le_of_ble_eq_true rfl)) d_A_stage_59 ⟨by decide, by decide⟩) hS (fun v H_ locs hp hS => ?_)
          obtain ⟨rfl, ad_7, w_7, hw, y7_0, y7_1, z7, hfr⟩ := hp
          generalize H_ = H at hw hS ⊢
          have hfw_7 : ∀ u, u ≠ 140 + σ.1 1 → u ≠ 150 + σ.1 1 → w_7 u = (xu w (140 + σ.1 1) (.inr (2, [.int 0, .int 0, .int 0, .null]))) u := fun u h0 h1 => (hfr u (by simp only [List.mem_cons, List.not_mem_nil, or_false, not_or]; exact ⟨h0, h1⟩)).1
          have hfa_7 : ∀ u, u ≠ 140 + σ.1 1 → u ≠ 150 + σ.1 1 → ad_7 u = ad_6 u := fun u h0 h1 => (hfr u (by simp only [List.mem_cons, List.not_mem_nil, or_false, not_or]; exact ⟨h0, h1⟩)).2
          refine W.eq (g2 := F0 m 62 ls [.ref q_5, .int (nI (σ.1 1)), .ref (ad 2)]) rfl ?_
          refine xr_astq (r := (R_S, T_S, 4)) hx hb hK hw hS 2 3 (140 + σ.1 1) 2 ((hfw_7 2 (by omega) (by omega)).trans ((xu_ne (by omega)).trans (r2))) ((hfa_7 2 (by omega) (by omega)).trans ((show ad_6 2 = ad 2 by rw [eq_5]; exact xa_ne (by omega)).trans rfl)) rfl y7_0 ((z7).trans aq_5) rfl (xvin (a := σ.1 1) rfl (by omega) (by omega)) d_A_stage_62 (fun H locs hw hS => ?_)
          rw [show (nI (σ.1 1)).toNatClampNeg = σ.1 1 from xcl (a := σ.1 1) rfl (by omega)] at hw
          have hw : xw D vwCl B ad_7 (xu w_7 2 (.inl (K 3, 6, .inr (.inr (.inr (.inr (va_up (fun i => if i < σ.1 1 then some (ad (140 + i)) else none) (σ.1 1) (some q_5)))))))) H := hw
          refine lv_aload_n hx hb d_A_stage_63 rfl (lv_at hl 0 rfl) ?_
          refine lv_dup hx hb d_A_stage_64 rfl ?_
          refine xr_get (ci := 0) (v := .int (nI (σ.1 1))) (C := R_A) (T := T_A) (N := 10) hx hb htw in_A hown hK hw 0 ((xu_ne (by omega)).trans ((hfw_7 0 (by omega) (by omega)).trans ((xu_ne (by omega)).trans (r0)))) ((hfa_7 0 (by omega) (by omega)).trans ((show ad_6 0 = ad 0 by rw [eq_5]; exact xa_ne (by omega)).trans rfl)) rfl 3 (by decide) (htw _ u_44) (fun _ h9 => h9) rfl d_A_stage_65 ?_
          refine lv_iconst (v := 1) hx hb d_A_stage_68 (by decide) ?_
          refine lv_iadd hx hb d_A_stage_69 ?_
          refine xr_put (ci := 0) (v := .int ((nI (σ.1 1)) + 1)) (ty := .int) (C := R_A) (T := T_A) (N := 10) hx hb htw in_A ty_A tk_A nm_A hown hK hw hS 0 ((xu_ne (by omega)).trans ((hfw_7 0 (by omega) (by omega)).trans ((xu_ne (by omega)).trans (r0)))) ((hfa_7 0 (by omega) (by omega)).trans ((show ad_6 0 = ad 0 by rw [eq_5]; exact xa_ne (by omega)).trans rfl)) rfl 3 (by decide) (htw _ u_44) (fun _ h9 => h9) rfl (by decide +kernel) rfl rfl (Nat.le_of_ble_eq_true rfl) d_A_stage_70 (fun H locs hw hS => ?_)
          have hw : xw D vwCl B ad_7 (xu (xu w_7 2 (.inl (K 3, 6, .inr (.inr (.inr (.inr (va_up (fun i => if i < σ.1 1 then some (ad (140 + i)) else none) (σ.1 1) (some q_5)))))))) 0 (.inr (0, [.ref (ad 1), .int (nI (σ.1 0)), .ref (ad 2), .int ((nI (σ.1 1)) + 1), .ref (ad 3), .int (nI (σ.1 2)), .ref (ad 4), .int (σ.2.1 0 0), .int (σ.2.1 0 1), .long (σ.2.2.1 0 0)]))) H := hw
          refine lv_aload_n hx hb d_A_stage_73 rfl (lv_at hl 0 rfl) ?_
          refine xr_get (ci := 0) (v := .int ((nI (σ.1 1)) + 1)) (C := R_A) (T := T_A) (N := 10) hx hb htw in_A hown hK hw 0 xu_eq ((hfa_7 0 (by omega) (by omega)).trans ((show ad_6 0 = ad 0 by rw [eq_5]; exact xa_ne (by omega)).trans rfl)) rfl 3 (by decide) (htw _ u_44) (fun _ h9 => h9) rfl d_A_stage_74 ?_
          refine lv_iconst (v := 1) hx hb d_A_stage_77 (by decide) ?_
          refine lv_isub hx hb d_A_stage_78 ?_
          have hq : ad_7 (140 + σ.1 1) = q_5 := (z7).trans aq_5
          have hpu := fq_push (n := σ.1 1) (ad := ad) (ad1 := ad_7) (b := 140) (q := q_5) hq (fun i hi => by simp (disch := omega) only [xa_ne, eq_5, hfw_7, hfa_7, z7, y7_0, y7_1])
          have hd0 := hds (σ.1 1) (Nat.le_refl _) (by omega)
          have hRep : RepX K (s_stage σ x1 x2 x3) ad_7 (xu (xu w_7 2 (.inl (K 3, 6, .inr (.inr (.inr (.inr (va_up (fun i => if i < σ.1 1 then some (ad (140 + i)) else none) (σ.1 1) (some q_5)))))))) 0 (.inr (0, [.ref (ad 1), .int (nI (σ.1 0)), .ref (ad 2), .int ((nI (σ.1 1)) + 1), .ref (ad 3), .int (nI (σ.1 2)), .ref (ad 4), .int (σ.2.1 0 0), .int (σ.2.1 0 1), .long (σ.2.2.1 0 0)]))) := by
            unfold s_stage
            refine ⟨?_, ?_, ?_, ?_, ?_, ?_, ?_, ?_, ?_, ?_, ?_, ?_, ?_, ?_, ?_⟩
            · simp (disch := omega) only [pN, pI, pL, pZ, row_eq, row_ne, xu_eq, xu_ne, xa_eq, xa_ne, pk_us, pk_un, pk_uLs, pk_uLn, eq_5, hfw_7, hfa_7, z7, y7_0, y7_1, hd0, nI_succ, r0]
            · simp (disch := omega) only [pN, pI, pL, pZ, row_eq, row_ne, xu_eq, xu_ne, xa_eq, xa_ne, pk_us, pk_un, pk_uLs, pk_uLn, eq_5, hfw_7, hfa_7, z7, y7_0, y7_1, hd0, nI_succ, r1]; try rfl
            · simp (disch := omega) only [pN, pI, pL, pZ, row_eq, row_ne, xu_eq, xu_ne, xa_eq, xa_ne, pk_us, pk_un, pk_uLs, pk_uLn, eq_5, hfw_7, hfa_7, z7, y7_0, y7_1, hpu]; try rfl
            · simp (disch := omega) only [pN, pI, pL, pZ, row_eq, row_ne, xu_eq, xu_ne, xa_eq, xa_ne, pk_us, pk_un, pk_uLs, pk_uLn, eq_5, hfw_7, hfa_7, z7, y7_0, y7_1, hd0, nI_succ, r3]; try rfl
            · simp (disch := omega) only [pN, pI, pL, pZ, row_eq, row_ne, xu_eq, xu_ne, xa_eq, xa_ne, pk_us, pk_un, pk_uLs, pk_uLn, eq_5, hfw_7, hfa_7, z7, y7_0, y7_1, hd0, nI_succ, r4]
            · simp (disch := omega) only [pN, pI, pL, pZ, row_eq, row_ne, xu_eq, xu_ne, xa_eq, xa_ne, pk_us, pk_un, pk_uLs, pk_uLn, eq_5, hfw_7, hfa_7, z7, y7_0, y7_1, hd0, nI_succ, r5]
            · simp (disch := omega) only [pN, pI, pL, pZ, row_eq, row_ne, xu_eq, xu_ne, xa_eq, xa_ne, pk_us, pk_un, pk_uLs, pk_uLn, eq_5, hfw_7, hfa_7, z7, y7_0, y7_1, hd0, nI_succ, r6]
            · simp (disch := omega) only [pN, pI, pL, pZ, row_eq, row_ne, xu_eq, xu_ne, xa_eq, xa_ne, pk_us, pk_un, pk_uLs, pk_uLn, eq_5, hfw_7, hfa_7, z7, y7_0, y7_1, hd0, nI_succ, r7]
            · intro jj hj
              have hj : jj < σ.1 0 := by first | exact hj | simpa (disch := omega) only [pN, pI, pL, pZ, row_eq, row_ne, xu_eq, xu_ne, xa_eq, xa_ne, pk_us, pk_un, pk_uLs, pk_uLn, eq_5, hfw_7, hfa_7, z7, y7_0, y7_1, hd0, nI_succ] using hj
              simp (disch := omega) only [pN, pI, pL, pZ, row_eq, row_ne, xu_eq, xu_ne, xa_eq, xa_ne, pk_us, pk_un, pk_uLs, pk_uLn, eq_5, hfw_7, hfa_7, z7, y7_0, y7_1, hd0, nI_succ, rb jj hj]
            · intro jj hj
              have hj : jj < σ.1 0 := by first | exact hj | simpa (disch := omega) only [pN, pI, pL, pZ, row_eq, row_ne, xu_eq, xu_ne, xa_eq, xa_ne, pk_us, pk_un, pk_uLs, pk_uLn, eq_5, hfw_7, hfa_7, z7, y7_0, y7_1, hd0, nI_succ] using hj
              simp (disch := omega) only [pN, pI, pL, pZ, row_eq, row_ne, xu_eq, xu_ne, xa_eq, xa_ne, pk_us, pk_un, pk_uLs, pk_uLn, eq_5, hfw_7, hfa_7, z7, y7_0, y7_1, hd0, nI_succ, rba jj hj]
            · intro jj hj
              have hj : jj < σ.1 0 := by first | exact hj | simpa (disch := omega) only [pN, pI, pL, pZ, row_eq, row_ne, xu_eq, xu_ne, xa_eq, xa_ne, pk_us, pk_un, pk_uLs, pk_uLn, eq_5, hfw_7, hfa_7, z7, y7_0, y7_1, hd0, nI_succ] using hj
              simp (disch := omega) only [pN, pI, pL, pZ, row_eq, row_ne, xu_eq, xu_ne, xa_eq, xa_ne, pk_us, pk_un, pk_uLs, pk_uLn, eq_5, hfw_7, hfa_7, z7, y7_0, y7_1, hd0, nI_succ, rbt jj hj]
            · intro jj hj
              have hj : jj < σ.1 0 := by first | exact hj | simpa (disch := omega) only [pN, pI, pL, pZ, row_eq, row_ne, xu_eq, xu_ne, xa_eq, xa_ne, pk_us, pk_un, pk_uLs, pk_uLn, eq_5, hfw_7, hfa_7, z7, y7_0, y7_1, hd0, nI_succ] using hj
              simp (disch := omega) only [pN, pI, pL, pZ, row_eq, row_ne, xu_eq, xu_ne, xa_eq, xa_ne, pk_us, pk_un, pk_uLs, pk_uLn, eq_5, hfw_7, hfa_7, z7, y7_0, y7_1, hd0, nI_succ, rbo jj hj]
            · intro jj hj
              have hj : jj < σ.1 1 + 1 := by simpa (disch := omega) only [pN, pI, pL, pZ, row_eq, row_ne, xu_eq, xu_ne, xa_eq, xa_ne, pk_us, pk_un, pk_uLs, pk_uLn, eq_5, hfw_7, hfa_7, z7, y7_0, y7_1, hd0, nI_succ] using hj
              by_cases ej : jj = σ.1 1
              · rw [ej]; simp (disch := omega) only [pN, pI, pL, pZ, row_eq, row_ne, xu_eq, xu_ne, xa_eq, xa_ne, pk_us, pk_un, pk_uLs, pk_uLn, eq_5, hfw_7, hfa_7, z7, y7_0, y7_1, hd0, nI_succ]
              · simp (disch := omega) only [pN, pI, pL, pZ, row_eq, row_ne, xu_eq, xu_ne, xa_eq, xa_ne, pk_us, pk_un, pk_uLs, pk_uLn, eq_5, hfw_7, hfa_7, z7, y7_0, y7_1, hd0, nI_succ, rs jj (by omega)]
            · intro jj hj
              have hj : jj < σ.1 1 + 1 := by simpa (disch := omega) only [pN, pI, pL, pZ, row_eq, row_ne, xu_eq, xu_ne, xa_eq, xa_ne, pk_us, pk_un, pk_uLs, pk_uLn, eq_5, hfw_7, hfa_7, z7, y7_0, y7_1, hd0, nI_succ] using hj
              by_cases ej : jj = σ.1 1
              · rw [ej]; simp (disch := omega) only [pN, pI, pL, pZ, row_eq, row_ne, xu_eq, xu_ne, xa_eq, xa_ne, pk_us, pk_un, pk_uLs, pk_uLn, eq_5, hfw_7, hfa_7, z7, y7_0, y7_1, hd0, nI_succ]
              · simp (disch := omega) only [pN, pI, pL, pZ, row_eq, row_ne, xu_eq, xu_ne, xa_eq, xa_ne, pk_us, pk_un, pk_uLs, pk_uLn, eq_5, hfw_7, hfa_7, z7, y7_0, y7_1, hd0, nI_succ, rss jj (by omega)]
            · intro jj hj
              have hj : jj < σ.1 2 := by first | exact hj | simpa (disch := omega) only [pN, pI, pL, pZ, row_eq, row_ne, xu_eq, xu_ne, xa_eq, xa_ne, pk_us, pk_un, pk_uLs, pk_uLn, eq_5, hfw_7, hfa_7, z7, y7_0, y7_1, hd0, nI_succ] using hj
              simp (disch := omega) only [pN, pI, pL, pZ, row_eq, row_ne, xu_eq, xu_ne, xa_eq, xa_ne, pk_us, pk_un, pk_uLs, pk_uLn, eq_5, hfw_7, hfa_7, z7, y7_0, y7_1, hd0, nI_succ, rr jj hj]
          have hf : f_stage σ x1 x2 x3 = (s_stage σ x1 x2 x3, nI (σ.1 1)) := by simp [f_stage, opt_n, opt_s, c_1, c_2, c_3, c_4]
          exact W.iret (v := ((nI (σ.1 1)) + 1) - 1) hx hb hr (fun t ht _ => ⟨_, rfl, by rw [hf, ht]; exact ⟨congrArg (fun z => some (Value.int z)) (nI_back _), _, _, hw, hRep, by simp (disch := omega) only [xu_ne, xa_ne, eq_5, hfw_7, hfa_7, z7, y7_0, y7_1, hd0, nI_succ], fun t h2 => ⟨by simp (disch := omega) only [xu_ne, xa_ne, eq_5, hfw_7, hfa_7, z7, y7_0, y7_1, hd0, nI_succ], by simp (disch := omega) only [xu_ne, xa_ne, eq_5, hfw_7, hfa_7, z7, y7_0, y7_1, hd0, nI_succ]⟩⟩, hS.F ht⟩) hS.2.2 d_A_stage_79
        · have c_4 : (xin x3.toInt64 0 1000) = false := bI_f.mp c_4
          refine lv_iconst (v := (-1)) hx hb d_A_stage_42 (by decide) ?_
          have hf : f_stage σ x1 x2 x3 = (σ, (-1)) := by simp [f_stage, opt_n, opt_s, c_1, c_2, c_3, c_4]
          refine W.widen (k := 2) (n := 8) (by decide) (by decide) ?_
          exact W.iret (v := (-1)) hx hb hr (fun t ht _ => ⟨_, rfl, by rw [hf, ht]; exact ⟨rfl, PX_same hw hR⟩, hS.F ht⟩) hS.2.2 d_A_stage_43
    · have c_2 : ¬ (σ.1 1) < 6 := fun z => c_2 ((nLT (a := σ.1 1) (b := 6) (by omega) (by omega)).mpr z)
      refine lv_iconst (v := (-1)) hx hb d_A_stage_16 (by decide) ?_
      have hf : f_stage σ x1 x2 x3 = (σ, (-1)) := by simp [f_stage, opt_n, opt_s, c_1, c_2]
      refine W.widen (k := 2) (n := 8) (by decide) (by decide) ?_
      exact W.iret (v := (-1)) hx hb hr (fun t ht _ => ⟨_, rfl, by rw [hf, ht]; exact ⟨rfl, PX_same hw hR⟩, hS.F ht⟩) hS.2.2 d_A_stage_17
set_option maxHeartbeats 4000000 in
set_option maxRecDepth 100000 in
theorem c_A_rule {l : Launch} {D : va_G} {K : Nat → ClassId} {B : Nat} {ad : Nat → Nat} {w : Nat → Option va_E} {H : Heap} {σ : xS} (hR : RepX K σ ad w) (hI : Inv σ) (hw : xw D vwCl B ad w H) (hB : B ≤ H.size) (x1 x2 x3 x4 : Int32) : xC l D K B y_A_rule b_A_rule 5 (some .int) rm_A_rule [.ref (ad 0), .int x1, .int x2, .int x3, .int x4] H (fun v H1 => v = some (.int (f_rule σ x1 x2 x3 x4).2) ∧ PX D K B ad w (f_rule σ x1 x2 x3 x4).1 H1) := by
  refine Met.ofW (cc := b_A_rule) (maxL := 5) (ret := (some .int)) (by decide) rfl ?_
  intro p e s m args below meth c s₁ B0 hml hv
  obtain ⟨rfl, hsz, hK, hN⟩ := hv
  have hx := B0.exec
  have hb := B0.bytes
  have hr := B0.returns
  have htw : ∀ w ∈ xW0, w.before [.ref (ad 0), .int x1, .int x2, .int x3, .int x4].toArray s = true := fun w h => atoms_spec (ws := Cond.code y_A_rule b_A_rule 5 (some .int) :: xW0) B0.pre w (List.mem_cons_of_mem _ h)
  have hown : s.vm.findClass R_A = some m.cls := findClass_of_methodNamed B0.named
  have hlocks := B0.notSynchronized
  subst hsz
  have hS : va_S (fun q => B ≤ q) s.heap s.heap [] := va_S.rf
  have hl := lv_entry ([.ref (ad 0), .int x1, .int x2, .int x3, .int x4]) (n := 5) (Nat.le_of_ble_eq_true rfl)
  rw [lg_entry_eq]
  generalize (lg_sl ([.ref (ad 0), .int x1, .int x2, .int x3, .int x4]) ++ List.replicate (5 - (lg_sl ([.ref (ad 0), .int x1, .int x2, .int x3, .int x4])).length) Slot.unset).toArray = ls at hl ⊢
  have hl : lv_has ls 5 [(0, .ref (ad 0)), (1, .int x1), (2, .int x2), (3, .int x3), (4, .int x4)] := hl
  have hH : s.heap = s.heap := rfl
  obtain ⟨r0, r1, r2, r3, r4, r5, r6, r7, rb, rba, rbt, rbo, rs, rss, rr⟩ := id hR
  obtain ⟨hnb, hns, hnr, hpc, hst, hto, htl, hrm, hpa, hwt, hdf, hds⟩ := id hI
  refine lv_iload_n hx hb d_A_rule_0 rfl (lv_at hl 1 rfl) ?_
  refine lv_i2l hx hb d_A_rule_1 rfl ?_
  refine lv_lconst (v := 0) hx hb d_A_rule_2 (by decide) ?_
  refine lv_ldc2 (v := 9) hx hb hown (htw _ u_281) d_A_rule_3 ?_
  refine xr_call (va_runS (As := [.long x1.toInt64, .long 0, .long 9]) (rest := []) ⟨hx, hb, hml, hown, htw⟩ (c_A_isWithin x1.toInt64 0 9) (va_cwS 3 htw (gS u_77 u_78 u_1 u_79) rfl rfl rfl hd_A_isWithin.2 ⟨Nat.le_of_ble_eq_true rfl, Nat.le_of_ble_eq_true rfl⟩) ⟨xP_blind, xP_of hK hN⟩ rfl rfl hl.1 rfl (lv_room (Nat.le_of_ble_eq_true rfl)) d_A_rule_6 ⟨by decide, by decide⟩) hS (fun v H_ locs hp hS => ?_)
  obtain ⟨rfl, hHe⟩ := hp
  rw [hHe] at hS ⊢
  refine W.eq (g2 := F0 m 9 ls [.int (bI (xin x1.toInt64 0 9))]) rfl ?_
  refine lv_if_eq (tgt := 28) hx hb d_A_rule_9 (by decide) (fun c_1 => ?_) (fun c_1 => ?_)
  · have c_1 : (xin x1.toInt64 0 9) = false := bI_f.mp c_1
    refine lv_iconst (v := (-1)) hx hb d_A_rule_28 (by decide) ?_
    have hf : f_rule σ x1 x2 x3 x4 = (σ, (-1)) := by simp [f_rule, opt_n, opt_s, c_1]
    refine W.widen (k := 1) (n := 4) (by decide) (by decide) ?_
    exact W.iret (v := (-1)) hx hb hr (fun t ht _ => ⟨_, rfl, by rw [hf, ht]; exact ⟨rfl, PX_same hw hR⟩, hS.F ht⟩) hS.2.2 d_A_rule_29
  · have c_1 : (xin x1.toInt64 0 9) = true := bI_t.mp c_1
    refine lv_iload_n hx hb d_A_rule_12 rfl (lv_at hl 2 rfl) ?_
    refine xr_call (va_runS (As := [.int x2]) (rest := []) ⟨hx, hb, hml, hown, htw⟩ (c_A_isMetal x2) (va_cwS 1 htw (gS u_135 u_136 u_1 u_137) rfl rfl rfl hd_A_isMetal.2 ⟨Nat.le_of_ble_eq_true rfl, Nat.le_of_ble_eq_true rfl⟩) ⟨xP_blind, xP_of hK hN⟩ rfl rfl hl.1 rfl (lv_room (Nat.le_of_ble_eq_true rfl)) d_A_rule_13 ⟨by decide, by decide⟩) hS (fun v H_ locs hp hS => ?_)
    obtain ⟨rfl, hHe⟩ := hp
    rw [hHe] at hS ⊢
    refine W.eq (g2 := F0 m 16 ls [.int (bI (xm x2))]) rfl ?_
    refine lv_if_eq (tgt := 28) hx hb d_A_rule_16 (by decide) (fun c_2 => ?_) (fun c_2 => ?_)
    · have c_2 : (xm x2) = false := bI_f.mp c_2
      refine lv_iconst (v := (-1)) hx hb d_A_rule_28 (by decide) ?_
      have hf : f_rule σ x1 x2 x3 x4 = (σ, (-1)) := by simp [f_rule, opt_n, opt_s, c_1, c_2]
      refine W.widen (k := 1) (n := 4) (by decide) (by decide) ?_
      exact W.iret (v := (-1)) hx hb hr (fun t ht _ => ⟨_, rfl, by rw [hf, ht]; exact ⟨rfl, PX_same hw hR⟩, hS.F ht⟩) hS.2.2 d_A_rule_29
    · have c_2 : (xm x2) = true := bI_t.mp c_2
      refine lv_aload_n hx hb d_A_rule_19 rfl (lv_at hl 0 rfl) ?_
      refine xr_get (ci := 0) (v := .int (nI (σ.1 2))) (C := R_A) (T := T_A) (N := 10) hx hb htw in_A hown hK hw 0 r0 rfl rfl 5 (by decide) (htw _ u_46) (fun _ h9 => h9) rfl d_A_rule_20 ?_
      refine lv_bipush (v := 8) hx hb d_A_rule_23 (by decide) ?_
      refine lv_icmp_lt (tgt := 30) hx hb d_A_rule_25 (by decide) (fun c_3 => ?_) (fun c_3 => ?_)
      · have c_3 : (σ.1 2) < 8 := (nLT (a := σ.1 2) (b := 8) (by omega) (by omega)).mp c_3
        refine lv_iload_n hx hb d_A_rule_30 rfl (lv_at hl 3 rfl) ?_
        refine lv_i2l hx hb d_A_rule_31 rfl ?_
        refine lv_lconst (v := 0) hx hb d_A_rule_32 (by decide) ?_
        refine lv_ldc2 (v := 1000000) hx hb hown (htw _ u_138) d_A_rule_33 ?_
        refine xr_call (va_runS (As := [.long x3.toInt64, .long 0, .long 1000000]) (rest := []) ⟨hx, hb, hml, hown, htw⟩ (c_A_isWithin x3.toInt64 0 1000000) (va_cwS 3 htw (gS u_77 u_78 u_1 u_79) rfl rfl rfl hd_A_isWithin.2 ⟨Nat.le_of_ble_eq_true rfl, Nat.le_of_ble_eq_true rfl⟩) ⟨xP_blind, xP_of hK hN⟩ rfl rfl hl.1 rfl (lv_room (Nat.le_of_ble_eq_true rfl)) d_A_rule_36 ⟨by decide, by decide⟩) hS (fun v H_ locs hp hS => ?_)
        obtain ⟨rfl, hHe⟩ := hp
        rw [hHe] at hS ⊢
        refine W.eq (g2 := F0 m 39 ls [.int (bI (xin x3.toInt64 0 1000000))]) rfl ?_
        refine lv_if_eq (tgt := 55) hx hb d_A_rule_39 (by decide) (fun c_4 => ?_) (fun c_4 => ?_)
        · have c_4 : (xin x3.toInt64 0 1000000) = false := bI_f.mp c_4
          refine lv_iconst (v := (-1)) hx hb d_A_rule_55 (by decide) ?_
          have hf : f_rule σ x1 x2 x3 x4 = (σ, (-1)) := by simp [f_rule, opt_n, opt_s, c_1, c_2, c_3, c_4]
          refine W.widen (k := 1) (n := 4) (by decide) (by decide) ?_
          exact W.iret (v := (-1)) hx hb hr (fun t ht _ => ⟨_, rfl, by rw [hf, ht]; exact ⟨rfl, PX_same hw hR⟩, hS.F ht⟩) hS.2.2 d_A_rule_56
        · have c_4 : (xin x3.toInt64 0 1000000) = true := bI_t.mp c_4
          refine lv_iload hx hb d_A_rule_42 (lv_at hl 4 rfl) ?_
          refine lv_i2l hx hb d_A_rule_44 rfl ?_
          refine lv_lconst (v := 0) hx hb d_A_rule_45 (by decide) ?_
          refine lv_ldc2 (v := 100000) hx hb hown (htw _ u_143) d_A_rule_46 ?_
          refine xr_call (va_runS (As := [.long x4.toInt64, .long 0, .long 100000]) (rest := []) ⟨hx, hb, hml, hown, htw⟩ (c_A_isWithin x4.toInt64 0 100000) (va_cwS 3 htw (gS u_77 u_78 u_1 u_79) rfl rfl rfl hd_A_isWithin.2 ⟨Nat.le_of_ble_eq_true rfl, Nat.le_of_ble_eq_true rfl⟩) ⟨xP_blind, xP_of hK hN⟩ rfl rfl hl.1 rfl (lv_room (Nat.le_of_ble_eq_true rfl)) d_A_rule_49 ⟨by decide, by decide⟩) hS (fun v H_ locs hp hS => ?_)
          obtain ⟨rfl, hHe⟩ := hp
          rw [hHe] at hS ⊢
          refine W.eq (g2 := F0 m 52 ls [.int (bI (xin x4.toInt64 0 100000))]) rfl ?_
          refine lv_if_ne (tgt := 57) hx hb d_A_rule_52 (by decide) (fun c_5 => ?_) (fun c_5 => ?_)
          · have c_5 : (xin x4.toInt64 0 100000) = true := bI_t.mp c_5
            refine lv_aload_n hx hb d_A_rule_57 rfl (lv_at hl 0 rfl) ?_
            refine xr_get (ci := 0) (v := .ref (ad 3)) (C := R_A) (T := T_A) (N := 10) hx hb htw in_A hown hK hw 0 r0 rfl rfl 4 (by decide) (htw _ u_45) (fun _ h9 => h9) rfl d_A_rule_58 ?_
            refine lv_aload_n hx hb d_A_rule_61 rfl (lv_at hl 0 rfl) ?_
            refine xr_get (ci := 0) (v := .int (nI (σ.1 2))) (C := R_A) (T := T_A) (N := 10) hx hb htw in_A hown hK hw 0 r0 rfl rfl 5 (by decide) (htw _ u_46) (fun _ h9 => h9) rfl d_A_rule_62 ?_
            refine xr_new (ci := 3) (fs := [.int 0, .int 0, .int 0, .int 0]) (C := R_R) (T := T_R) (N := 4) hx hb htw in_R ty_R tk_R hown (htw _ u_21) (htw _ u_282) (htw _ u_8) hK hw hS hB (160 + σ.1 2) rfl (fun j hj => by rcases (show j = 0 ∨ j = 1 ∨ j = 2 ∨ j = 3 by omega) with rfl | rfl | rfl | rfl <;> rfl) (by decide) (by decide) d_A_rule_65 (fun H ad_7 q_6 eq_6 lq_6 hw hS => ?_)
            have hw : xw D vwCl B ad_7 (xu w (160 + σ.1 2) (.inr (3, [.int 0, .int 0, .int 0, .int 0]))) H := hw
            have aq_6 : ad_7 (160 + σ.1 2) = q_6 := by rw [eq_6]; exact xa_eq
            refine lv_dup hx hb d_A_rule_68 rfl ?_
            refine lv_iload_n hx hb d_A_rule_69 rfl (lv_at hl 1 rfl) ?_
            refine lv_iload_n hx hb d_A_rule_70 rfl (lv_at hl 2 rfl) ?_
            refine lv_iload_n hx hb d_A_rule_71 rfl (lv_at hl 3 rfl) ?_
            refine lv_iload hx hb d_A_rule_72 (lv_at hl 4 rfl) ?_
            refine xr_call (va_runI (As := [.int x1, .int x2, .int x3, .int x4]) (rest := [.ref q_6, .int (nI (σ.1 2)), .ref (ad 3)]) ⟨hx, hb, hml, hown, htw⟩ (c_R_init (ad := ad_7) hw (160 + σ.1 2) x1 x2 x3 x4 xu_eq q_6 aq_6) (cwI 4 htw (gC u_285) rfl rfl rfl (htw _ u_8) (htw _ u_283) (htw _ u_284) rfl hd_R_init.2 ⟨Nat.le_of_ble_eq_true rfl, Nat.le_of_ble_eq_true rfl⟩) ⟨xP_blind, xP_of hK hN⟩ rfl rfl hl.1 rfl (lv_room (Nat.le_of_ble_eq_true rfl)) d_A_rule_74 ⟨by decide, by decide⟩) hS (fun v H_ locs hp hS => ?_)
            obtain ⟨rfl, ad_8, w_8, hw, y8_0, z8, hfr⟩ := hp
            generalize H_ = H at hw hS ⊢
            have hfw_8 : ∀ u, u ≠ 160 + σ.1 2 → w_8 u = (xu w (160 + σ.1 2) (.inr (3, [.int 0, .int 0, .int 0, .int 0]))) u := fun u h0 => (hfr u (by simp only [List.mem_cons, List.not_mem_nil, or_false, not_or]; exact h0)).1
            have hfa_8 : ∀ u, u ≠ 160 + σ.1 2 → ad_8 u = ad_7 u := fun u h0 => (hfr u (by simp only [List.mem_cons, List.not_mem_nil, or_false, not_or]; exact h0)).2
            refine W.eq (g2 := F0 m 77 ls [.ref q_6, .int (nI (σ.1 2)), .ref (ad 3)]) rfl ?_
            refine xr_astq (r := (R_R, T_R, 4)) hx hb hK hw hS 3 4 (160 + σ.1 2) 3 ((hfw_8 3 (by omega)).trans ((xu_ne (by omega)).trans (r3))) ((hfa_8 3 (by omega)).trans ((show ad_7 3 = ad 3 by rw [eq_6]; exact xa_ne (by omega)).trans rfl)) rfl y8_0 ((z8).trans aq_6) rfl (xvin (a := σ.1 2) rfl (by omega) (by omega)) d_A_rule_77 (fun H locs hw hS => ?_)
            rw [show (nI (σ.1 2)).toNatClampNeg = σ.1 2 from xcl (a := σ.1 2) rfl (by omega)] at hw
            have hw : xw D vwCl B ad_8 (xu w_8 3 (.inl (K 4, 8, .inr (.inr (.inr (.inr (va_up (fun i => if i < σ.1 2 then some (ad (160 + i)) else none) (σ.1 2) (some q_6)))))))) H := hw
            refine lv_aload_n hx hb d_A_rule_78 rfl (lv_at hl 0 rfl) ?_
            refine lv_dup hx hb d_A_rule_79 rfl ?_
            refine xr_get (ci := 0) (v := .int (nI (σ.1 2))) (C := R_A) (T := T_A) (N := 10) hx hb htw in_A hown hK hw 0 ((xu_ne (by omega)).trans ((hfw_8 0 (by omega)).trans ((xu_ne (by omega)).trans (r0)))) ((hfa_8 0 (by omega)).trans ((show ad_7 0 = ad 0 by rw [eq_6]; exact xa_ne (by omega)).trans rfl)) rfl 5 (by decide) (htw _ u_46) (fun _ h9 => h9) rfl d_A_rule_80 ?_
            refine lv_iconst (v := 1) hx hb d_A_rule_83 (by decide) ?_
            refine lv_iadd hx hb d_A_rule_84 ?_
            refine xr_put (ci := 0) (v := .int ((nI (σ.1 2)) + 1)) (ty := .int) (C := R_A) (T := T_A) (N := 10) hx hb htw in_A ty_A tk_A nm_A hown hK hw hS 0 ((xu_ne (by omega)).trans ((hfw_8 0 (by omega)).trans ((xu_ne (by omega)).trans (r0)))) ((hfa_8 0 (by omega)).trans ((show ad_7 0 = ad 0 by rw [eq_6]; exact xa_ne (by omega)).trans rfl)) rfl 5 (by decide) (htw _ u_46) (fun _ h9 => h9) rfl (by decide +kernel) rfl rfl (Nat.le_of_ble_eq_true rfl) d_A_rule_85 (fun H locs hw hS => ?_)
            have hw : xw D vwCl B ad_8 (xu (xu w_8 3 (.inl (K 4, 8, .inr (.inr (.inr (.inr (va_up (fun i => if i < σ.1 2 then some (ad (160 + i)) else none) (σ.1 2) (some q_6)))))))) 0 (.inr (0, [.ref (ad 1), .int (nI (σ.1 0)), .ref (ad 2), .int (nI (σ.1 1)), .ref (ad 3), .int ((nI (σ.1 2)) + 1), .ref (ad 4), .int (σ.2.1 0 0), .int (σ.2.1 0 1), .long (σ.2.2.1 0 0)]))) H := hw
            refine lv_aload_n hx hb d_A_rule_88 rfl (lv_at hl 0 rfl) ?_
            refine xr_get (ci := 0) (v := .int ((nI (σ.1 2)) + 1)) (C := R_A) (T := T_A) (N := 10) hx hb htw in_A hown hK hw 0 xu_eq ((hfa_8 0 (by omega)).trans ((show ad_7 0 = ad 0 by rw [eq_6]; exact xa_ne (by omega)).trans rfl)) rfl 5 (by decide) (htw _ u_46) (fun _ h9 => h9) rfl d_A_rule_89 ?_
            refine lv_iconst (v := 1) hx hb d_A_rule_92 (by decide) ?_
            refine lv_isub hx hb d_A_rule_93 ?_
            have hq : ad_8 (160 + σ.1 2) = q_6 := (z8).trans aq_6
            have hpu := fq_push (n := σ.1 2) (ad := ad) (ad1 := ad_8) (b := 160) (q := q_6) hq (fun i hi => by simp (disch := omega) only [xa_ne, eq_6, hfw_8, hfa_8, z8, y8_0])
            have hRep : RepX K (s_rule σ x1 x2 x3 x4) ad_8 (xu (xu w_8 3 (.inl (K 4, 8, .inr (.inr (.inr (.inr (va_up (fun i => if i < σ.1 2 then some (ad (160 + i)) else none) (σ.1 2) (some q_6)))))))) 0 (.inr (0, [.ref (ad 1), .int (nI (σ.1 0)), .ref (ad 2), .int (nI (σ.1 1)), .ref (ad 3), .int ((nI (σ.1 2)) + 1), .ref (ad 4), .int (σ.2.1 0 0), .int (σ.2.1 0 1), .long (σ.2.2.1 0 0)]))) := by
              unfold s_rule
              refine ⟨?_, ?_, ?_, ?_, ?_, ?_, ?_, ?_, ?_, ?_, ?_, ?_, ?_, ?_, ?_⟩
              · simp (disch := omega) only [pN, pI, pL, pZ, row_eq, row_ne, xu_eq, xu_ne, xa_eq, xa_ne, pk_us, pk_un, pk_uLs, pk_uLn, eq_6, hfw_8, hfa_8, z8, y8_0, nI_succ, r0]
              · simp (disch := omega) only [pN, pI, pL, pZ, row_eq, row_ne, xu_eq, xu_ne, xa_eq, xa_ne, pk_us, pk_un, pk_uLs, pk_uLn, eq_6, hfw_8, hfa_8, z8, y8_0, nI_succ, r1]; try rfl
              · simp (disch := omega) only [pN, pI, pL, pZ, row_eq, row_ne, xu_eq, xu_ne, xa_eq, xa_ne, pk_us, pk_un, pk_uLs, pk_uLn, eq_6, hfw_8, hfa_8, z8, y8_0, nI_succ, r2]; try rfl
              · simp (disch := omega) only [pN, pI, pL, pZ, row_eq, row_ne, xu_eq, xu_ne, xa_eq, xa_ne, pk_us, pk_un, pk_uLs, pk_uLn, eq_6, hfw_8, hfa_8, z8, y8_0, hpu]; try rfl
              · simp (disch := omega) only [pN, pI, pL, pZ, row_eq, row_ne, xu_eq, xu_ne, xa_eq, xa_ne, pk_us, pk_un, pk_uLs, pk_uLn, eq_6, hfw_8, hfa_8, z8, y8_0, nI_succ, r4]
              · simp (disch := omega) only [pN, pI, pL, pZ, row_eq, row_ne, xu_eq, xu_ne, xa_eq, xa_ne, pk_us, pk_un, pk_uLs, pk_uLn, eq_6, hfw_8, hfa_8, z8, y8_0, nI_succ, r5]
              · simp (disch := omega) only [pN, pI, pL, pZ, row_eq, row_ne, xu_eq, xu_ne, xa_eq, xa_ne, pk_us, pk_un, pk_uLs, pk_uLn, eq_6, hfw_8, hfa_8, z8, y8_0, nI_succ, r6]
              · simp (disch := omega) only [pN, pI, pL, pZ, row_eq, row_ne, xu_eq, xu_ne, xa_eq, xa_ne, pk_us, pk_un, pk_uLs, pk_uLn, eq_6, hfw_8, hfa_8, z8, y8_0, nI_succ, r7]
              · intro jj hj
                have hj : jj < σ.1 0 := by first | exact hj | simpa (disch := omega) only [pN, pI, pL, pZ, row_eq, row_ne, xu_eq, xu_ne, xa_eq, xa_ne, pk_us, pk_un, pk_uLs, pk_uLn, eq_6, hfw_8, hfa_8, z8, y8_0, nI_succ] using hj
                simp (disch := omega) only [pN, pI, pL, pZ, row_eq, row_ne, xu_eq, xu_ne, xa_eq, xa_ne, pk_us, pk_un, pk_uLs, pk_uLn, eq_6, hfw_8, hfa_8, z8, y8_0, nI_succ, rb jj hj]
              · intro jj hj
                have hj : jj < σ.1 0 := by first | exact hj | simpa (disch := omega) only [pN, pI, pL, pZ, row_eq, row_ne, xu_eq, xu_ne, xa_eq, xa_ne, pk_us, pk_un, pk_uLs, pk_uLn, eq_6, hfw_8, hfa_8, z8, y8_0, nI_succ] using hj
                simp (disch := omega) only [pN, pI, pL, pZ, row_eq, row_ne, xu_eq, xu_ne, xa_eq, xa_ne, pk_us, pk_un, pk_uLs, pk_uLn, eq_6, hfw_8, hfa_8, z8, y8_0, nI_succ, rba jj hj]
              · intro jj hj
                have hj : jj < σ.1 0 := by first | exact hj | simpa (disch := omega) only [pN, pI, pL, pZ, row_eq, row_ne, xu_eq, xu_ne, xa_eq, xa_ne, pk_us, pk_un, pk_uLs, pk_uLn, eq_6, hfw_8, hfa_8, z8, y8_0, nI_succ] using hj
                simp (disch := omega) only [pN, pI, pL, pZ, row_eq, row_ne, xu_eq, xu_ne, xa_eq, xa_ne, pk_us, pk_un, pk_uLs, pk_uLn, eq_6, hfw_8, hfa_8, z8, y8_0, nI_succ, rbt jj hj]
              · intro jj hj
                have hj : jj < σ.1 0 := by first | exact hj | simpa (disch := omega) only [pN, pI, pL, pZ, row_eq, row_ne, xu_eq, xu_ne, xa_eq, xa_ne, pk_us, pk_un, pk_uLs, pk_uLn, eq_6, hfw_8, hfa_8, z8, y8_0, nI_succ] using hj
                simp (disch := omega) only [pN, pI, pL, pZ, row_eq, row_ne, xu_eq, xu_ne, xa_eq, xa_ne, pk_us, pk_un, pk_uLs, pk_uLn, eq_6, hfw_8, hfa_8, z8, y8_0, nI_succ, rbo jj hj]
              · intro jj hj
                have hj : jj < σ.1 1 := by first | exact hj | simpa (disch := omega) only [pN, pI, pL, pZ, row_eq, row_ne, xu_eq, xu_ne, xa_eq, xa_ne, pk_us, pk_un, pk_uLs, pk_uLn, eq_6, hfw_8, hfa_8, z8, y8_0, nI_succ] using hj
                simp (disch := omega) only [pN, pI, pL, pZ, row_eq, row_ne, xu_eq, xu_ne, xa_eq, xa_ne, pk_us, pk_un, pk_uLs, pk_uLn, eq_6, hfw_8, hfa_8, z8, y8_0, nI_succ, rs jj hj]
              · intro jj hj
                have hj : jj < σ.1 1 := by first | exact hj | simpa (disch := omega) only [pN, pI, pL, pZ, row_eq, row_ne, xu_eq, xu_ne, xa_eq, xa_ne, pk_us, pk_un, pk_uLs, pk_uLn, eq_6, hfw_8, hfa_8, z8, y8_0, nI_succ] using hj
                simp (disch := omega) only [pN, pI, pL, pZ, row_eq, row_ne, xu_eq, xu_ne, xa_eq, xa_ne, pk_us, pk_un, pk_uLs, pk_uLn, eq_6, hfw_8, hfa_8, z8, y8_0, nI_succ, rss jj hj]
              · intro jj hj
                have hj : jj < σ.1 2 + 1 := by simpa (disch := omega) only [pN, pI, pL, pZ, row_eq, row_ne, xu_eq, xu_ne, xa_eq, xa_ne, pk_us, pk_un, pk_uLs, pk_uLn, eq_6, hfw_8, hfa_8, z8, y8_0, nI_succ] using hj
                by_cases ej : jj = σ.1 2
                · rw [ej]; simp (disch := omega) only [pN, pI, pL, pZ, row_eq, row_ne, xu_eq, xu_ne, xa_eq, xa_ne, pk_us, pk_un, pk_uLs, pk_uLn, eq_6, hfw_8, hfa_8, z8, y8_0, nI_succ]
                · simp (disch := omega) only [pN, pI, pL, pZ, row_eq, row_ne, xu_eq, xu_ne, xa_eq, xa_ne, pk_us, pk_un, pk_uLs, pk_uLn, eq_6, hfw_8, hfa_8, z8, y8_0, nI_succ, rr jj (by omega)]
            have hf : f_rule σ x1 x2 x3 x4 = (s_rule σ x1 x2 x3 x4, nI (σ.1 2)) := by simp [f_rule, opt_n, opt_s, c_1, c_2, c_3, c_4, c_5]
            exact W.iret (v := ((nI (σ.1 2)) + 1) - 1) hx hb hr (fun t ht _ => ⟨_, rfl, by rw [hf, ht]; exact ⟨congrArg (fun z => some (Value.int z)) (nI_back _), _, _, hw, hRep, by simp (disch := omega) only [xu_ne, xa_ne, eq_6, hfw_8, hfa_8, z8, y8_0, nI_succ], fun t h2 => ⟨by simp (disch := omega) only [xu_ne, xa_ne, eq_6, hfw_8, hfa_8, z8, y8_0, nI_succ], by simp (disch := omega) only [xu_ne, xa_ne, eq_6, hfw_8, hfa_8, z8, y8_0, nI_succ]⟩⟩, hS.F ht⟩) hS.2.2 d_A_rule_94
          · have c_5 : (xin x4.toInt64 0 100000) = false := bI_f.mp c_5
            refine lv_iconst (v := (-1)) hx hb d_A_rule_55 (by decide) ?_
            have hf : f_rule σ x1 x2 x3 x4 = (σ, (-1)) := by simp [f_rule, opt_n, opt_s, c_1, c_2, c_3, c_4, c_5]
            refine W.widen (k := 1) (n := 4) (by decide) (by decide) ?_
            exact W.iret (v := (-1)) hx hb hr (fun t ht _ => ⟨_, rfl, by rw [hf, ht]; exact ⟨rfl, PX_same hw hR⟩, hS.F ht⟩) hS.2.2 d_A_rule_56
      · have c_3 : ¬ (σ.1 2) < 8 := fun z => c_3 ((nLT (a := σ.1 2) (b := 8) (by omega) (by omega)).mpr z)
        refine lv_iconst (v := (-1)) hx hb d_A_rule_28 (by decide) ?_
        have hf : f_rule σ x1 x2 x3 x4 = (σ, (-1)) := by simp [f_rule, opt_n, opt_s, c_1, c_2, c_3]
        refine W.widen (k := 1) (n := 4) (by decide) (by decide) ?_
        exact W.iret (v := (-1)) hx hb hr (fun t ht _ => ⟨_, rfl, by rw [hf, ht]; exact ⟨rfl, PX_same hw hR⟩, hS.F ht⟩) hS.2.2 d_A_rule_29
set_option maxHeartbeats 4000000 in
set_option maxRecDepth 100000 in
theorem c_A_keepBatch {l : Launch} {D : va_G} {K : Nat → ClassId} {B : Nat} {ad : Nat → Nat} {w : Nat → Option va_E} {H : Heap} (hw : xw D vwCl B ad w H) (n : Nat) (hn : n < 8) (a1 : Nat) (ha1 : ad 1 = a1) (v2 v3 v4 v5 v6 v7 v8 v9 : Value) (fB : Nat → Option Nat) (h0 : w 0 = some (.inr (0, [.ref a1, .int (nI n), v2, v3, v4, v5, v6, v7, v8, v9]))) (h1 : w 1 = some (.inl (K 2, 8, .inr (.inr (.inr (.inr fB)))))) (t : Nat) (bs : List Value) (ht1 : t ≠ 1) (hb0 : w t = some (.inr (1, bs))) (a : Nat) (ha : ad t = a) (a0 : Nat) (ha0 : ad 0 = a0) : xC l D K B y_A_keepBatch b_A_keepBatch 2 (some .int) rm_A_keepBatch [.ref a0, .ref a] H (fun v H1 => v = some (.int (nI n)) ∧ xw D vwCl B ad (xu (xu w 1 (.inl (K 2, 8, .inr (.inr (.inr (.inr (va_up fB n (some a)))))))) 0 (.inr (0, [.ref a1, .int (nI n + 1), v2, v3, v4, v5, v6, v7, v8, v9]))) H1) := by
  refine Met.ofW (cc := b_A_keepBatch) (maxL := 2) (ret := (some .int)) (by decide) rfl ?_
  intro p e s m args below meth c s₁ B0 hml hv
  obtain ⟨rfl, hsz, hK, hN⟩ := hv
  have hx := B0.exec
  have hb := B0.bytes
  have hr := B0.returns
  have htw : ∀ w ∈ xW0, w.before [.ref a0, .ref a].toArray s = true := fun w h => atoms_spec (ws := Cond.code y_A_keepBatch b_A_keepBatch 2 (some .int) :: xW0) B0.pre w (List.mem_cons_of_mem _ h)
  have hown : s.vm.findClass R_A = some m.cls := findClass_of_methodNamed B0.named
  have hlocks := B0.notSynchronized
  subst hsz
  have hS : va_S (fun q => B ≤ q) s.heap s.heap [] := va_S.rf
  have hl := lv_entry ([.ref a0, .ref a]) (n := 2) (Nat.le_of_ble_eq_true rfl)
  rw [lg_entry_eq]
  generalize (lg_sl ([.ref a0, .ref a]) ++ List.replicate (2 - (lg_sl ([.ref a0, .ref a])).length) Slot.unset).toArray = ls at hl ⊢
  have hl : lv_has ls 2 [(0, .ref a0), (1, .ref a)] := hl
  have hH : s.heap = s.heap := rfl
  refine lv_aload_n hx hb d_A_keepBatch_0 rfl (lv_at hl 0 rfl) ?_
  refine xr_get (ci := 0) (v := .int (nI n)) (C := R_A) (T := T_A) (N := 10) hx hb htw in_A hown hK hw 0 h0 ha0 rfl 1 (by decide) (htw _ u_42) (fun _ h9 => h9) rfl d_A_keepBatch_1 ?_
  refine lv_bipush (v := 8) hx hb d_A_keepBatch_4 (by decide) ?_
  refine lv_icmp_lt (tgt := 11) hx hb d_A_keepBatch_6 (by decide) (fun c_1 => ?_) (fun c_1 => absurd ((nLT (a := n) (b := 8) (by omega) (by decide)).mpr hn) c_1)
  have c_1 : n < 8 := (nLT (a := n) (b := 8) (by omega) (by omega)).mp c_1
  refine lv_aload_n hx hb d_A_keepBatch_11 rfl (lv_at hl 0 rfl) ?_
  refine xr_get (ci := 0) (v := .ref a1) (C := R_A) (T := T_A) (N := 10) hx hb htw in_A hown hK hw 0 h0 ha0 rfl 0 (by decide) (htw _ u_41) (fun _ h9 => h9) rfl d_A_keepBatch_12 ?_
  refine lv_aload_n hx hb d_A_keepBatch_15 rfl (lv_at hl 0 rfl) ?_
  refine xr_get (ci := 0) (v := .int (nI n)) (C := R_A) (T := T_A) (N := 10) hx hb htw in_A hown hK hw 0 h0 ha0 rfl 1 (by decide) (htw _ u_42) (fun _ h9 => h9) rfl d_A_keepBatch_16 ?_
  refine lv_aload_n hx hb d_A_keepBatch_19 rfl (lv_at hl 1 rfl) ?_
  refine xr_astq (r := (R_B, T_B, 9)) hx hb hK hw hS 1 2 t 1 h1 ha1 rfl hb0 ha rfl (xvin (a := n) rfl (by omega) (by omega)) d_A_keepBatch_20 (fun H locs hw hS => ?_)
  rw [show (nI n).toNatClampNeg = n from xcl (a := n) rfl (by omega)] at hw
  have hw : xw D vwCl B ad (xu w 1 (.inl (K 2, 8, .inr (.inr (.inr (.inr (va_up fB n (some a)))))))) H := hw
  refine lv_aload_n hx hb d_A_keepBatch_21 rfl (lv_at hl 0 rfl) ?_
  refine lv_dup hx hb d_A_keepBatch_22 rfl ?_
  refine xr_get (ci := 0) (v := .int (nI n)) (C := R_A) (T := T_A) (N := 10) hx hb htw in_A hown hK hw 0 ((xu_ne (by omega)).trans (h0)) ha0 rfl 1 (by decide) (htw _ u_42) (fun _ h9 => h9) rfl d_A_keepBatch_23 ?_
  refine lv_iconst (v := 1) hx hb d_A_keepBatch_26 (by decide) ?_
  refine lv_iadd hx hb d_A_keepBatch_27 ?_
  refine xr_put (ci := 0) (v := .int ((nI n) + 1)) (ty := .int) (C := R_A) (T := T_A) (N := 10) hx hb htw in_A ty_A tk_A nm_A hown hK hw hS 0 ((xu_ne (by omega)).trans (h0)) ha0 rfl 1 (by decide) (htw _ u_42) (fun _ h9 => h9) rfl (by decide +kernel) rfl rfl (Nat.le_of_ble_eq_true rfl) d_A_keepBatch_28 (fun H locs hw hS => ?_)
  have hw : xw D vwCl B ad (xu (xu w 1 (.inl (K 2, 8, .inr (.inr (.inr (.inr (va_up fB n (some a)))))))) 0 (.inr (0, [.ref a1, .int ((nI n) + 1), v2, v3, v4, v5, v6, v7, v8, v9]))) H := hw
  refine lv_aload_n hx hb d_A_keepBatch_31 rfl (lv_at hl 0 rfl) ?_
  refine xr_get (ci := 0) (v := .int ((nI n) + 1)) (C := R_A) (T := T_A) (N := 10) hx hb htw in_A hown hK hw 0 xu_eq ha0 rfl 1 (by decide) (htw _ u_42) (fun _ h9 => h9) rfl d_A_keepBatch_32 ?_
  refine lv_iconst (v := 1) hx hb d_A_keepBatch_35 (by decide) ?_
  refine lv_isub hx hb d_A_keepBatch_36 ?_
  exact W.iret (v := ((nI n) + 1) - 1) hx hb hr (fun t ht _ => ⟨_, rfl, ⟨congrArg (fun z => some (Value.int z)) (nI_back _), by rw [ht]; exact hw⟩, hS.F ht⟩) hS.2.2 d_A_keepBatch_37
set_option maxHeartbeats 4000000 in
set_option maxRecDepth 100000 in
theorem c_A_batch {l : Launch} {D : va_G} {K : Nat → ClassId} {B : Nat} {ad : Nat → Nat} {w : Nat → Option va_E} {H : Heap} {σ : xS} (hR : RepX K σ ad w) (hI : Inv σ) (hw : xw D vwCl B ad w H) (hB : B ≤ H.size) (x1 : Int64) : xC l D K B y_A_batch b_A_batch 3 (some .int) rm_A_batch [.ref (ad 0), .long x1] H (fun v H1 => v = some (.int (f_batch σ x1).2) ∧ PX D K B ad w (f_batch σ x1).1 H1) := by
  refine Met.ofW (cc := b_A_batch) (maxL := 3) (ret := (some .int)) (by decide) rfl ?_
  intro p e s m args below meth c s₁ B0 hml hv
  obtain ⟨rfl, hsz, hK, hN⟩ := hv
  have hx := B0.exec
  have hb := B0.bytes
  have hr := B0.returns
  have htw : ∀ w ∈ xW0, w.before [.ref (ad 0), .long x1].toArray s = true := fun w h => atoms_spec (ws := Cond.code y_A_batch b_A_batch 3 (some .int) :: xW0) B0.pre w (List.mem_cons_of_mem _ h)
  have hown : s.vm.findClass R_A = some m.cls := findClass_of_methodNamed B0.named
  have hlocks := B0.notSynchronized
  subst hsz
  have hS : va_S (fun q => B ≤ q) s.heap s.heap [] := va_S.rf
  have hl := lv_entry ([.ref (ad 0), .long x1]) (n := 3) (Nat.le_of_ble_eq_true rfl)
  rw [lg_entry_eq]
  generalize (lg_sl ([.ref (ad 0), .long x1]) ++ List.replicate (3 - (lg_sl ([.ref (ad 0), .long x1])).length) Slot.unset).toArray = ls at hl ⊢
  have hl : lv_has ls 3 [(0, .ref (ad 0)), (1, .long x1)] := hl
  have hH : s.heap = s.heap := rfl
  obtain ⟨r0, r1, r2, r3, r4, r5, r6, r7, rb, rba, rbt, rbo, rs, rss, rr⟩ := id hR
  obtain ⟨hnb, hns, hnr, hpc, hst, hto, htl, hrm, hpa, hwt, hdf, hds⟩ := id hI
  refine lv_lload_n hx hb d_A_batch_0 rfl (lv_at hl 1 rfl) ?_
  refine lv_lconst (v := 1) hx hb d_A_batch_1 (by decide) ?_
  refine lv_ldc2 (v := 1000000000) hx hb hown (htw _ u_76) d_A_batch_2 ?_
  refine xr_call (va_runS (As := [.long x1, .long 1, .long 1000000000]) (rest := []) ⟨hx, hb, hml, hown, htw⟩ (c_A_isWithin x1 1 1000000000) (va_cwS 3 htw (gS u_77 u_78 u_1 u_79) rfl rfl rfl hd_A_isWithin.2 ⟨Nat.le_of_ble_eq_true rfl, Nat.le_of_ble_eq_true rfl⟩) ⟨xP_blind, xP_of hK hN⟩ rfl rfl hl.1 rfl (lv_room (Nat.le_of_ble_eq_true rfl)) d_A_batch_5 ⟨by decide, by decide⟩) hS (fun v H_ locs hp hS => ?_)
  obtain ⟨rfl, hHe⟩ := hp
  rw [hHe] at hS ⊢
  refine W.eq (g2 := F0 m 8 ls [.int (bI (xin x1 1 1000000000))]) rfl ?_
  refine lv_if_eq (tgt := 20) hx hb d_A_batch_8 (by decide) (fun c_1 => ?_) (fun c_1 => ?_)
  · have c_1 : (xin x1 1 1000000000) = false := bI_f.mp c_1
    refine lv_iconst (v := (-1)) hx hb d_A_batch_20 (by decide) ?_
    have hf : f_batch σ x1 = (σ, (-1)) := by simp [f_batch, opt_n, opt_s, c_1]
    refine W.widen (k := 4) (n := 49) (by decide) (by decide) ?_
    exact W.iret (v := (-1)) hx hb hr (fun t ht _ => ⟨_, rfl, by rw [hf, ht]; exact ⟨rfl, PX_same hw hR⟩, hS.F ht⟩) hS.2.2 d_A_batch_21
  · have c_1 : (xin x1 1 1000000000) = true := bI_t.mp c_1
    refine lv_aload_n hx hb d_A_batch_11 rfl (lv_at hl 0 rfl) ?_
    refine xr_get (ci := 0) (v := .int (nI (σ.1 0))) (C := R_A) (T := T_A) (N := 10) hx hb htw in_A hown hK hw 0 r0 rfl rfl 1 (by decide) (htw _ u_42) (fun _ h9 => h9) rfl d_A_batch_12 ?_
    refine lv_bipush (v := 8) hx hb d_A_batch_15 (by decide) ?_
    refine lv_icmp_lt (tgt := 22) hx hb d_A_batch_17 (by decide) (fun c_2 => ?_) (fun c_2 => ?_)
    · have c_2 : (σ.1 0) < 8 := (nLT (a := σ.1 0) (b := 8) (by omega) (by omega)).mp c_2
      refine lv_aload_n hx hb d_A_batch_22 rfl (lv_at hl 0 rfl) ?_
      refine xr_new (ci := 1) (fs := [.int 0, .int 0, .null, .null, .null, .long 0, .int 0, .int 0, .int 0]) (C := R_B) (T := T_B) (N := 9) hx hb htw in_B ty_B tk_B hown (htw _ u_17) (htw _ u_80) (htw _ u_4) hK hw hS hB (100 + σ.1 0) rfl (fun j hj => by rcases (show j = 0 ∨ j = 1 ∨ j = 2 ∨ j = 3 ∨ j = 4 ∨ j = 5 ∨ j = 6 ∨ j = 7 ∨ j = 8 by omega) with rfl | rfl | rfl | rfl | rfl | rfl | rfl | rfl | rfl <;> rfl) (by decide) (by decide) d_A_batch_23 (fun H ad_4 q_3 eq_3 lq_3 hw hS => ?_)
      have hw : xw D vwCl B ad_4 (xu w (100 + σ.1 0) (.inr (1, [.int 0, .int 0, .null, .null, .null, .long 0, .int 0, .int 0, .int 0]))) H := hw
      have aq_3 : ad_4 (100 + σ.1 0) = q_3 := by rw [eq_3]; exact xa_eq
      refine lv_dup hx hb d_A_batch_26 rfl ?_
      refine lv_lload_n hx hb d_A_batch_27 rfl (lv_at hl 1 rfl) ?_
      refine lv_aload_n hx hb d_A_batch_28 rfl (lv_at hl 0 rfl) ?_
      refine xr_get (ci := 0) (v := .int (σ.2.1 0 0)) (C := R_A) (T := T_A) (N := 10) hx hb htw in_A hown hK hw 0 ((xu_ne (by omega)).trans (r0)) ((show ad_4 0 = ad 0 by rw [eq_3]; exact xa_ne (by omega)).trans rfl) rfl 7 (by decide) (htw _ u_48) (fun _ h9 => h9) rfl d_A_batch_29 ?_
      refine lv_iconst (v := 0) hx hb d_A_batch_32 (by decide) ?_
      refine xr_call (va_runI (As := [.long x1, .int (σ.2.1 0 0), .int 0]) (rest := [.ref q_3, .ref (ad 0)]) ⟨hx, hb, hml, hown, htw⟩ (c_B_init (ad := ad_4) hw (100 + σ.1 0) (110 + σ.1 0) (120 + σ.1 0) (130 + σ.1 0) x1 (σ.2.1 0 0) false (by omega) xu_eq (Nat.le_trans hB hS.1) q_3 aq_3) (cwI 3 htw (gC u_83) rfl rfl rfl (htw _ u_4) (htw _ u_81) (htw _ u_82) rfl hd_B_init.2 ⟨Nat.le_of_ble_eq_true rfl, Nat.le_of_ble_eq_true rfl⟩) ⟨xP_blind, xP_of hK hN⟩ rfl rfl hl.1 rfl (lv_room (Nat.le_of_ble_eq_true rfl)) d_A_batch_33 ⟨by decide, by decide⟩) hS (fun v H_ locs hp hS => ?_)
      obtain ⟨rfl, ad_5, w_5, hw, y5_0, y5_1, y5_2, y5_3, z5, hfr⟩ := hp
      generalize H_ = H at hw hS ⊢
      have hfw_5 : ∀ u, u ≠ 100 + σ.1 0 → u ≠ 110 + σ.1 0 → u ≠ 120 + σ.1 0 → u ≠ 130 + σ.1 0 → w_5 u = (xu w (100 + σ.1 0) (.inr (1, [.int 0, .int 0, .null, .null, .null, .long 0, .int 0, .int 0, .int 0]))) u := fun u h0 h1 h2 h3 => (hfr u (by simp only [List.mem_cons, List.not_mem_nil, or_false, not_or]; exact ⟨h0, h1, h2, h3⟩)).1
      have hfa_5 : ∀ u, u ≠ 100 + σ.1 0 → u ≠ 110 + σ.1 0 → u ≠ 120 + σ.1 0 → u ≠ 130 + σ.1 0 → ad_5 u = ad_4 u := fun u h0 h1 h2 h3 => (hfr u (by simp only [List.mem_cons, List.not_mem_nil, or_false, not_or]; exact ⟨h0, h1, h2, h3⟩)).2
      refine W.eq (g2 := F0 m 36 ls [.ref q_3, .ref (ad 0)]) rfl ?_
      refine xr_call (va_runV (As := [.ref q_3]) (rest := []) ⟨hx, hb, hml, hown, htw⟩ (c_A_keepBatch (ad := ad_5) hw (σ.1 0) (by omega) (ad 1) ((hfa_5 1 (by omega) (by omega) (by omega) (by omega)).trans ((show ad_4 1 = ad 1 by rw [eq_3]; exact xa_ne (by omega)).trans rfl)) (.ref (ad 2)) (.int (nI (σ.1 1))) (.ref (ad 3)) (.int (nI (σ.1 2))) (.ref (ad 4)) (.int (σ.2.1 0 0)) (.int (σ.2.1 0 1)) (.long (σ.2.2.1 0 0)) (fun i => if i < σ.1 0 then some (ad (100 + i)) else none) ((hfw_5 0 (by omega) (by omega) (by omega) (by omega)).trans ((xu_ne (by omega)).trans (r0))) ((hfw_5 1 (by omega) (by omega) (by omega) (by omega)).trans ((xu_ne (by omega)).trans (r1))) (100 + σ.1 0) _ (by omega) y5_0 q_3 ((z5).trans aq_3) (ad 0) ((hfa_5 0 (by omega) (by omega) (by omega) (by omega)).trans ((show ad_4 0 = ad 0 by rw [eq_3]; exact xa_ne (by omega)).trans rfl))) (cwV 1 htw (gV u_123 u_125 us_0 u_1 u_126) rfl rfl rfl hd_A_keepBatch ⟨Nat.le_of_ble_eq_true rfl, Nat.le_of_ble_eq_true rfl⟩) ⟨xP_blind, hw.recv hK (ci := 0) (t := 0) rfl ((hfw_5 0 (by omega) (by omega) (by omega) (by omega)).trans ((xu_ne (by omega)).trans (r0))) ((hfa_5 0 (by omega) (by omega) (by omega) (by omega)).trans ((show ad_4 0 = ad 0 by rw [eq_3]; exact xa_ne (by omega)).trans rfl)), xP_of hK hN⟩ rfl rfl hl.1 rfl (lv_room (Nat.le_of_ble_eq_true rfl)) d_A_batch_36 ⟨by decide, by decide⟩) hS (fun v H_ locs hp hS => ?_)
      obtain ⟨rfl, hw⟩ := hp
      generalize H_ = H at hw hS ⊢
      have hw : xw D vwCl B ad_5 (xu (xu w_5 1 (.inl (K 2, 8, .inr (.inr (.inr (.inr (va_up (fun i => if i < σ.1 0 then some (ad (100 + i)) else none) (σ.1 0) (some q_3)))))))) 0 (.inr (0, [.ref (ad 1), .int (nI (σ.1 0) + 1), .ref (ad 2), .int (nI (σ.1 1)), .ref (ad 3), .int (nI (σ.1 2)), .ref (ad 4), .int (σ.2.1 0 0), .int (σ.2.1 0 1), .long (σ.2.2.1 0 0)]))) H := hw
      refine W.eq (g2 := F0 m 39 ls [.int (nI (σ.1 0))]) rfl ?_
      have hq : ad_5 (100 + σ.1 0) = q_3 := (z5).trans aq_3
      have hpu := fq_push (n := σ.1 0) (ad := ad) (ad1 := ad_5) (b := 100) (q := q_3) hq (fun i hi => by simp (disch := omega) only [xa_ne, eq_3, hfw_5, hfa_5, z5, y5_0, y5_1, y5_2, y5_3])
      obtain ⟨hd1, hd2, hd3, hd4, hd5, hd6⟩ := hdf (σ.1 0) (Nat.le_refl _) (by omega)
      have hRep : RepX K (s_new σ x1 (σ.2.1 0 0) false) ad_5 (xu (xu w_5 1 (.inl (K 2, 8, .inr (.inr (.inr (.inr (va_up (fun i => if i < σ.1 0 then some (ad (100 + i)) else none) (σ.1 0) (some q_3)))))))) 0 (.inr (0, [.ref (ad 1), .int (nI (σ.1 0) + 1), .ref (ad 2), .int (nI (σ.1 1)), .ref (ad 3), .int (nI (σ.1 2)), .ref (ad 4), .int (σ.2.1 0 0), .int (σ.2.1 0 1), .long (σ.2.2.1 0 0)]))) := by
        unfold s_new
        refine ⟨?_, ?_, ?_, ?_, ?_, ?_, ?_, ?_, ?_, ?_, ?_, ?_, ?_, ?_, ?_⟩
        · simp (disch := omega) only [pN, pI, pL, pZ, row_eq, row_ne, xu_eq, xu_ne, xa_eq, xa_ne, pk_us, pk_un, pk_uLs, pk_uLn, eq_3, hfw_5, hfa_5, z5, y5_0, y5_1, y5_2, y5_3, hd1, hd2, hd3, hd4, hd5, hd6, nI_succ, bI_ff, bI_tt, nI_0, r0]
        · simp (disch := omega) only [pN, pI, pL, pZ, row_eq, row_ne, xu_eq, xu_ne, xa_eq, xa_ne, pk_us, pk_un, pk_uLs, pk_uLn, eq_3, hfw_5, hfa_5, z5, y5_0, y5_1, y5_2, y5_3, hpu]; try rfl
        · simp (disch := omega) only [pN, pI, pL, pZ, row_eq, row_ne, xu_eq, xu_ne, xa_eq, xa_ne, pk_us, pk_un, pk_uLs, pk_uLn, eq_3, hfw_5, hfa_5, z5, y5_0, y5_1, y5_2, y5_3, hd1, hd2, hd3, hd4, hd5, hd6, nI_succ, bI_ff, bI_tt, nI_0, r2]; try rfl
        · simp (disch := omega) only [pN, pI, pL, pZ, row_eq, row_ne, xu_eq, xu_ne, xa_eq, xa_ne, pk_us, pk_un, pk_uLs, pk_uLn, eq_3, hfw_5, hfa_5, z5, y5_0, y5_1, y5_2, y5_3, hd1, hd2, hd3, hd4, hd5, hd6, nI_succ, bI_ff, bI_tt, nI_0, r3]; try rfl
        · simp (disch := omega) only [pN, pI, pL, pZ, row_eq, row_ne, xu_eq, xu_ne, xa_eq, xa_ne, pk_us, pk_un, pk_uLs, pk_uLn, eq_3, hfw_5, hfa_5, z5, y5_0, y5_1, y5_2, y5_3, hd1, hd2, hd3, hd4, hd5, hd6, nI_succ, bI_ff, bI_tt, nI_0, r4]
        · simp (disch := omega) only [pN, pI, pL, pZ, row_eq, row_ne, xu_eq, xu_ne, xa_eq, xa_ne, pk_us, pk_un, pk_uLs, pk_uLn, eq_3, hfw_5, hfa_5, z5, y5_0, y5_1, y5_2, y5_3, hd1, hd2, hd3, hd4, hd5, hd6, nI_succ, bI_ff, bI_tt, nI_0, r5]
        · simp (disch := omega) only [pN, pI, pL, pZ, row_eq, row_ne, xu_eq, xu_ne, xa_eq, xa_ne, pk_us, pk_un, pk_uLs, pk_uLn, eq_3, hfw_5, hfa_5, z5, y5_0, y5_1, y5_2, y5_3, hd1, hd2, hd3, hd4, hd5, hd6, nI_succ, bI_ff, bI_tt, nI_0, r6]
        · simp (disch := omega) only [pN, pI, pL, pZ, row_eq, row_ne, xu_eq, xu_ne, xa_eq, xa_ne, pk_us, pk_un, pk_uLs, pk_uLn, eq_3, hfw_5, hfa_5, z5, y5_0, y5_1, y5_2, y5_3, hd1, hd2, hd3, hd4, hd5, hd6, nI_succ, bI_ff, bI_tt, nI_0, r7]
        · intro jj hj
          have hj : jj < σ.1 0 + 1 := by simpa (disch := omega) only [pN, pI, pL, pZ, row_eq, row_ne, xu_eq, xu_ne, xa_eq, xa_ne, pk_us, pk_un, pk_uLs, pk_uLn, eq_3, hfw_5, hfa_5, z5, y5_0, y5_1, y5_2, y5_3, hd1, hd2, hd3, hd4, hd5, hd6, nI_succ, bI_ff, bI_tt, nI_0] using hj
          by_cases ej : jj = σ.1 0
          · rw [ej]; simp (disch := omega) only [pN, pI, pL, pZ, row_eq, row_ne, xu_eq, xu_ne, xa_eq, xa_ne, pk_us, pk_un, pk_uLs, pk_uLn, eq_3, hfw_5, hfa_5, z5, y5_0, y5_1, y5_2, y5_3, hd1, hd2, hd3, hd4, hd5, hd6, nI_succ, bI_ff, bI_tt, nI_0]
          · simp (disch := omega) only [pN, pI, pL, pZ, row_eq, row_ne, xu_eq, xu_ne, xa_eq, xa_ne, pk_us, pk_un, pk_uLs, pk_uLn, eq_3, hfw_5, hfa_5, z5, y5_0, y5_1, y5_2, y5_3, hd1, hd2, hd3, hd4, hd5, hd6, nI_succ, bI_ff, bI_tt, nI_0, rb jj (by omega)]
        · intro jj hj
          have hj : jj < σ.1 0 + 1 := by simpa (disch := omega) only [pN, pI, pL, pZ, row_eq, row_ne, xu_eq, xu_ne, xa_eq, xa_ne, pk_us, pk_un, pk_uLs, pk_uLn, eq_3, hfw_5, hfa_5, z5, y5_0, y5_1, y5_2, y5_3, hd1, hd2, hd3, hd4, hd5, hd6, nI_succ, bI_ff, bI_tt, nI_0] using hj
          by_cases ej : jj = σ.1 0
          · rw [ej]; simp (disch := omega) only [pN, pI, pL, pZ, row_eq, row_ne, xu_eq, xu_ne, xa_eq, xa_ne, pk_us, pk_un, pk_uLs, pk_uLn, eq_3, hfw_5, hfa_5, z5, y5_0, y5_1, y5_2, y5_3, hd1, hd2, hd3, hd4, hd5, hd6, nI_succ, bI_ff, bI_tt, nI_0]
          · simp (disch := omega) only [pN, pI, pL, pZ, row_eq, row_ne, xu_eq, xu_ne, xa_eq, xa_ne, pk_us, pk_un, pk_uLs, pk_uLn, eq_3, hfw_5, hfa_5, z5, y5_0, y5_1, y5_2, y5_3, hd1, hd2, hd3, hd4, hd5, hd6, nI_succ, bI_ff, bI_tt, nI_0, rba jj (by omega)]
        · intro jj hj
          have hj : jj < σ.1 0 + 1 := by simpa (disch := omega) only [pN, pI, pL, pZ, row_eq, row_ne, xu_eq, xu_ne, xa_eq, xa_ne, pk_us, pk_un, pk_uLs, pk_uLn, eq_3, hfw_5, hfa_5, z5, y5_0, y5_1, y5_2, y5_3, hd1, hd2, hd3, hd4, hd5, hd6, nI_succ, bI_ff, bI_tt, nI_0] using hj
          by_cases ej : jj = σ.1 0
          · rw [ej]; simp (disch := omega) only [pN, pI, pL, pZ, row_eq, row_ne, xu_eq, xu_ne, xa_eq, xa_ne, pk_us, pk_un, pk_uLs, pk_uLn, eq_3, hfw_5, hfa_5, z5, y5_0, y5_1, y5_2, y5_3, hd1, hd2, hd3, hd4, hd5, hd6, nI_succ, bI_ff, bI_tt, nI_0]
          · simp (disch := omega) only [pN, pI, pL, pZ, row_eq, row_ne, xu_eq, xu_ne, xa_eq, xa_ne, pk_us, pk_un, pk_uLs, pk_uLn, eq_3, hfw_5, hfa_5, z5, y5_0, y5_1, y5_2, y5_3, hd1, hd2, hd3, hd4, hd5, hd6, nI_succ, bI_ff, bI_tt, nI_0, rbt jj (by omega)]
        · intro jj hj
          have hj : jj < σ.1 0 + 1 := by simpa (disch := omega) only [pN, pI, pL, pZ, row_eq, row_ne, xu_eq, xu_ne, xa_eq, xa_ne, pk_us, pk_un, pk_uLs, pk_uLn, eq_3, hfw_5, hfa_5, z5, y5_0, y5_1, y5_2, y5_3, hd1, hd2, hd3, hd4, hd5, hd6, nI_succ, bI_ff, bI_tt, nI_0] using hj
          by_cases ej : jj = σ.1 0
          · rw [ej]; simp (disch := omega) only [pN, pI, pL, pZ, row_eq, row_ne, xu_eq, xu_ne, xa_eq, xa_ne, pk_us, pk_un, pk_uLs, pk_uLn, eq_3, hfw_5, hfa_5, z5, y5_0, y5_1, y5_2, y5_3, hd1, hd2, hd3, hd4, hd5, hd6, nI_succ, bI_ff, bI_tt, nI_0]
          · simp (disch := omega) only [pN, pI, pL, pZ, row_eq, row_ne, xu_eq, xu_ne, xa_eq, xa_ne, pk_us, pk_un, pk_uLs, pk_uLn, eq_3, hfw_5, hfa_5, z5, y5_0, y5_1, y5_2, y5_3, hd1, hd2, hd3, hd4, hd5, hd6, nI_succ, bI_ff, bI_tt, nI_0, rbo jj (by omega)]
        · intro jj hj
          have hj : jj < σ.1 1 := by first | exact hj | simpa (disch := omega) only [pN, pI, pL, pZ, row_eq, row_ne, xu_eq, xu_ne, xa_eq, xa_ne, pk_us, pk_un, pk_uLs, pk_uLn, eq_3, hfw_5, hfa_5, z5, y5_0, y5_1, y5_2, y5_3, hd1, hd2, hd3, hd4, hd5, hd6, nI_succ, bI_ff, bI_tt, nI_0] using hj
          simp (disch := omega) only [pN, pI, pL, pZ, row_eq, row_ne, xu_eq, xu_ne, xa_eq, xa_ne, pk_us, pk_un, pk_uLs, pk_uLn, eq_3, hfw_5, hfa_5, z5, y5_0, y5_1, y5_2, y5_3, hd1, hd2, hd3, hd4, hd5, hd6, nI_succ, bI_ff, bI_tt, nI_0, rs jj hj]
        · intro jj hj
          have hj : jj < σ.1 1 := by first | exact hj | simpa (disch := omega) only [pN, pI, pL, pZ, row_eq, row_ne, xu_eq, xu_ne, xa_eq, xa_ne, pk_us, pk_un, pk_uLs, pk_uLn, eq_3, hfw_5, hfa_5, z5, y5_0, y5_1, y5_2, y5_3, hd1, hd2, hd3, hd4, hd5, hd6, nI_succ, bI_ff, bI_tt, nI_0] using hj
          simp (disch := omega) only [pN, pI, pL, pZ, row_eq, row_ne, xu_eq, xu_ne, xa_eq, xa_ne, pk_us, pk_un, pk_uLs, pk_uLn, eq_3, hfw_5, hfa_5, z5, y5_0, y5_1, y5_2, y5_3, hd1, hd2, hd3, hd4, hd5, hd6, nI_succ, bI_ff, bI_tt, nI_0, rss jj hj]
        · intro jj hj
          have hj : jj < σ.1 2 := by first | exact hj | simpa (disch := omega) only [pN, pI, pL, pZ, row_eq, row_ne, xu_eq, xu_ne, xa_eq, xa_ne, pk_us, pk_un, pk_uLs, pk_uLn, eq_3, hfw_5, hfa_5, z5, y5_0, y5_1, y5_2, y5_3, hd1, hd2, hd3, hd4, hd5, hd6, nI_succ, bI_ff, bI_tt, nI_0] using hj
          simp (disch := omega) only [pN, pI, pL, pZ, row_eq, row_ne, xu_eq, xu_ne, xa_eq, xa_ne, pk_us, pk_un, pk_uLs, pk_uLn, eq_3, hfw_5, hfa_5, z5, y5_0, y5_1, y5_2, y5_3, hd1, hd2, hd3, hd4, hd5, hd6, nI_succ, bI_ff, bI_tt, nI_0, rr jj hj]
      have hf : f_batch σ x1 = (s_new σ x1 (σ.2.1 0 0) false, nI (σ.1 0)) := by simp [f_batch, opt_n, opt_s, c_1, c_2]
      exact W.iret (v := nI (σ.1 0)) hx hb hr (fun t ht _ => ⟨_, rfl, by rw [hf, ht]; exact ⟨rfl, _, _, hw, hRep, by simp (disch := omega) only [xu_ne, xa_ne, eq_3, hfw_5, hfa_5, z5, y5_0, y5_1, y5_2, y5_3, hd1, hd2, hd3, hd4, hd5, hd6, nI_succ, bI_ff, bI_tt, nI_0], fun t h2 => ⟨by simp (disch := omega) only [xu_ne, xa_ne, eq_3, hfw_5, hfa_5, z5, y5_0, y5_1, y5_2, y5_3, hd1, hd2, hd3, hd4, hd5, hd6, nI_succ, bI_ff, bI_tt, nI_0], by simp (disch := omega) only [xu_ne, xa_ne, eq_3, hfw_5, hfa_5, z5, y5_0, y5_1, y5_2, y5_3, hd1, hd2, hd3, hd4, hd5, hd6, nI_succ, bI_ff, bI_tt, nI_0]⟩⟩, hS.F ht⟩) hS.2.2 d_A_batch_39
    · have c_2 : ¬ (σ.1 0) < 8 := fun z => c_2 ((nLT (a := σ.1 0) (b := 8) (by omega) (by omega)).mpr z)
      refine lv_iconst (v := (-1)) hx hb d_A_batch_20 (by decide) ?_
      have hf : f_batch σ x1 = (σ, (-1)) := by simp [f_batch, opt_n, opt_s, c_1, c_2]
      refine W.widen (k := 4) (n := 49) (by decide) (by decide) ?_
      exact W.iret (v := (-1)) hx hb hr (fun t ht _ => ⟨_, rfl, by rw [hf, ht]; exact ⟨rfl, PX_same hw hR⟩, hS.F ht⟩) hS.2.2 d_A_batch_21
end
section
def f_sell (σ : xS) (x1 : Int32) : xS × Int64 := opt (xi (σ.1 1) x1) (σ, -1) fun j => (pL (pL σ (30 + j) (fun _ => 0)) 0 (vp_updL (σ.2.2.1 0) 0 (σ.2.2.1 0 0 + wor σ (σ.2.2.1 (30 + j)) (σ.2.1 0 0))), wor σ (σ.2.2.1 (30 + j)) (σ.2.1 0 0))
/-- what stage j takes of metal k of batch i -/
def pt (σ : xS) (i j k : Nat) (x : Int32) : Int64 := σ.2.2.1 (10 + i) k * (thou σ j x).toInt64 / 1000
def tog (σ : xS) (i j : Nat) : Int64 := 0 + pt σ i j 0 0 + pt σ i j 1 1 + pt σ i j 2 2 + pt σ i j 3 3
def s_pass (σ : xS) (i j : Nat) : xS :=
  pL (pL (pL (pL σ (10 + i) (vp_updL (vp_updL (vp_updL (vp_updL (σ.2.2.1 (10 + i)) 0 (σ.2.2.1 (10 + i) 0 - pt σ i j 0 0)) 1 (σ.2.2.1 (10 + i) 1 - pt σ i j 1 1)) 2 (σ.2.2.1 (10 + i) 2 - pt σ i j 2 2)) 3 (σ.2.2.1 (10 + i) 3 - pt σ i j 3 3)))
    (20 + i) (vp_updL (vp_updL (vp_updL (vp_updL (σ.2.2.1 (20 + i)) (j * 4) (pt σ i j 0 0)) (j * 4 + 1) (pt σ i j 1 1)) (j * 4 + 2) (pt σ i j 2 2)) (j * 4 + 3) (pt σ i j 3 3)))
    (30 + j) (vp_updL (vp_updL (vp_updL (vp_updL (σ.2.2.1 (30 + j)) 0 (σ.2.2.1 (30 + j) 0 + pt σ i j 0 0)) 1 (σ.2.2.1 (30 + j) 1 + pt σ i j 1 1)) 2 (σ.2.2.1 (30 + j) 2 + pt σ i j 2 2)) 3 (σ.2.2.1 (30 + j) 3 + pt σ i j 3 3)))
    1 (vp_updL (σ.2.2.1 1) i (mxL 0 (σ.2.2.1 1 i - tog σ i j / 1000000)))
def passN (σ : xS) (i : Nat) : Nat → xS
  | 0 => σ
  | n + 1 => s_pass (passN σ i n) i n
def s_run (σ : xS) (Lt : Nat → Nat → Int64) (i : Nat) : xS := pI (pN (pZ (σ.1, σ.2.1, Lt, σ.2.2.2) 1 (row (σ.2.2.2 1) i true)) (10 + 2 * i) (σ.1 1)) 10 (upd (σ.2.1 10) i (nI (σ.1 1)))
def f_run (σ : xS) (x1 : Int32) : xS × Int32 := opt (xi (σ.1 0) x1) (σ, -1) fun i => if σ.2.2.2 2 i then (σ, -1) else if σ.2.2.2 1 i then (σ, -1) else (s_run σ (passN σ i (σ.1 1)).2.2.1 i, nI (σ.1 1))
def s_mix (σ : xS) (i j : Nat) : xS :=
  pL (pZ (pZ (s_new σ (σ.2.2.1 1 i + σ.2.2.1 1 j) (mx (σ.2.1 1 i) (σ.2.1 1 j)) true) 2 (row (row (σ.2.2.2 2) i true) j true)) 1 (row (σ.2.2.2 1) (σ.1 0) (σ.2.2.2 1 i && σ.2.2.2 1 j)))
    (10 + σ.1 0) (vp_updL (vp_updL (vp_updL (vp_updL (fun _ => 0) 0 (σ.2.2.1 (10 + i) 0 + σ.2.2.1 (10 + j) 0)) 1 (σ.2.2.1 (10 + i) 1 + σ.2.2.1 (10 + j) 1)) 2 (σ.2.2.1 (10 + i) 2 + σ.2.2.1 (10 + j) 2)) 3 (σ.2.2.1 (10 + i) 3 + σ.2.2.1 (10 + j) 3))
def f_mix (σ : xS) (x1 x2 : Int32) : xS × Int32 := opt (xi (σ.1 0) x1) (σ, -1) fun i => opt (xi (σ.1 0) x2) (σ, -1) fun j => if i = j then (σ, -1) else if σ.1 0 < 8 then (if σ.2.2.2 2 i then (σ, -1) else if σ.2.2.2 2 j then (σ, -1) else if bI (σ.2.2.2 1 i) = bI (σ.2.2.2 1 j) then (s_mix σ i j, nI (σ.1 0)) else (σ, -1)) else (σ, -1)
/-- the numbers of a new object -/
def s_0 : xS := (fun _ => 0, fun k j => if k = 0 ∧ j = 1 then 50 else 0, fun _ _ => 0, fun _ _ => false)
end
section
set_option maxHeartbeats 4000000 in
set_option maxRecDepth 100000 in
theorem c_A_sell {l : Launch} {D : va_G} {K : Nat → ClassId} {B : Nat} {ad : Nat → Nat} {w : Nat → Option va_E} {H : Heap} {σ : xS} (hR : RepX K σ ad w) (hI : Inv σ) (hw : xw D vwCl B ad w H) (x1 : Int32) : xC l D K B y_A_sell b_A_sell 5 (some .long) rm_A_sell [.ref (ad 0), .int x1] H (fun v H1 => v = some (.long (f_sell σ x1).2) ∧ PX D K B ad w (f_sell σ x1).1 H1) := by
  refine Met.ofW (cc := b_A_sell) (maxL := 5) (ret := (some .long)) (by decide) rfl ?_
  intro p e s m args below meth c s₁ B0 hml hv
  obtain ⟨rfl, hsz, hK, hN⟩ := hv
  have hx := B0.exec
  have hb := B0.bytes
  have hr := B0.returns
  have htw : ∀ w ∈ xW0, w.before [.ref (ad 0), .int x1].toArray s = true := fun w h => atoms_spec (ws := Cond.code y_A_sell b_A_sell 5 (some .long) :: xW0) B0.pre w (List.mem_cons_of_mem _ h)
  have hown : s.vm.findClass R_A = some m.cls := findClass_of_methodNamed B0.named
  have hlocks := B0.notSynchronized
  subst hsz
  have hS : va_S (fun q => B ≤ q) s.heap s.heap [] := va_S.rf
  have hl := lv_entry ([.ref (ad 0), .int x1]) (n := 5) (Nat.le_of_ble_eq_true rfl)
  rw [lg_entry_eq]
  generalize (lg_sl ([.ref (ad 0), .int x1]) ++ List.replicate (5 - (lg_sl ([.ref (ad 0), .int x1])).length) Slot.unset).toArray = ls at hl ⊢
  have hl : lv_has ls 5 [(0, .ref (ad 0)), (1, .int x1)] := hl
  have hH : s.heap = s.heap := rfl
  obtain ⟨r0, r1, r2, r3, r4, r5, r6, r7, rb, rba, rbt, rbo, rs, rss, rr⟩ := id hR
  obtain ⟨hnb, hns, hnr, hpc, hst, hto, htl, hrm, hpa, hwt, hdf, hds⟩ := id hI
  refine lv_aload_n hx hb d_A_sell_0 rfl (lv_at hl 0 rfl) ?_
  refine lv_iload_n hx hb d_A_sell_1 rfl (lv_at hl 1 rfl) ?_
  refine xr_call (va_runV (As := [.int x1]) (rest := []) ⟨hx, hb, hml, hown, htw⟩ (c_A_stageAt (ad := ad) hR hnb hns hw x1) (cwV 1 htw (gV u_176 u_178 us_3 u_1 u_179) rfl rfl rfl hd_A_stageAt ⟨Nat.le_of_ble_eq_true rfl, Nat.le_of_ble_eq_true rfl⟩) ⟨xP_blind, hw.recv hK (ci := 0) (t := 0) rfl r0 rfl, xP_of hK hN⟩ rfl rfl hl.1 rfl (lv_room (Nat.le_of_ble_eq_true rfl)) d_A_sell_2 ⟨by decide, by decide⟩) hS (fun v H_ locs hp hS => ?_)
  obtain ⟨hHe, hp⟩ := hp
  rw [hHe] at hS ⊢
  rcases hp with ⟨f2, rfl⟩ | ⟨i1, hi1, rfl, rfl⟩
  · refine W.eq (g2 := F0 m 5 ls [.null]) rfl ?_
    refine lv_astore_nN (lv' := [(2, .null), (0, .ref (ad 0)), (1, .int x1)]) hx hb d_A_sell_5 rfl hl (by decide) rfl (fun ls hl => ?_)
    refine lv_aload_nN hx hb d_A_sell_6 rfl (lv_at hl 0 rfl) ?_
    refine lv_ifnonnullN hx hb d_A_sell_7 ?_
    refine lv_ldc2 (v := (-1)) hx hb hown (htw _ u_191) d_A_sell_10 ?_
    have hf : f_sell σ x1 = (σ, (-1)) := by simp [f_sell, opt_n, opt_s, f2]
    exact W.lret (v := (-1)) hx hb hr (fun t ht _ => ⟨_, rfl, by rw [hf, ht]; exact ⟨rfl, PX_same hw hR⟩, hS.F ht⟩) hS.2.2 d_A_sell_13
  · have fi1 : xi (σ.1 1) (nI i1) = some i1 := xi_nI hi1 (by omega)
    refine W.eq (g2 := F0 m 5 ls [.ref (ad (140 + i1))]) rfl ?_
    refine lv_astore_n (lv' := [(2, .ref (ad (140 + i1))), (0, .ref (ad 0)), (1, .int (nI i1))]) hx hb d_A_sell_5 rfl hl (by decide) rfl (fun ls hl => ?_)
    refine lv_aload_n hx hb d_A_sell_6 rfl (lv_at hl 0 rfl) ?_
    refine lv_ifnonnull (tgt := 14) hx hb d_A_sell_7 (by decide) ?_
    refine lv_aload_n hx hb d_A_sell_14 rfl (lv_at hl 1 rfl) ?_
    refine xr_get (ci := 0) (v := .ref (ad 4)) (C := R_A) (T := T_A) (N := 10) hx hb htw in_A hown hK hw 0 r0 rfl rfl 6 (by decide) (htw _ u_47) (fun _ h9 => h9) rfl d_A_sell_15 ?_
    refine lv_aload_n hx hb d_A_sell_18 rfl (lv_at hl 0 rfl) ?_
    refine xr_get (ci := 2) (v := .ref (ad (150 + i1))) (C := R_S) (T := T_S) (N := 4) hx hb htw in_S hown hK hw (140 + i1) (rs i1 hi1) rfl rfl 3 (by decide) (htw _ u_158) (fun _ h9 => h9) rfl d_A_sell_19 ?_
    refine lv_aload_n hx hb d_A_sell_22 rfl (lv_at hl 1 rfl) ?_
    refine xr_get (ci := 0) (v := .int (σ.2.1 0 0)) (C := R_A) (T := T_A) (N := 10) hx hb htw in_A hown hK hw 0 r0 rfl rfl 7 (by decide) (htw _ u_48) (fun _ h9 => h9) rfl d_A_sell_23 ?_
    refine xr_call (va_runV (As := [.ref (ad (150 + i1)), .int (σ.2.1 0 0)]) (rest := []) ⟨hx, hb, hml, hown, htw⟩ (c_P_centsFor (ad := ad) hR hI hw (150 + i1) (σ.2.2.1 (30 + i1)) (rss i1 hi1) (σ.2.1 0 0)) (cwV 2 htw (gV u_221 u_222 u_223 u_2 u_224) rfl rfl rfl hd_P_centsFor ⟨Nat.le_of_ble_eq_true rfl, Nat.le_of_ble_eq_true rfl⟩) ⟨xP_blind, hw.recv hK (ci := 4) (t := 4) rfl r4 rfl, xP_of hK hN⟩ rfl rfl hl.1 rfl (lv_room (Nat.le_of_ble_eq_true rfl)) d_A_sell_26 ⟨by decide, by decide⟩) hS (fun v H_ locs hp hS => ?_)
    obtain ⟨rfl, hHe⟩ := hp
    rw [hHe] at hS ⊢
    refine W.eq (g2 := F0 m 29 ls [.long (wor σ (σ.2.2.1 (30 + i1)) (σ.2.1 0 0))]) rfl ?_
    refine lv_lstore_n (lv' := [(3, .long (wor σ (σ.2.2.1 (30 + i1)) (σ.2.1 0 0))), (2, .ref (ad (140 + i1))), (0, .ref (ad 0)), (1, .int (nI i1))]) hx hb d_A_sell_29 rfl hl (by decide) rfl (fun ls hl => ?_)
    refine lv_aload_n hx hb d_A_sell_30 rfl (lv_at hl 1 rfl) ?_
    refine xr_get (ci := 2) (v := .ref (ad (150 + i1))) (C := R_S) (T := T_S) (N := 4) hx hb htw in_S hown hK hw (140 + i1) (rs i1 hi1) rfl rfl 3 (by decide) (htw _ u_158) (fun _ h9 => h9) rfl d_A_sell_31 ?_
    refine lv_lconst (v := 0) hx hb d_A_sell_34 (by decide) ?_
    refine xr_call (va_runS (As := [.ref (ad (150 + i1)), .long 0]) (rest := []) ⟨hx, hb, hml, hown, htw⟩ (c_J_fillJ (ad := ad) hw (150 + i1) 4 (by decide) (σ.2.2.1 (30 + i1)) 0 (rss i1 hi1) (ad (150 + i1)) rfl) (va_cwS 2 htw (gS u_234 u_235 u_5 u_236) rfl rfl rfl hd_J_fillJ.2 ⟨Nat.le_of_ble_eq_true rfl, Nat.le_of_ble_eq_true rfl⟩) ⟨xP_blind, xP_of hK hN⟩ rfl rfl hl.1 rfl (lv_room (Nat.le_of_ble_eq_true rfl)) d_A_sell_35 ⟨by decide, by decide⟩) hS (fun v H_ locs hp hS => ?_)
    obtain ⟨rfl, hw⟩ := hp
    generalize H_ = H at hw hS ⊢
    have hw : xw D vwCl B ad (xu w (150 + i1) (.inl (K 1, 4, .inr (.inl (fun _ => 0))))) H := hw
    refine W.eq (g2 := F0 m 38 ls []) rfl ?_
    refine lv_aload_n hx hb d_A_sell_38 rfl (lv_at hl 2 rfl) ?_
    refine lv_dup hx hb d_A_sell_39 rfl ?_
    refine xr_get (ci := 0) (v := .long (σ.2.2.1 0 0)) (C := R_A) (T := T_A) (N := 10) hx hb htw in_A hown hK hw 0 ((xu_ne (by omega)).trans (r0)) rfl rfl 9 (by decide) (htw _ u_50) (fun _ h9 => h9) rfl d_A_sell_40 ?_
    refine lv_lload_n hx hb d_A_sell_43 rfl (lv_at hl 0 rfl) ?_
    refine lv_ladd hx hb d_A_sell_44 ?_
    refine xr_put (ci := 0) (v := .long ((σ.2.2.1 0 0) + (wor σ (σ.2.2.1 (30 + i1)) (σ.2.1 0 0)))) (ty := .long) (C := R_A) (T := T_A) (N := 10) hx hb htw in_A ty_A tk_A nm_A hown hK hw hS 0 ((xu_ne (by omega)).trans (r0)) rfl rfl 9 (by decide) (htw _ u_50) (fun _ h9 => h9) rfl (by decide +kernel) rfl rfl (Nat.le_of_ble_eq_true rfl) d_A_sell_45 (fun H locs hw hS => ?_)
    have hw : xw D vwCl B ad (xu (xu w (150 + i1) (.inl (K 1, 4, .inr (.inl (fun _ => 0))))) 0 (.inr (0, [.ref (ad 1), .int (nI (σ.1 0)), .ref (ad 2), .int (nI (σ.1 1)), .ref (ad 3), .int (nI (σ.1 2)), .ref (ad 4), .int (σ.2.1 0 0), .int (σ.2.1 0 1), .long ((σ.2.2.1 0 0) + (wor σ (σ.2.2.1 (30 + i1)) (σ.2.1 0 0)))]))) H := hw
    refine lv_lload_n hx hb d_A_sell_48 rfl (lv_at hl 0 rfl) ?_
    have hRep : RepX K (pL (pL σ (30 + i1) (fun _ => 0)) 0 (vp_updL (σ.2.2.1 0) 0 (σ.2.2.1 0 0 + wor σ (σ.2.2.1 (30 + i1)) (σ.2.1 0 0)))) ad (xu (xu w (150 + i1) (.inl (K 1, 4, .inr (.inl (fun _ => 0))))) 0 (.inr (0, [.ref (ad 1), .int (nI (σ.1 0)), .ref (ad 2), .int (nI (σ.1 1)), .ref (ad 3), .int (nI (σ.1 2)), .ref (ad 4), .int (σ.2.1 0 0), .int (σ.2.1 0 1), .long ((σ.2.2.1 0 0) + (wor σ (σ.2.2.1 (30 + i1)) (σ.2.1 0 0)))]))) := by
      refine ⟨?_, ?_, ?_, ?_, ?_, ?_, ?_, ?_, ?_, ?_, ?_, ?_, ?_, ?_, ?_⟩
      · simp (disch := omega) only [pN, pI, pL, pZ, row_eq, row_ne, xu_eq, xu_ne, xa_eq, xa_ne, pk_us, pk_un, pk_uLs, pk_uLn, r0]
      · simp (disch := omega) only [pN, pI, pL, pZ, row_eq, row_ne, xu_eq, xu_ne, xa_eq, xa_ne, pk_us, pk_un, pk_uLs, pk_uLn, r1]; try rfl
      · simp (disch := omega) only [pN, pI, pL, pZ, row_eq, row_ne, xu_eq, xu_ne, xa_eq, xa_ne, pk_us, pk_un, pk_uLs, pk_uLn, r2]; try rfl
      · simp (disch := omega) only [pN, pI, pL, pZ, row_eq, row_ne, xu_eq, xu_ne, xa_eq, xa_ne, pk_us, pk_un, pk_uLs, pk_uLn, r3]; try rfl
      · simp (disch := omega) only [pN, pI, pL, pZ, row_eq, row_ne, xu_eq, xu_ne, xa_eq, xa_ne, pk_us, pk_un, pk_uLs, pk_uLn, r4]
      · simp (disch := omega) only [pN, pI, pL, pZ, row_eq, row_ne, xu_eq, xu_ne, xa_eq, xa_ne, pk_us, pk_un, pk_uLs, pk_uLn, r5]
      · simp (disch := omega) only [pN, pI, pL, pZ, row_eq, row_ne, xu_eq, xu_ne, xa_eq, xa_ne, pk_us, pk_un, pk_uLs, pk_uLn, r6]
      · simp (disch := omega) only [pN, pI, pL, pZ, row_eq, row_ne, xu_eq, xu_ne, xa_eq, xa_ne, pk_us, pk_un, pk_uLs, pk_uLn, r7]
      · intro jj hj
        have hj : jj < σ.1 0 := by first | exact hj | simpa (disch := omega) only [pN, pI, pL, pZ, row_eq, row_ne, xu_eq, xu_ne, xa_eq, xa_ne, pk_us, pk_un, pk_uLs, pk_uLn] using hj
        simp (disch := omega) only [pN, pI, pL, pZ, row_eq, row_ne, xu_eq, xu_ne, xa_eq, xa_ne, pk_us, pk_un, pk_uLs, pk_uLn, rb jj hj]
      · intro jj hj
        have hj : jj < σ.1 0 := by first | exact hj | simpa (disch := omega) only [pN, pI, pL, pZ, row_eq, row_ne, xu_eq, xu_ne, xa_eq, xa_ne, pk_us, pk_un, pk_uLs, pk_uLn] using hj
        simp (disch := omega) only [pN, pI, pL, pZ, row_eq, row_ne, xu_eq, xu_ne, xa_eq, xa_ne, pk_us, pk_un, pk_uLs, pk_uLn, rba jj hj]
      · intro jj hj
        have hj : jj < σ.1 0 := by first | exact hj | simpa (disch := omega) only [pN, pI, pL, pZ, row_eq, row_ne, xu_eq, xu_ne, xa_eq, xa_ne, pk_us, pk_un, pk_uLs, pk_uLn] using hj
        simp (disch := omega) only [pN, pI, pL, pZ, row_eq, row_ne, xu_eq, xu_ne, xa_eq, xa_ne, pk_us, pk_un, pk_uLs, pk_uLn, rbt jj hj]
      · intro jj hj
        have hj : jj < σ.1 0 := by first | exact hj | simpa (disch := omega) only [pN, pI, pL, pZ, row_eq, row_ne, xu_eq, xu_ne, xa_eq, xa_ne, pk_us, pk_un, pk_uLs, pk_uLn] using hj
        simp (disch := omega) only [pN, pI, pL, pZ, row_eq, row_ne, xu_eq, xu_ne, xa_eq, xa_ne, pk_us, pk_un, pk_uLs, pk_uLn, rbo jj hj]
      · intro jj hj
        have hj : jj < σ.1 1 := by first | exact hj | simpa (disch := omega) only [pN, pI, pL, pZ, row_eq, row_ne, xu_eq, xu_ne, xa_eq, xa_ne, pk_us, pk_un, pk_uLs, pk_uLn] using hj
        simp (disch := omega) only [pN, pI, pL, pZ, row_eq, row_ne, xu_eq, xu_ne, xa_eq, xa_ne, pk_us, pk_un, pk_uLs, pk_uLn, rs jj hj]
      · intro jj hj
        have hj : jj < σ.1 1 := by first | exact hj | simpa (disch := omega) only [pN, pI, pL, pZ, row_eq, row_ne, xu_eq, xu_ne, xa_eq, xa_ne, pk_us, pk_un, pk_uLs, pk_uLn] using hj
        by_cases ej : jj = i1
        · rw [ej]; simp (disch := omega) only [pN, pI, pL, pZ, row_eq, row_ne, xu_eq, xu_ne, xa_eq, xa_ne, pk_us, pk_un, pk_uLs, pk_uLn, rss i1 (by omega)]
        · simp (disch := omega) only [pN, pI, pL, pZ, row_eq, row_ne, xu_eq, xu_ne, xa_eq, xa_ne, pk_us, pk_un, pk_uLs, pk_uLn, rss jj (by omega)]
      · intro jj hj
        have hj : jj < σ.1 2 := by first | exact hj | simpa (disch := omega) only [pN, pI, pL, pZ, row_eq, row_ne, xu_eq, xu_ne, xa_eq, xa_ne, pk_us, pk_un, pk_uLs, pk_uLn] using hj
        simp (disch := omega) only [pN, pI, pL, pZ, row_eq, row_ne, xu_eq, xu_ne, xa_eq, xa_ne, pk_us, pk_un, pk_uLs, pk_uLn, rr jj hj]
    have hf : f_sell σ (nI i1) = (pL (pL σ (30 + i1) (fun _ => 0)) 0 (vp_updL (σ.2.2.1 0) 0 (σ.2.2.1 0 0 + wor σ (σ.2.2.1 (30 + i1)) (σ.2.1 0 0))), wor σ (σ.2.2.1 (30 + i1)) (σ.2.1 0 0)) := by simp [f_sell, opt_n, opt_s, fi1]
    exact W.lret (v := wor σ (σ.2.2.1 (30 + i1)) (σ.2.1 0 0)) hx hb hr (fun t ht _ => ⟨_, rfl, by rw [hf, ht]; exact ⟨rfl, _, _, hw, hRep, rfl, fun t h2 => ⟨by simp (disch := omega) only [xu_ne, xa_ne], rfl⟩⟩, hS.F ht⟩) hS.2.2 d_A_sell_49
set_option maxHeartbeats 4000000 in
set_option maxRecDepth 100000 in
theorem c_A_passThrough {l : Launch} {D : va_G} {K : Nat → ClassId} {B : Nat} {ad : Nat → Nat} {w : Nat → Option va_E} {H : Heap} {σ : xS} (hR : RepX K σ ad w) (hnb : σ.1 0 ≤ 8) (hns : σ.1 1 ≤ 6) (hw : xw D vwCl B ad w H) (i : Nat) (hi : i < σ.1 0) (j : Nat) (hj0 : j < σ.1 1) : xC l D K B y_A_passThrough b_A_passThrough 9 none rm_A_passThrough [.ref (ad 0), .ref (ad (100 + i)), .int (nI j)] H (fun v H1 => v = none ∧ ∃ w1, xw D vwCl B ad w1 H1 ∧ RepX K (s_pass σ i j) ad w1 ∧ ∀ t, 200 ≤ t → w1 t = w t) := by
  refine Met.ofW (cc := b_A_passThrough) (maxL := 9) (ret := none) (by decide) rfl ?_
  intro p e s m args below meth c s₁ B0 hml hv
  obtain ⟨rfl, hsz, hK, hN⟩ := hv
  have hx := B0.exec
  have hb := B0.bytes
  have hr := B0.returns
  have htw : ∀ w ∈ xW0, w.before [.ref (ad 0), .ref (ad (100 + i)), .int (nI j)].toArray s = true := fun w h => atoms_spec (ws := Cond.code y_A_passThrough b_A_passThrough 9 none :: xW0) B0.pre w (List.mem_cons_of_mem _ h)
  have hown : s.vm.findClass R_A = some m.cls := findClass_of_methodNamed B0.named
  have hlocks := B0.notSynchronized
  subst hsz
  have hS : va_S (fun q => B ≤ q) s.heap s.heap [] := va_S.rf
  have hl := lv_entry ([.ref (ad 0), .ref (ad (100 + i)), .int (nI j)]) (n := 9) (Nat.le_of_ble_eq_true rfl)
  rw [lg_entry_eq]
  generalize (lg_sl ([.ref (ad 0), .ref (ad (100 + i)), .int (nI j)]) ++ List.replicate (9 - (lg_sl ([.ref (ad 0), .ref (ad (100 + i)), .int (nI j)])).length) Slot.unset).toArray = ls at hl ⊢
  have hl : lv_has ls 9 [(0, .ref (ad 0)), (1, .ref (ad (100 + i))), (2, .int (nI j))] := hl
  have hH : s.heap = s.heap := rfl
  obtain ⟨r0, r1, r2, r3, r4, r5, r6, r7, rb, rba, rbt, rbo, rs, rss, rr⟩ := id hR
  refine lv_aload_n hx hb d_A_passThrough_0 rfl (lv_at hl 0 rfl) ?_
  refine lv_iload_n hx hb d_A_passThrough_1 rfl (lv_at hl 2 rfl) ?_
  refine xr_call (va_runV (As := [.int (nI j)]) (rest := []) ⟨hx, hb, hml, hown, htw⟩ (c_A_stageAt (ad := ad) hR hnb hns hw (nI j)) (cwV 1 htw (gV u_176 u_178 us_3 u_1 u_179) rfl rfl rfl hd_A_stageAt ⟨Nat.le_of_ble_eq_true rfl, Nat.le_of_ble_eq_true rfl⟩) ⟨xP_blind, hw.recv hK (ci := 0) (t := 0) rfl r0 rfl, xP_of hK hN⟩ rfl rfl hl.1 rfl (lv_room (Nat.le_of_ble_eq_true rfl)) d_A_passThrough_2 ⟨by decide, by decide⟩) hS (fun v H_ locs hp hS => ?_)
  obtain ⟨hHe, hp⟩ := hp
  rw [hHe] at hS ⊢
  rcases hp with ⟨hno, rfl⟩ | ⟨j0, hj1, ej0, rfl⟩
  · rw [xi_nI hj0 (by omega)] at hno; cases hno
  · obtain rfl : j = j0 := (nEQ (by omega) (by omega)).mp ej0
    refine W.eq (g2 := F0 m 5 ls [.ref (ad (140 + j))]) rfl ?_
    refine lv_astore_n (lv' := [(3, .ref (ad (140 + j))), (0, .ref (ad 0)), (1, .ref (ad (100 + i))), (2, .int (nI j))]) hx hb d_A_passThrough_5 rfl hl (by decide) rfl (fun ls hl => ?_)
    refine lv_aload_n hx hb d_A_passThrough_6 rfl (lv_at hl 0 rfl) ?_
    refine lv_ifnonnull (tgt := 11) hx hb d_A_passThrough_7 (by decide) ?_
    refine lv_lconst (v := 0) hx hb d_A_passThrough_11 (by decide) ?_
    refine lv_lstore (lv' := [(4, .long 0), (3, .ref (ad (140 + j))), (0, .ref (ad 0)), (1, .ref (ad (100 + i))), (2, .int (nI j))]) hx hb d_A_passThrough_12 hl (by decide) rfl (fun ls hl => ?_)
    refine lv_iconst (v := 0) hx hb d_A_passThrough_14 (by decide) ?_
    refine lv_istore (lv' := [(6, .int 0), (4, .long 0), (3, .ref (ad (140 + j))), (0, .ref (ad 0)), (1, .ref (ad (100 + i))), (2, .int (nI j))]) hx hb d_A_passThrough_15 hl (by decide) rfl (fun ls hl => ?_)
    refine lv_iload hx hb d_A_passThrough_17 (lv_at hl 0 rfl) ?_
    refine lv_iconst (v := 4) hx hb d_A_passThrough_19 (by decide) ?_
    refine lv_icmp_ge (tgt := 94) hx hb d_A_passThrough_20 (by decide) (fun c_1 => absurd c_1 (by decide)) (fun c_1 => ?_)
    refine lv_aload_n hx hb d_A_passThrough_23 rfl (lv_at hl 4 rfl) ?_
    refine xr_get (ci := 1) (v := .ref (ad (110 + i))) (C := R_B) (T := T_B) (N := 9) hx hb htw in_B hown hK hw (100 + i) (rb i hi) rfl rfl 2 (by decide) (htw _ u_94) (fun _ h9 => h9) rfl d_A_passThrough_24 ?_
    refine lv_iload hx hb d_A_passThrough_27 (lv_at hl 0 rfl) ?_
    refine xr_lald (i := 0) hx hb hK hw (110 + i) 1 (rba i hi) rfl rfl (by unfold vp_in; decide) d_A_passThrough_29 ?_
    refine lv_topl (fun x_2 ex_2 => ?_)
    obtain rfl : x_2 = (σ.2.2.1 (10 + i)) 0 := ex_2.trans ((congrArg (σ.2.2.1 (10 + i)) ((rfl : (0 : Int32).toNatClampNeg = 0))).trans rfl)
    refine lv_aload_n hx hb d_A_passThrough_30 rfl (lv_at hl 2 rfl) ?_
    refine lv_iload hx hb d_A_passThrough_31 (lv_at hl 0 rfl) ?_
    refine xr_call (va_runV (As := [.int 0]) (rest := [.long ((σ.2.2.1 (10 + i)) 0)]) ⟨hx, hb, hml, hown, htw⟩ (c_S_thousandthsOf (ad := ad) (σ := σ) hw (140 + j) j (.ref (ad (150 + j))) (rs j hj0) (ad (140 + j)) rfl 0) (cwV 1 htw (gV u_180 u_181 u_182 u_6 u_183) rfl rfl rfl hd_S_thousandthsOf ⟨Nat.le_of_ble_eq_true rfl, Nat.le_of_ble_eq_true rfl⟩) ⟨xP_blind, hw.recv hK (ci := 2) (t := 140 + j) rfl (rs j hj0) rfl, xP_of hK hN⟩ rfl rfl hl.1 rfl (lv_room (Nat.le_of_ble_eq_true rfl)) d_A_passThrough_33 ⟨by decide, by decide⟩) hS (fun v H_ locs hp hS => ?_)
    obtain ⟨rfl, hHe⟩ := hp
    rw [hHe] at hS ⊢
    refine W.eq (g2 := F0 m 36 ls [.int (thou σ j 0), .long ((σ.2.2.1 (10 + i)) 0)]) rfl ?_
    refine lv_i2l hx hb d_A_passThrough_36 rfl ?_
    refine lv_lmul hx hb d_A_passThrough_37 ?_
    refine lv_ldc2 (v := 1000) hx hb hown (htw _ u_148) d_A_passThrough_38 ?_
    refine lv_ldiv hx hb d_A_passThrough_41 (by decide) ?_
    refine lv_topl (fun x_3 ex_3 => ?_)
    obtain rfl : x_3 = pt σ i j 0 0 := ex_3
    refine lv_lstore (lv' := [(7, .long (pt σ i j 0 0)), (6, .int 0), (4, .long 0), (3, .ref (ad (140 + j))), (0, .ref (ad 0)), (1, .ref (ad (100 + i))), (2, .int (nI j))]) hx hb d_A_passThrough_42 hl (by decide) rfl (fun ls hl => ?_)
    refine lv_aload_n hx hb d_A_passThrough_44 rfl (lv_at hl 5 rfl) ?_
    refine xr_get (ci := 1) (v := .ref (ad (110 + i))) (C := R_B) (T := T_B) (N := 9) hx hb htw in_B hown hK hw (100 + i) (rb i hi) rfl rfl 2 (by decide) (htw _ u_94) (fun _ h9 => h9) rfl d_A_passThrough_45 ?_
    refine lv_iload hx hb d_A_passThrough_48 (lv_at hl 1 rfl) ?_
    refine lv_dup2_11 hx hb d_A_passThrough_50 rfl rfl ?_
    refine xr_lald (i := 0) hx hb hK hw (110 + i) 1 (rba i hi) rfl rfl (by unfold vp_in; decide) d_A_passThrough_51 ?_
    refine lv_topl (fun x_4 ex_4 => ?_)
    obtain rfl : x_4 = (σ.2.2.1 (10 + i)) 0 := ex_4.trans ((congrArg (σ.2.2.1 (10 + i)) ((rfl : (0 : Int32).toNatClampNeg = 0))).trans rfl)
    refine lv_lload hx hb d_A_passThrough_52 (lv_at hl 0 rfl) ?_
    refine lv_lsub hx hb d_A_passThrough_54 ?_
    refine xr_last (i := 0) hx hb hK hw hS (110 + i) 1 (rba i hi) rfl rfl (by unfold vp_in; decide) d_A_passThrough_55 (fun H locs hw hS => ?_)
    have hw : xw D vwCl B ad (xu w (110 + i) (.inl (K 1, 4, .inr (.inl (vp_updL (σ.2.2.1 (10 + i)) 0 (((σ.2.2.1 (10 + i)) 0) - (pt σ i j 0 0))))))) H := hw
    refine lv_aload_n hx hb d_A_passThrough_56 rfl (lv_at hl 5 rfl) ?_
    refine xr_get (ci := 1) (v := .ref (ad (120 + i))) (C := R_B) (T := T_B) (N := 9) hx hb htw in_B hown hK hw (100 + i) ((xu_ne (by omega)).trans (rb i hi)) rfl rfl 3 (by decide) (htw _ u_96) (fun _ h9 => h9) rfl d_A_passThrough_57 ?_
    refine lv_iload_n hx hb d_A_passThrough_60 rfl (lv_at hl 6 rfl) ?_
    refine lv_iconst (v := 4) hx hb d_A_passThrough_61 (by decide) ?_
    refine lv_imul hx hb d_A_passThrough_62 ?_
    refine lv_iload hx hb d_A_passThrough_63 (lv_at hl 1 rfl) ?_
    refine lv_iadd hx hb d_A_passThrough_65 ?_
    refine lv_lload hx hb d_A_passThrough_66 (lv_at hl 0 rfl) ?_
    refine xr_last (i := ((nI j) * 4) + 0) hx hb hK hw hS (120 + i) 1 ((xu_ne (by omega)).trans (rbt i hi)) rfl rfl (xvin (a := j * 4) (xadd (a := j * 4) (b := 0) (xmul (a := j) (b := 4) rfl rfl) rfl) (by omega) (by omega)) d_A_passThrough_68 (fun H locs hw hS => ?_)
    rw [show (((nI j) * 4) + 0).toNatClampNeg = j * 4 from xcl (a := j * 4) (xadd (a := j * 4) (b := 0) (xmul (a := j) (b := 4) rfl rfl) rfl) (by omega)] at hw
    have hw : xw D vwCl B ad (xu (xu w (110 + i) (.inl (K 1, 4, .inr (.inl (vp_updL (σ.2.2.1 (10 + i)) 0 (((σ.2.2.1 (10 + i)) 0) - (pt σ i j 0 0))))))) (120 + i) (.inl (K 1, 24, .inr (.inl (vp_updL (σ.2.2.1 (20 + i)) (j * 4) (pt σ i j 0 0)))))) H := hw
    refine lv_aload_n hx hb d_A_passThrough_69 rfl (lv_at hl 3 rfl) ?_
    refine xr_get (ci := 2) (v := .ref (ad (150 + j))) (C := R_S) (T := T_S) (N := 4) hx hb htw in_S hown hK hw (140 + j) ((xu_ne (by omega)).trans ((xu_ne (by omega)).trans (rs j hj0))) rfl rfl 3 (by decide) (htw _ u_158) (fun _ h9 => h9) rfl d_A_passThrough_70 ?_
    refine lv_iload hx hb d_A_passThrough_73 (lv_at hl 1 rfl) ?_
    refine lv_dup2_11 hx hb d_A_passThrough_75 rfl rfl ?_
    refine xr_lald (i := 0) hx hb hK hw (150 + j) 1 ((xu_ne (by omega)).trans ((xu_ne (by omega)).trans (rss j hj0))) rfl rfl (by unfold vp_in; decide) d_A_passThrough_76 ?_
    refine lv_topl (fun x_5 ex_5 => ?_)
    obtain rfl : x_5 = (σ.2.2.1 (30 + j)) 0 := ex_5.trans ((congrArg (σ.2.2.1 (30 + j)) ((rfl : (0 : Int32).toNatClampNeg = 0))).trans rfl)
    refine lv_lload hx hb d_A_passThrough_77 (lv_at hl 0 rfl) ?_
    refine lv_ladd hx hb d_A_passThrough_79 ?_
    refine xr_last (i := 0) hx hb hK hw hS (150 + j) 1 ((xu_ne (by omega)).trans ((xu_ne (by omega)).trans (rss j hj0))) rfl rfl (by unfold vp_in; decide) d_A_passThrough_80 (fun H locs hw hS => ?_)
    have hw : xw D vwCl B ad (xu (xu (xu w (110 + i) (.inl (K 1, 4, .inr (.inl (vp_updL (σ.2.2.1 (10 + i)) 0 (((σ.2.2.1 (10 + i)) 0) - (pt σ i j 0 0))))))) (120 + i) (.inl (K 1, 24, .inr (.inl (vp_updL (σ.2.2.1 (20 + i)) (j * 4) (pt σ i j 0 0)))))) (150 + j) (.inl (K 1, 4, .inr (.inl (vp_updL (σ.2.2.1 (30 + j)) 0 (((σ.2.2.1 (30 + j)) 0) + (pt σ i j 0 0))))))) H := hw
    refine lv_lload hx hb d_A_passThrough_81 (lv_at hl 2 rfl) ?_
    refine lv_lload hx hb d_A_passThrough_83 (lv_at hl 0 rfl) ?_
    refine lv_ladd hx hb d_A_passThrough_85 ?_
    refine lv_lstore (lv' := [(4, .long (0 + (pt σ i j 0 0))), (7, .long (pt σ i j 0 0)), (6, .int 0), (3, .ref (ad (140 + j))), (0, .ref (ad 0)), (1, .ref (ad (100 + i))), (2, .int (nI j))]) hx hb d_A_passThrough_86 hl (by decide) rfl (fun ls hl => ?_)
    refine lv_iinc (v := 1) (lv' := [(6, .int 1), (4, .long (0 + (pt σ i j 0 0))), (7, .long (pt σ i j 0 0)), (3, .ref (ad (140 + j))), (0, .ref (ad 0)), (1, .ref (ad (100 + i))), (2, .int (nI j))]) hx hb d_A_passThrough_88 hl (k := 2) rfl (by decide) (by decide) rfl (fun ls hl => ?_)
    refine lv_goto (tgt := 17) hx hb d_A_passThrough_91 (by decide) ?_
    refine lv_iload hx hb d_A_passThrough_17 (lv_at hl 0 rfl) ?_
    refine lv_iconst (v := 4) hx hb d_A_passThrough_19 (by decide) ?_
    refine lv_icmp_ge (tgt := 94) hx hb d_A_passThrough_20 (by decide) (fun c_6 => absurd c_6 (by decide)) (fun c_6 => ?_)
    refine lv_aload_n hx hb d_A_passThrough_23 rfl (lv_at hl 5 rfl) ?_
    refine xr_get (ci := 1) (v := .ref (ad (110 + i))) (C := R_B) (T := T_B) (N := 9) hx hb htw in_B hown hK hw (100 + i) ((xu_ne (by omega)).trans ((xu_ne (by omega)).trans ((xu_ne (by omega)).trans (rb i hi)))) rfl rfl 2 (by decide) (htw _ u_94) (fun _ h9 => h9) rfl d_A_passThrough_24 ?_
    refine lv_iload hx hb d_A_passThrough_27 (lv_at hl 0 rfl) ?_
    refine xr_lald (i := 1) hx hb hK hw (110 + i) 1 ((xu_ne (by omega)).trans ((xu_ne (by omega)).trans (xu_eq))) rfl rfl (by unfold vp_in; decide) d_A_passThrough_29 ?_
    refine lv_topl (fun x_7 ex_7 => ?_)
    obtain rfl : x_7 = (σ.2.2.1 (10 + i)) 1 := ex_7.trans ((congrArg (vp_updL (σ.2.2.1 (10 + i)) 0 (((σ.2.2.1 (10 + i)) 0) - (pt σ i j 0 0))) ((rfl : (1 : Int32).toNatClampNeg = 1))).trans ((pk_uLn (show (1 : Nat) ≠ 0 by decide)).trans rfl))
    refine lv_aload_n hx hb d_A_passThrough_30 rfl (lv_at hl 3 rfl) ?_
    refine lv_iload hx hb d_A_passThrough_31 (lv_at hl 0 rfl) ?_
    refine xr_call (va_runV (As := [.int 1]) (rest := [.long ((σ.2.2.1 (10 + i)) 1)]) ⟨hx, hb, hml, hown, htw⟩ (c_S_thousandthsOf (ad := ad) (σ := σ) hw (140 + j) j (.ref (ad (150 + j))) ((xu_ne (by omega)).trans ((xu_ne (by omega)).trans ((xu_ne (by omega)).trans (rs j hj0)))) (ad (140 + j)) rfl 1) (cwV 1 htw (gV u_180 u_181 u_182 u_6 u_183) rfl rfl rfl hd_S_thousandthsOf ⟨Nat.le_of_ble_eq_true rfl, Nat.le_of_ble_eq_true rfl⟩) ⟨xP_blind, hw.recv hK (ci := 2) (t := 140 + j) rfl ((xu_ne (by omega)).trans ((xu_ne (by omega)).trans ((xu_ne (by omega)).trans (rs j hj0)))) rfl, xP_of hK hN⟩ rfl rfl hl.1 rfl (lv_room (Nat.le_of_ble_eq_true rfl)) d_A_passThrough_33 ⟨by decide, by decide⟩) hS (fun v H_ locs hp hS => ?_)
    obtain ⟨rfl, hHe⟩ := hp
    rw [hHe] at hS ⊢
    refine W.eq (g2 := F0 m 36 ls [.int (thou σ j 1), .long ((σ.2.2.1 (10 + i)) 1)]) rfl ?_
    refine lv_i2l hx hb d_A_passThrough_36 rfl ?_
    refine lv_lmul hx hb d_A_passThrough_37 ?_
    refine lv_ldc2 (v := 1000) hx hb hown (htw _ u_148) d_A_passThrough_38 ?_
    refine lv_ldiv hx hb d_A_passThrough_41 (by decide) ?_
    refine lv_topl (fun x_8 ex_8 => ?_)
    obtain rfl : x_8 = pt σ i j 1 1 := ex_8
    refine lv_lstore (lv' := [(7, .long (pt σ i j 1 1)), (6, .int 1), (4, .long (0 + (pt σ i j 0 0))), (3, .ref (ad (140 + j))), (0, .ref (ad 0)), (1, .ref (ad (100 + i))), (2, .int (nI j))]) hx hb d_A_passThrough_42 hl (by decide) rfl (fun ls hl => ?_)
    refine lv_aload_n hx hb d_A_passThrough_44 rfl (lv_at hl 5 rfl) ?_
    refine xr_get (ci := 1) (v := .ref (ad (110 + i))) (C := R_B) (T := T_B) (N := 9) hx hb htw in_B hown hK hw (100 + i) ((xu_ne (by omega)).trans ((xu_ne (by omega)).trans ((xu_ne (by omega)).trans (rb i hi)))) rfl rfl 2 (by decide) (htw _ u_94) (fun _ h9 => h9) rfl d_A_passThrough_45 ?_
    refine lv_iload hx hb d_A_passThrough_48 (lv_at hl 1 rfl) ?_
    refine lv_dup2_11 hx hb d_A_passThrough_50 rfl rfl ?_
    refine xr_lald (i := 1) hx hb hK hw (110 + i) 1 ((xu_ne (by omega)).trans ((xu_ne (by omega)).trans (xu_eq))) rfl rfl (by unfold vp_in; decide) d_A_passThrough_51 ?_
    refine lv_topl (fun x_9 ex_9 => ?_)
    obtain rfl : x_9 = (σ.2.2.1 (10 + i)) 1 := ex_9.trans ((congrArg (vp_updL (σ.2.2.1 (10 + i)) 0 (((σ.2.2.1 (10 + i)) 0) - (pt σ i j 0 0))) ((rfl : (1 : Int32).toNatClampNeg = 1))).trans ((pk_uLn (show (1 : Nat) ≠ 0 by decide)).trans rfl))
    refine lv_lload hx hb d_A_passThrough_52 (lv_at hl 0 rfl) ?_
    refine lv_lsub hx hb d_A_passThrough_54 ?_
    refine xr_last (i := 1) hx hb hK hw hS (110 + i) 1 ((xu_ne (by omega)).trans ((xu_ne (by omega)).trans (xu_eq))) rfl rfl (by unfold vp_in; decide) d_A_passThrough_55 (fun H locs hw hS => ?_)
    have hw : xw D vwCl B ad (xu (xu (xu (xu w (110 + i) (.inl (K 1, 4, .inr (.inl (vp_updL (σ.2.2.1 (10 + i)) 0 (((σ.2.2.1 (10 + i)) 0) - (pt σ i j 0 0))))))) (120 + i) (.inl (K 1, 24, .inr (.inl (vp_updL (σ.2.2.1 (20 + i)) (j * 4) (pt σ i j 0 0)))))) (150 + j) (.inl (K 1, 4, .inr (.inl (vp_updL (σ.2.2.1 (30 + j)) 0 (((σ.2.2.1 (30 + j)) 0) + (pt σ i j 0 0))))))) (110 + i) (.inl (K 1, 4, .inr (.inl (vp_updL (vp_updL (σ.2.2.1 (10 + i)) 0 (((σ.2.2.1 (10 + i)) 0) - (pt σ i j 0 0))) 1 (((σ.2.2.1 (10 + i)) 1) - (pt σ i j 1 1))))))) H := hw
    refine lv_aload_n hx hb d_A_passThrough_56 rfl (lv_at hl 5 rfl) ?_
    refine xr_get (ci := 1) (v := .ref (ad (120 + i))) (C := R_B) (T := T_B) (N := 9) hx hb htw in_B hown hK hw (100 + i) ((xu_ne (by omega)).trans ((xu_ne (by omega)).trans ((xu_ne (by omega)).trans ((xu_ne (by omega)).trans (rb i hi))))) rfl rfl 3 (by decide) (htw _ u_96) (fun _ h9 => h9) rfl d_A_passThrough_57 ?_
    refine lv_iload_n hx hb d_A_passThrough_60 rfl (lv_at hl 6 rfl) ?_
    refine lv_iconst (v := 4) hx hb d_A_passThrough_61 (by decide) ?_
    refine lv_imul hx hb d_A_passThrough_62 ?_
    refine lv_iload hx hb d_A_passThrough_63 (lv_at hl 1 rfl) ?_
    refine lv_iadd hx hb d_A_passThrough_65 ?_
    refine lv_lload hx hb d_A_passThrough_66 (lv_at hl 0 rfl) ?_
    refine xr_last (i := ((nI j) * 4) + 1) hx hb hK hw hS (120 + i) 1 ((xu_ne (by omega)).trans ((xu_ne (by omega)).trans (xu_eq))) rfl rfl (xvin (a := (j * 4) + 1) (xadd (a := j * 4) (b := 1) (xmul (a := j) (b := 4) rfl rfl) rfl) (by omega) (by omega)) d_A_passThrough_68 (fun H locs hw hS => ?_)
    rw [show (((nI j) * 4) + 1).toNatClampNeg = (j * 4) + 1 from xcl (a := (j * 4) + 1) (xadd (a := j * 4) (b := 1) (xmul (a := j) (b := 4) rfl rfl) rfl) (by omega)] at hw
    have hw : xw D vwCl B ad (xu (xu (xu (xu (xu w (110 + i) (.inl (K 1, 4, .inr (.inl (vp_updL (σ.2.2.1 (10 + i)) 0 (((σ.2.2.1 (10 + i)) 0) - (pt σ i j 0 0))))))) (120 + i) (.inl (K 1, 24, .inr (.inl (vp_updL (σ.2.2.1 (20 + i)) (j * 4) (pt σ i j 0 0)))))) (150 + j) (.inl (K 1, 4, .inr (.inl (vp_updL (σ.2.2.1 (30 + j)) 0 (((σ.2.2.1 (30 + j)) 0) + (pt σ i j 0 0))))))) (110 + i) (.inl (K 1, 4, .inr (.inl (vp_updL (vp_updL (σ.2.2.1 (10 + i)) 0 (((σ.2.2.1 (10 + i)) 0) - (pt σ i j 0 0))) 1 (((σ.2.2.1 (10 + i)) 1) - (pt σ i j 1 1))))))) (120 + i) (.inl (K 1, 24, .inr (.inl (vp_updL (vp_updL (σ.2.2.1 (20 + i)) (j * 4) (pt σ i j 0 0)) ((j * 4) + 1) (pt σ i j 1 1)))))) H := hw
    refine lv_aload_n hx hb d_A_passThrough_69 rfl (lv_at hl 3 rfl) ?_
    refine xr_get (ci := 2) (v := .ref (ad (150 + j))) (C := R_S) (T := T_S) (N := 4) hx hb htw in_S hown hK hw (140 + j) ((xu_ne (by omega)).trans ((xu_ne (by omega)).trans ((xu_ne (by omega)).trans ((xu_ne (by omega)).trans ((xu_ne (by omega)).trans (rs j hj0)))))) rfl rfl 3 (by decide) (htw _ u_158) (fun _ h9 => h9) rfl d_A_passThrough_70 ?_
    refine lv_iload hx hb d_A_passThrough_73 (lv_at hl 1 rfl) ?_
    refine lv_dup2_11 hx hb d_A_passThrough_75 rfl rfl ?_
    refine xr_lald (i := 1) hx hb hK hw (150 + j) 1 ((xu_ne (by omega)).trans ((xu_ne (by omega)).trans (xu_eq))) rfl rfl (by unfold vp_in; decide) d_A_passThrough_76 ?_
    refine lv_topl (fun x_10 ex_10 => ?_)
    obtain rfl : x_10 = (σ.2.2.1 (30 + j)) 1 := ex_10.trans ((congrArg (vp_updL (σ.2.2.1 (30 + j)) 0 (((σ.2.2.1 (30 + j)) 0) + (pt σ i j 0 0))) ((rfl : (1 : Int32).toNatClampNeg = 1))).trans ((pk_uLn (show (1 : Nat) ≠ 0 by decide)).trans rfl))
    refine lv_lload hx hb d_A_passThrough_77 (lv_at hl 0 rfl) ?_
    refine lv_ladd hx hb d_A_passThrough_79 ?_
    refine xr_last (i := 1) hx hb hK hw hS (150 + j) 1 ((xu_ne (by omega)).trans ((xu_ne (by omega)).trans (xu_eq))) rfl rfl (by unfold vp_in; decide) d_A_passThrough_80 (fun H locs hw hS => ?_)
    have hw : xw D vwCl B ad (xu (xu (xu (xu (xu (xu w (110 + i) (.inl (K 1, 4, .inr (.inl (vp_updL (σ.2.2.1 (10 + i)) 0 (((σ.2.2.1 (10 + i)) 0) - (pt σ i j 0 0))))))) (120 + i) (.inl (K 1, 24, .inr (.inl (vp_updL (σ.2.2.1 (20 + i)) (j * 4) (pt σ i j 0 0)))))) (150 + j) (.inl (K 1, 4, .inr (.inl (vp_updL (σ.2.2.1 (30 + j)) 0 (((σ.2.2.1 (30 + j)) 0) + (pt σ i j 0 0))))))) (110 + i) (.inl (K 1, 4, .inr (.inl (vp_updL (vp_updL (σ.2.2.1 (10 + i)) 0 (((σ.2.2.1 (10 + i)) 0) - (pt σ i j 0 0))) 1 (((σ.2.2.1 (10 + i)) 1) - (pt σ i j 1 1))))))) (120 + i) (.inl (K 1, 24, .inr (.inl (vp_updL (vp_updL (σ.2.2.1 (20 + i)) (j * 4) (pt σ i j 0 0)) ((j * 4) + 1) (pt σ i j 1 1)))))) (150 + j) (.inl (K 1, 4, .inr (.inl (vp_updL (vp_updL (σ.2.2.1 (30 + j)) 0 (((σ.2.2.1 (30 + j)) 0) + (pt σ i j 0 0))) 1 (((σ.2.2.1 (30 + j)) 1) + (pt σ i j 1 1))))))) H := hw
    refine lv_lload hx hb d_A_passThrough_81 (lv_at hl 2 rfl) ?_
    refine lv_lload hx hb d_A_passThrough_83 (lv_at hl 0 rfl) ?_
    refine lv_ladd hx hb d_A_passThrough_85 ?_
    refine lv_lstore (lv' := [(4, .long ((0 + (pt σ i j 0 0)) + (pt σ i j 1 1))), (7, .long (pt σ i j 1 1)), (6, .int 1), (3, .ref (ad (140 + j))), (0, .ref (ad 0)), (1, .ref (ad (100 + i))), (2, .int (nI j))]) hx hb d_A_passThrough_86 hl (by decide) rfl (fun ls hl => ?_)
    refine lv_iinc (v := 2) (lv' := [(6, .int 2), (4, .long ((0 + (pt σ i j 0 0)) + (pt σ i j 1 1))), (7, .long (pt σ i j 1 1)), (3, .ref (ad (140 + j))), (0, .ref (ad 0)), (1, .ref (ad (100 + i))), (2, .int (nI j))]) hx hb d_A_passThrough_88 hl (k := 2) rfl (by decide) (by decide) rfl (fun ls hl => ?_)
    refine lv_goto (tgt := 17) hx hb d_A_passThrough_91 (by decide) ?_
    refine lv_iload hx hb d_A_passThrough_17 (lv_at hl 0 rfl) ?_
    refine lv_iconst (v := 4) hx hb d_A_passThrough_19 (by decide) ?_
    refine lv_icmp_ge (tgt := 94) hx hb d_A_passThrough_20 (by decide) (fun c_11 => absurd c_11 (by decide)) (fun c_11 => ?_)
    refine lv_aload_n hx hb d_A_passThrough_23 rfl (lv_at hl 5 rfl) ?_
    refine xr_get (ci := 1) (v := .ref (ad (110 + i))) (C := R_B) (T := T_B) (N := 9) hx hb htw in_B hown hK hw (100 + i) ((xu_ne (by omega)).trans ((xu_ne (by omega)).trans ((xu_ne (by omega)).trans ((xu_ne (by omega)).trans ((xu_ne (by omega)).trans ((xu_ne (by omega)).trans (rb i hi))))))) rfl rfl 2 (by decide) (htw _ u_94) (fun _ h9 => h9) rfl d_A_passThrough_24 ?_
    refine lv_iload hx hb d_A_passThrough_27 (lv_at hl 0 rfl) ?_
    refine xr_lald (i := 2) hx hb hK hw (110 + i) 1 ((xu_ne (by omega)).trans ((xu_ne (by omega)).trans (xu_eq))) rfl rfl (by unfold vp_in; decide) d_A_passThrough_29 ?_
    refine lv_topl (fun x_12 ex_12 => ?_)
    obtain rfl : x_12 = (σ.2.2.1 (10 + i)) 2 := ex_12.trans ((congrArg (vp_updL (vp_updL (σ.2.2.1 (10 + i)) 0 (((σ.2.2.1 (10 + i)) 0) - (pt σ i j 0 0))) 1 (((σ.2.2.1 (10 + i)) 1) - (pt σ i j 1 1))) ((rfl : (2 : Int32).toNatClampNeg = 2))).trans ((pk_uLn (show (2 : Nat) ≠ 1 by decide)).trans ((pk_uLn (show (2 : Nat) ≠ 0 by decide)).trans rfl)))
    refine lv_aload_n hx hb d_A_passThrough_30 rfl (lv_at hl 3 rfl) ?_
    refine lv_iload hx hb d_A_passThrough_31 (lv_at hl 0 rfl) ?_
    refine xr_call (va_runV (As := [.int 2]) (rest := [.long ((σ.2.2.1 (10 + i)) 2)]) ⟨hx, hb, hml, hown, htw⟩ (c_S_thousandthsOf (ad := ad) (σ := σ) hw (140 + j) j (.ref (ad (150 + j))) ((xu_ne (by omega)).trans ((xu_ne (by omega)).trans ((xu_ne (by omega)).trans ((xu_ne (by omega)).trans ((xu_ne (by omega)).trans ((xu_ne (by omega)).trans (rs j hj0))))))) (ad (140 + j)) rfl 2) (cwV 1 htw (gV u_180 u_181 u_182 u_6 u_183) rfl rfl rfl hd_S_thousandthsOf ⟨Nat.le_of_ble_eq_true rfl, Nat.le_of_ble_eq_true rfl⟩) ⟨xP_blind, hw.recv hK (ci := 2) (t := 140 + j) rfl ((xu_ne (by omega)).trans ((xu_ne (by omega)).trans ((xu_ne (by omega)).trans ((xu_ne (by omega)).trans ((xu_ne (by omega)).trans ((xu_ne (by omega)).trans (rs j hj0))))))) rfl, xP_of hK hN⟩ rfl rfl hl.1 rfl (lv_room (Nat.le_of_ble_eq_true rfl)) d_A_passThrough_33 ⟨by decide, by decide⟩) hS (fun v H_ locs hp hS => ?_)
    obtain ⟨rfl, hHe⟩ := hp
    rw [hHe] at hS ⊢
    refine W.eq (g2 := F0 m 36 ls [.int (thou σ j 2), .long ((σ.2.2.1 (10 + i)) 2)]) rfl ?_
    refine lv_i2l hx hb d_A_passThrough_36 rfl ?_
    refine lv_lmul hx hb d_A_passThrough_37 ?_
    refine lv_ldc2 (v := 1000) hx hb hown (htw _ u_148) d_A_passThrough_38 ?_
    refine lv_ldiv hx hb d_A_passThrough_41 (by decide) ?_
    refine lv_topl (fun x_13 ex_13 => ?_)
    obtain rfl : x_13 = pt σ i j 2 2 := ex_13
    refine lv_lstore (lv' := [(7, .long (pt σ i j 2 2)), (6, .int 2), (4, .long ((0 + (pt σ i j 0 0)) + (pt σ i j 1 1))), (3, .ref (ad (140 + j))), (0, .ref (ad 0)), (1, .ref (ad (100 + i))), (2, .int (nI j))]) hx hb d_A_passThrough_42 hl (by decide) rfl (fun ls hl => ?_)
    refine lv_aload_n hx hb d_A_passThrough_44 rfl (lv_at hl 5 rfl) ?_
    refine xr_get (ci := 1) (v := .ref (ad (110 + i))) (C := R_B) (T := T_B) (N := 9) hx hb htw in_B hown hK hw (100 + i) ((xu_ne (by omega)).trans ((xu_ne (by omega)).trans ((xu_ne (by omega)).trans ((xu_ne (by omega)).trans ((xu_ne (by omega)).trans ((xu_ne (by omega)).trans (rb i hi))))))) rfl rfl 2 (by decide) (htw _ u_94) (fun _ h9 => h9) rfl d_A_passThrough_45 ?_
    refine lv_iload hx hb d_A_passThrough_48 (lv_at hl 1 rfl) ?_
    refine lv_dup2_11 hx hb d_A_passThrough_50 rfl rfl ?_
    refine xr_lald (i := 2) hx hb hK hw (110 + i) 1 ((xu_ne (by omega)).trans ((xu_ne (by omega)).trans (xu_eq))) rfl rfl (by unfold vp_in; decide) d_A_passThrough_51 ?_
    refine lv_topl (fun x_14 ex_14 => ?_)
    obtain rfl : x_14 = (σ.2.2.1 (10 + i)) 2 := ex_14.trans ((congrArg (vp_updL (vp_updL (σ.2.2.1 (10 + i)) 0 (((σ.2.2.1 (10 + i)) 0) - (pt σ i j 0 0))) 1 (((σ.2.2.1 (10 + i)) 1) - (pt σ i j 1 1))) ((rfl : (2 : Int32).toNatClampNeg = 2))).trans ((pk_uLn (show (2 : Nat) ≠ 1 by decide)).trans ((pk_uLn (show (2 : Nat) ≠ 0 by decide)).trans rfl)))
    refine lv_lload hx hb d_A_passThrough_52 (lv_at hl 0 rfl) ?_
    refine lv_lsub hx hb d_A_passThrough_54 ?_
    refine xr_last (i := 2) hx hb hK hw hS (110 + i) 1 ((xu_ne (by omega)).trans ((xu_ne (by omega)).trans (xu_eq))) rfl rfl (by unfold vp_in; decide) d_A_passThrough_55 (fun H locs hw hS => ?_)
    have hw : xw D vwCl B ad (xu (xu (xu (xu (xu (xu (xu w (110 + i) (.inl (K 1, 4, .inr (.inl (vp_updL (σ.2.2.1 (10 + i)) 0 (((σ.2.2.1 (10 + i)) 0) - (pt σ i j 0 0))))))) (120 + i) (.inl (K 1, 24, .inr (.inl (vp_updL (σ.2.2.1 (20 + i)) (j * 4) (pt σ i j 0 0)))))) (150 + j) (.inl (K 1, 4, .inr (.inl (vp_updL (σ.2.2.1 (30 + j)) 0 (((σ.2.2.1 (30 + j)) 0) + (pt σ i j 0 0))))))) (110 + i) (.inl (K 1, 4, .inr (.inl (vp_updL (vp_updL (σ.2.2.1 (10 + i)) 0 (((σ.2.2.1 (10 + i)) 0) - (pt σ i j 0 0))) 1 (((σ.2.2.1 (10 + i)) 1) - (pt σ i j 1 1))))))) (120 + i) (.inl (K 1, 24, .inr (.inl (vp_updL (vp_updL (σ.2.2.1 (20 + i)) (j * 4) (pt σ i j 0 0)) ((j * 4) + 1) (pt σ i j 1 1)))))) (150 + j) (.inl (K 1, 4, .inr (.inl (vp_updL (vp_updL (σ.2.2.1 (30 + j)) 0 (((σ.2.2.1 (30 + j)) 0) + (pt σ i j 0 0))) 1 (((σ.2.2.1 (30 + j)) 1) + (pt σ i j 1 1))))))) (110 + i) (.inl (K 1, 4, .inr (.inl (vp_updL (vp_updL (vp_updL (σ.2.2.1 (10 + i)) 0 (((σ.2.2.1 (10 + i)) 0) - (pt σ i j 0 0))) 1 (((σ.2.2.1 (10 + i)) 1) - (pt σ i j 1 1))) 2 (((σ.2.2.1 (10 + i)) 2) - (pt σ i j 2 2))))))) H := hw
    refine lv_aload_n hx hb d_A_passThrough_56 rfl (lv_at hl 5 rfl) ?_
    refine xr_get (ci := 1) (v := .ref (ad (120 + i))) (C := R_B) (T := T_B) (N := 9) hx hb htw in_B hown hK hw (100 + i) ((xu_ne (by omega)).trans ((xu_ne (by omega)).trans ((xu_ne (by omega)).trans ((xu_ne (by omega)).trans ((xu_ne (by omega)).trans ((xu_ne (by omega)).trans ((xu_ne (by omega)).trans (rb i hi)))))))) rfl rfl 3 (by decide) (htw _ u_96) (fun _ h9 => h9) rfl d_A_passThrough_57 ?_
    refine lv_iload_n hx hb d_A_passThrough_60 rfl (lv_at hl 6 rfl) ?_
    refine lv_iconst (v := 4) hx hb d_A_passThrough_61 (by decide) ?_
    refine lv_imul hx hb d_A_passThrough_62 ?_
    refine lv_iload hx hb d_A_passThrough_63 (lv_at hl 1 rfl) ?_
    refine lv_iadd hx hb d_A_passThrough_65 ?_
    refine lv_lload hx hb d_A_passThrough_66 (lv_at hl 0 rfl) ?_
    refine xr_last (i := ((nI j) * 4) + 2) hx hb hK hw hS (120 + i) 1 ((xu_ne (by omega)).trans ((xu_ne (by omega)).trans (xu_eq))) rfl rfl (xvin (a := (j * 4) + 2) (xadd (a := j * 4) (b := 2) (xmul (a := j) (b := 4) rfl rfl) rfl) (by omega) (by omega)) d_A_passThrough_68 (fun H locs hw hS => ?_)
    rw [show (((nI j) * 4) + 2).toNatClampNeg = (j * 4) + 2 from xcl (a := (j * 4) + 2) (xadd (a := j * 4) (b := 2) (xmul (a := j) (b := 4) rfl rfl) rfl) (by omega)] at hw
    have hw : xw D vwCl B ad (xu (xu (xu (xu (xu (xu (xu (xu w (110 + i) (.inl (K 1, 4, .inr (.inl (vp_updL (σ.2.2.1 (10 + i)) 0 (((σ.2.2.1 (10 + i)) 0) - (pt σ i j 0 0))))))) (120 + i) (.inl (K 1, 24, .inr (.inl (vp_updL (σ.2.2.1 (20 + i)) (j * 4) (pt σ i j 0 0)))))) (150 + j) (.inl (K 1, 4, .inr (.inl (vp_updL (σ.2.2.1 (30 + j)) 0 (((σ.2.2.1 (30 + j)) 0) + (pt σ i j 0 0))))))) (110 + i) (.inl (K 1, 4, .inr (.inl (vp_updL (vp_updL (σ.2.2.1 (10 + i)) 0 (((σ.2.2.1 (10 + i)) 0) - (pt σ i j 0 0))) 1 (((σ.2.2.1 (10 + i)) 1) - (pt σ i j 1 1))))))) (120 + i) (.inl (K 1, 24, .inr (.inl (vp_updL (vp_updL (σ.2.2.1 (20 + i)) (j * 4) (pt σ i j 0 0)) ((j * 4) + 1) (pt σ i j 1 1)))))) (150 + j) (.inl (K 1, 4, .inr (.inl (vp_updL (vp_updL (σ.2.2.1 (30 + j)) 0 (((σ.2.2.1 (30 + j)) 0) + (pt σ i j 0 0))) 1 (((σ.2.2.1 (30 + j)) 1) + (pt σ i j 1 1))))))) (110 + i) (.inl (K 1, 4, .inr (.inl (vp_updL (vp_updL (vp_updL (σ.2.2.1 (10 + i)) 0 (((σ.2.2.1 (10 + i)) 0) - (pt σ i j 0 0))) 1 (((σ.2.2.1 (10 + i)) 1) - (pt σ i j 1 1))) 2 (((σ.2.2.1 (10 + i)) 2) - (pt σ i j 2 2))))))) (120 + i) (.inl (K 1, 24, .inr (.inl (vp_updL (vp_updL (vp_updL (σ.2.2.1 (20 + i)) (j * 4) (pt σ i j 0 0)) ((j * 4) + 1) (pt σ i j 1 1)) ((j * 4) + 2) (pt σ i j 2 2)))))) H := hw
    refine lv_aload_n hx hb d_A_passThrough_69 rfl (lv_at hl 3 rfl) ?_
    refine xr_get (ci := 2) (v := .ref (ad (150 + j))) (C := R_S) (T := T_S) (N := 4) hx hb htw in_S hown hK hw (140 + j) ((xu_ne (by omega)).trans ((xu_ne (by omega)).trans ((xu_ne (by omega)).trans ((xu_ne (by omega)).trans ((xu_ne (by omega)).trans ((xu_ne (by omega)).trans ((xu_ne (by omega)).trans ((xu_ne (by omega)).trans (rs j hj0))))))))) rfl rfl 3 (by decide) (htw _ u_158) (fun _ h9 => h9) rfl d_A_passThrough_70 ?_
    refine lv_iload hx hb d_A_passThrough_73 (lv_at hl 1 rfl) ?_
    refine lv_dup2_11 hx hb d_A_passThrough_75 rfl rfl ?_
    refine xr_lald (i := 2) hx hb hK hw (150 + j) 1 ((xu_ne (by omega)).trans ((xu_ne (by omega)).trans (xu_eq))) rfl rfl (by unfold vp_in; decide) d_A_passThrough_76 ?_
    refine lv_topl (fun x_15 ex_15 => ?_)
    obtain rfl : x_15 = (σ.2.2.1 (30 + j)) 2 := ex_15.trans ((congrArg (vp_updL (vp_updL (σ.2.2.1 (30 + j)) 0 (((σ.2.2.1 (30 + j)) 0) + (pt σ i j 0 0))) 1 (((σ.2.2.1 (30 + j)) 1) + (pt σ i j 1 1))) ((rfl : (2 : Int32).toNatClampNeg = 2))).trans ((pk_uLn (show (2 : Nat) ≠ 1 by decide)).trans ((pk_uLn (show (2 : Nat) ≠ 0 by decide)).trans rfl)))
    refine lv_lload hx hb d_A_passThrough_77 (lv_at hl 0 rfl) ?_
    refine lv_ladd hx hb d_A_passThrough_79 ?_
    refine xr_last (i := 2) hx hb hK hw hS (150 + j) 1 ((xu_ne (by omega)).trans ((xu_ne (by omega)).trans (xu_eq))) rfl rfl (by unfold vp_in; decide) d_A_passThrough_80 (fun H locs hw hS => ?_)
    have hw : xw D vwCl B ad (xu (xu (xu (xu (xu (xu (xu (xu (xu w (110 + i) (.inl (K 1, 4, .inr (.inl (vp_updL (σ.2.2.1 (10 + i)) 0 (((σ.2.2.1 (10 + i)) 0) - (pt σ i j 0 0))))))) (120 + i) (.inl (K 1, 24, .inr (.inl (vp_updL (σ.2.2.1 (20 + i)) (j * 4) (pt σ i j 0 0)))))) (150 + j) (.inl (K 1, 4, .inr (.inl (vp_updL (σ.2.2.1 (30 + j)) 0 (((σ.2.2.1 (30 + j)) 0) + (pt σ i j 0 0))))))) (110 + i) (.inl (K 1, 4, .inr (.inl (vp_updL (vp_updL (σ.2.2.1 (10 + i)) 0 (((σ.2.2.1 (10 + i)) 0) - (pt σ i j 0 0))) 1 (((σ.2.2.1 (10 + i)) 1) - (pt σ i j 1 1))))))) (120 + i) (.inl (K 1, 24, .inr (.inl (vp_updL (vp_updL (σ.2.2.1 (20 + i)) (j * 4) (pt σ i j 0 0)) ((j * 4) + 1) (pt σ i j 1 1)))))) (150 + j) (.inl (K 1, 4, .inr (.inl (vp_updL (vp_updL (σ.2.2.1 (30 + j)) 0 (((σ.2.2.1 (30 + j)) 0) + (pt σ i j 0 0))) 1 (((σ.2.2.1 (30 + j)) 1) + (pt σ i j 1 1))))))) (110 + i) (.inl (K 1, 4, .inr (.inl (vp_updL (vp_updL (vp_updL (σ.2.2.1 (10 + i)) 0 (((σ.2.2.1 (10 + i)) 0) - (pt σ i j 0 0))) 1 (((σ.2.2.1 (10 + i)) 1) - (pt σ i j 1 1))) 2 (((σ.2.2.1 (10 + i)) 2) - (pt σ i j 2 2))))))) (120 + i) (.inl (K 1, 24, .inr (.inl (vp_updL (vp_updL (vp_updL (σ.2.2.1 (20 + i)) (j * 4) (pt σ i j 0 0)) ((j * 4) + 1) (pt σ i j 1 1)) ((j * 4) + 2) (pt σ i j 2 2)))))) (150 + j) (.inl (K 1, 4, .inr (.inl (vp_updL (vp_updL (vp_updL (σ.2.2.1 (30 + j)) 0 (((σ.2.2.1 (30 + j)) 0) + (pt σ i j 0 0))) 1 (((σ.2.2.1 (30 + j)) 1) + (pt σ i j 1 1))) 2 (((σ.2.2.1 (30 + j)) 2) + (pt σ i j 2 2))))))) H := hw
    refine lv_lload hx hb d_A_passThrough_81 (lv_at hl 2 rfl) ?_
    refine lv_lload hx hb d_A_passThrough_83 (lv_at hl 0 rfl) ?_
    refine lv_ladd hx hb d_A_passThrough_85 ?_
    refine lv_lstore (lv' := [(4, .long (((0 + (pt σ i j 0 0)) + (pt σ i j 1 1)) + (pt σ i j 2 2))), (7, .long (pt σ i j 2 2)), (6, .int 2), (3, .ref (ad (140 + j))), (0, .ref (ad 0)), (1, .ref (ad (100 + i))), (2, .int (nI j))]) hx hb d_A_passThrough_86 hl (by decide) rfl (fun ls hl => ?_)
    refine lv_iinc (v := 3) (lv' := [(6, .int 3), (4, .long (((0 + (pt σ i j 0 0)) + (pt σ i j 1 1)) + (pt σ i j 2 2))), (7, .long (pt σ i j 2 2)), (3, .ref (ad (140 + j))), (0, .ref (ad 0)), (1, .ref (ad (100 + i))), (2, .int (nI j))]) hx hb d_A_passThrough_88 hl (k := 2) rfl (by decide) (by decide) rfl (fun ls hl => ?_)
    refine lv_goto (tgt := 17) hx hb d_A_passThrough_91 (by decide) ?_
    refine lv_iload hx hb d_A_passThrough_17 (lv_at hl 0 rfl) ?_
    refine lv_iconst (v := 4) hx hb d_A_passThrough_19 (by decide) ?_
    refine lv_icmp_ge (tgt := 94) hx hb d_A_passThrough_20 (by decide) (fun c_16 => absurd c_16 (by decide)) (fun c_16 => ?_)
    refine lv_aload_n hx hb d_A_passThrough_23 rfl (lv_at hl 5 rfl) ?_
    refine xr_get (ci := 1) (v := .ref (ad (110 + i))) (C := R_B) (T := T_B) (N := 9) hx hb htw in_B hown hK hw (100 + i) ((xu_ne (by omega)).trans ((xu_ne (by omega)).trans ((xu_ne (by omega)).trans ((xu_ne (by omega)).trans ((xu_ne (by omega)).trans ((xu_ne (by omega)).trans ((xu_ne (by omega)).trans ((xu_ne (by omega)).trans ((xu_ne (by omega)).trans (rb i hi)))))))))) rfl rfl 2 (by decide) (htw _ u_94) (fun _ h9 => h9) rfl d_A_passThrough_24 ?_
    refine lv_iload hx hb d_A_passThrough_27 (lv_at hl 0 rfl) ?_
    refine xr_lald (i := 3) hx hb hK hw (110 + i) 1 ((xu_ne (by omega)).trans ((xu_ne (by omega)).trans (xu_eq))) rfl rfl (by unfold vp_in; decide) d_A_passThrough_29 ?_
    refine lv_topl (fun x_17 ex_17 => ?_)
    obtain rfl : x_17 = (σ.2.2.1 (10 + i)) 3 := ex_17.trans ((congrArg (vp_updL (vp_updL (vp_updL (σ.2.2.1 (10 + i)) 0 (((σ.2.2.1 (10 + i)) 0) - (pt σ i j 0 0))) 1 (((σ.2.2.1 (10 + i)) 1) - (pt σ i j 1 1))) 2 (((σ.2.2.1 (10 + i)) 2) - (pt σ i j 2 2))) ((rfl : (3 : Int32).toNatClampNeg = 3))).trans ((pk_uLn (show (3 : Nat) ≠ 2 by decide)).trans ((pk_uLn (show (3 : Nat) ≠ 1 by decide)).trans ((pk_uLn (show (3 : Nat) ≠ 0 by decide)).trans rfl))))
    refine lv_aload_n hx hb d_A_passThrough_30 rfl (lv_at hl 3 rfl) ?_
    refine lv_iload hx hb d_A_passThrough_31 (lv_at hl 0 rfl) ?_
    refine xr_call (va_runV (As := [.int 3]) (rest := [.long ((σ.2.2.1 (10 + i)) 3)]) ⟨hx, hb, hml, hown, htw⟩ (c_S_thousandthsOf (ad := ad) (σ := σ) hw (140 + j) j (.ref (ad (150 + j))) ((xu_ne (by omega)).trans ((xu_ne (by omega)).trans ((xu_ne (by omega)).trans ((xu_ne (by omega)).trans ((xu_ne (by omega)).trans ((xu_ne (by omega)).trans ((xu_ne (by omega)).trans ((xu_ne (by omega)).trans ((xu_ne (by omega)).trans (rs j hj0)))))))))) (ad (140 + j)) rfl 3) (cwV 1 htw (gV u_180 u_181 u_182 u_6 u_183) rfl rfl rfl hd_S_thousandthsOf ⟨Nat.le_of_ble_eq_true rfl, Nat.le_of_ble_eq_true rfl⟩) ⟨xP_blind, hw.recv hK (ci := 2) (t := 140 + j) rfl ((xu_ne (by omega)).trans ((xu_ne (by omega)).trans ((xu_ne (by omega)).trans ((xu_ne (by omega)).trans ((xu_ne (by omega)).trans ((xu_ne (by omega)).trans ((xu_ne (by omega)).trans ((xu_ne (by omega)).trans ((xu_ne (by omega)).trans (rs j hj0)))))))))) rfl, xP_of hK hN⟩ rfl rfl hl.1 rfl (lv_room (Nat.le_of_ble_eq_true rfl)) d_A_passThrough_33 ⟨by decide, by decide⟩) hS (fun v H_ locs hp hS => ?_)
    obtain ⟨rfl, hHe⟩ := hp
    rw [hHe] at hS ⊢
    refine W.eq (g2 := F0 m 36 ls [.int (thou σ j 3), .long ((σ.2.2.1 (10 + i)) 3)]) rfl ?_
    refine lv_i2l hx hb d_A_passThrough_36 rfl ?_
    refine lv_lmul hx hb d_A_passThrough_37 ?_
    refine lv_ldc2 (v := 1000) hx hb hown (htw _ u_148) d_A_passThrough_38 ?_
    refine lv_ldiv hx hb d_A_passThrough_41 (by decide) ?_
    refine lv_topl (fun x_18 ex_18 => ?_)
    obtain rfl : x_18 = pt σ i j 3 3 := ex_18
    refine lv_lstore (lv' := [(7, .long (pt σ i j 3 3)), (6, .int 3), (4, .long (((0 + (pt σ i j 0 0)) + (pt σ i j 1 1)) + (pt σ i j 2 2))), (3, .ref (ad (140 + j))), (0, .ref (ad 0)), (1, .ref (ad (100 + i))), (2, .int (nI j))]) hx hb d_A_passThrough_42 hl (by decide) rfl (fun ls hl => ?_)
    refine lv_aload_n hx hb d_A_passThrough_44 rfl (lv_at hl 5 rfl) ?_
    refine xr_get (ci := 1) (v := .ref (ad (110 + i))) (C := R_B) (T := T_B) (N := 9) hx hb htw in_B hown hK hw (100 + i) ((xu_ne (by omega)).trans ((xu_ne (by omega)).trans ((xu_ne (by omega)).trans ((xu_ne (by omega)).trans ((xu_ne (by omega)).trans ((xu_ne (by omega)).trans ((xu_ne (by omega)).trans ((xu_ne (by omega)).trans ((xu_ne (by omega)).trans (rb i hi)))))))))) rfl rfl 2 (by decide) (htw _ u_94) (fun _ h9 => h9) rfl d_A_passThrough_45 ?_
    refine lv_iload hx hb d_A_passThrough_48 (lv_at hl 1 rfl) ?_
    refine lv_dup2_11 hx hb d_A_passThrough_50 rfl rfl ?_
    refine xr_lald (i := 3) hx hb hK hw (110 + i) 1 ((xu_ne (by omega)).trans ((xu_ne (by omega)).trans (xu_eq))) rfl rfl (by unfold vp_in; decide) d_A_passThrough_51 ?_
    refine lv_topl (fun x_19 ex_19 => ?_)
    obtain rfl : x_19 = (σ.2.2.1 (10 + i)) 3 := ex_19.trans ((congrArg (vp_updL (vp_updL (vp_updL (σ.2.2.1 (10 + i)) 0 (((σ.2.2.1 (10 + i)) 0) - (pt σ i j 0 0))) 1 (((σ.2.2.1 (10 + i)) 1) - (pt σ i j 1 1))) 2 (((σ.2.2.1 (10 + i)) 2) - (pt σ i j 2 2))) ((rfl : (3 : Int32).toNatClampNeg = 3))).trans ((pk_uLn (show (3 : Nat) ≠ 2 by decide)).trans ((pk_uLn (show (3 : Nat) ≠ 1 by decide)).trans ((pk_uLn (show (3 : Nat) ≠ 0 by decide)).trans rfl))))
    refine lv_lload hx hb d_A_passThrough_52 (lv_at hl 0 rfl) ?_
    refine lv_lsub hx hb d_A_passThrough_54 ?_
    refine xr_last (i := 3) hx hb hK hw hS (110 + i) 1 ((xu_ne (by omega)).trans ((xu_ne (by omega)).trans (xu_eq))) rfl rfl (by unfold vp_in; decide) d_A_passThrough_55 (fun H locs hw hS => ?_)
    have hw : xw D vwCl B ad (xu (xu (xu (xu (xu (xu (xu (xu (xu (xu w (110 + i) (.inl (K 1, 4, .inr (.inl (vp_updL (σ.2.2.1 (10 + i)) 0 (((σ.2.2.1 (10 + i)) 0) - (pt σ i j 0 0))))))) (120 + i) (.inl (K 1, 24, .inr (.inl (vp_updL (σ.2.2.1 (20 + i)) (j * 4) (pt σ i j 0 0)))))) (150 + j) (.inl (K 1, 4, .inr (.inl (vp_updL (σ.2.2.1 (30 + j)) 0 (((σ.2.2.1 (30 + j)) 0) + (pt σ i j 0 0))))))) (110 + i) (.inl (K 1, 4, .inr (.inl (vp_updL (vp_updL (σ.2.2.1 (10 + i)) 0 (((σ.2.2.1 (10 + i)) 0) - (pt σ i j 0 0))) 1 (((σ.2.2.1 (10 + i)) 1) - (pt σ i j 1 1))))))) (120 + i) (.inl (K 1, 24, .inr (.inl (vp_updL (vp_updL (σ.2.2.1 (20 + i)) (j * 4) (pt σ i j 0 0)) ((j * 4) + 1) (pt σ i j 1 1)))))) (150 + j) (.inl (K 1, 4, .inr (.inl (vp_updL (vp_updL (σ.2.2.1 (30 + j)) 0 (((σ.2.2.1 (30 + j)) 0) + (pt σ i j 0 0))) 1 (((σ.2.2.1 (30 + j)) 1) + (pt σ i j 1 1))))))) (110 + i) (.inl (K 1, 4, .inr (.inl (vp_updL (vp_updL (vp_updL (σ.2.2.1 (10 + i)) 0 (((σ.2.2.1 (10 + i)) 0) - (pt σ i j 0 0))) 1 (((σ.2.2.1 (10 + i)) 1) - (pt σ i j 1 1))) 2 (((σ.2.2.1 (10 + i)) 2) - (pt σ i j 2 2))))))) (120 + i) (.inl (K 1, 24, .inr (.inl (vp_updL (vp_updL (vp_updL (σ.2.2.1 (20 + i)) (j * 4) (pt σ i j 0 0)) ((j * 4) + 1) (pt σ i j 1 1)) ((j * 4) + 2) (pt σ i j 2 2)))))) (150 + j) (.inl (K 1, 4, .inr (.inl (vp_updL (vp_updL (vp_updL (σ.2.2.1 (30 + j)) 0 (((σ.2.2.1 (30 + j)) 0) + (pt σ i j 0 0))) 1 (((σ.2.2.1 (30 + j)) 1) + (pt σ i j 1 1))) 2 (((σ.2.2.1 (30 + j)) 2) + (pt σ i j 2 2))))))) (110 + i) (.inl (K 1, 4, .inr (.inl (vp_updL (vp_updL (vp_updL (vp_updL (σ.2.2.1 (10 + i)) 0 (((σ.2.2.1 (10 + i)) 0) - (pt σ i j 0 0))) 1 (((σ.2.2.1 (10 + i)) 1) - (pt σ i j 1 1))) 2 (((σ.2.2.1 (10 + i)) 2) - (pt σ i j 2 2))) 3 (((σ.2.2.1 (10 + i)) 3) - (pt σ i j 3 3))))))) H := hw
    refine lv_aload_n hx hb d_A_passThrough_56 rfl (lv_at hl 5 rfl) ?_
    refine xr_get (ci := 1) (v := .ref (ad (120 + i))) (C := R_B) (T := T_B) (N := 9) hx hb htw in_B hown hK hw (100 + i) ((xu_ne (by omega)).trans ((xu_ne (by omega)).trans ((xu_ne (by omega)).trans ((xu_ne (by omega)).trans ((xu_ne (by omega)).trans ((xu_ne (by omega)).trans ((xu_ne (by omega)).trans ((xu_ne (by omega)).trans ((xu_ne (by omega)).trans ((xu_ne (by omega)).trans (rb i hi))))))))))) rfl rfl 3 (by decide) (htw _ u_96) (fun _ h9 => h9) rfl d_A_passThrough_57 ?_
    refine lv_iload_n hx hb d_A_passThrough_60 rfl (lv_at hl 6 rfl) ?_
    refine lv_iconst (v := 4) hx hb d_A_passThrough_61 (by decide) ?_
    refine lv_imul hx hb d_A_passThrough_62 ?_
    refine lv_iload hx hb d_A_passThrough_63 (lv_at hl 1 rfl) ?_
    refine lv_iadd hx hb d_A_passThrough_65 ?_
    refine lv_lload hx hb d_A_passThrough_66 (lv_at hl 0 rfl) ?_
    refine xr_last (i := ((nI j) * 4) + 3) hx hb hK hw hS (120 + i) 1 ((xu_ne (by omega)).trans ((xu_ne (by omega)).trans (xu_eq))) rfl rfl (xvin (a := (j * 4) + 3) (xadd (a := j * 4) (b := 3) (xmul (a := j) (b := 4) rfl rfl) rfl) (by omega) (by omega)) d_A_passThrough_68 (fun H locs hw hS => ?_)
    rw [show (((nI j) * 4) + 3).toNatClampNeg = (j * 4) + 3 from xcl (a := (j * 4) + 3) (xadd (a := j * 4) (b := 3) (xmul (a := j) (b := 4) rfl rfl) rfl) (by omega)] at hw
    have hw : xw D vwCl B ad (xu (xu (xu (xu (xu (xu (xu (xu (xu (xu (xu w (110 + i) (.inl (K 1, 4, .inr (.inl (vp_updL (σ.2.2.1 (10 + i)) 0 (((σ.2.2.1 (10 + i)) 0) - (pt σ i j 0 0))))))) (120 + i) (.inl (K 1, 24, .inr (.inl (vp_updL (σ.2.2.1 (20 + i)) (j * 4) (pt σ i j 0 0)))))) (150 + j) (.inl (K 1, 4, .inr (.inl (vp_updL (σ.2.2.1 (30 + j)) 0 (((σ.2.2.1 (30 + j)) 0) + (pt σ i j 0 0))))))) (110 + i) (.inl (K 1, 4, .inr (.inl (vp_updL (vp_updL (σ.2.2.1 (10 + i)) 0 (((σ.2.2.1 (10 + i)) 0) - (pt σ i j 0 0))) 1 (((σ.2.2.1 (10 + i)) 1) - (pt σ i j 1 1))))))) (120 + i) (.inl (K 1, 24, .inr (.inl (vp_updL (vp_updL (σ.2.2.1 (20 + i)) (j * 4) (pt σ i j 0 0)) ((j * 4) + 1) (pt σ i j 1 1)))))) (150 + j) (.inl (K 1, 4, .inr (.inl (vp_updL (vp_updL (σ.2.2.1 (30 + j)) 0 (((σ.2.2.1 (30 + j)) 0) + (pt σ i j 0 0))) 1 (((σ.2.2.1 (30 + j)) 1) + (pt σ i j 1 1))))))) (110 + i) (.inl (K 1, 4, .inr (.inl (vp_updL (vp_updL (vp_updL (σ.2.2.1 (10 + i)) 0 (((σ.2.2.1 (10 + i)) 0) - (pt σ i j 0 0))) 1 (((σ.2.2.1 (10 + i)) 1) - (pt σ i j 1 1))) 2 (((σ.2.2.1 (10 + i)) 2) - (pt σ i j 2 2))))))) (120 + i) (.inl (K 1, 24, .inr (.inl (vp_updL (vp_updL (vp_updL (σ.2.2.1 (20 + i)) (j * 4) (pt σ i j 0 0)) ((j * 4) + 1) (pt σ i j 1 1)) ((j * 4) + 2) (pt σ i j 2 2)))))) (150 + j) (.inl (K 1, 4, .inr (.inl (vp_updL (vp_updL (vp_updL (σ.2.2.1 (30 + j)) 0 (((σ.2.2.1 (30 + j)) 0) + (pt σ i j 0 0))) 1 (((σ.2.2.1 (30 + j)) 1) + (pt σ i j 1 1))) 2 (((σ.2.2.1 (30 + j)) 2) + (pt σ i j 2 2))))))) (110 + i) (.inl (K 1, 4, .inr (.inl (vp_updL (vp_updL (vp_updL (vp_updL (σ.2.2.1 (10 + i)) 0 (((σ.2.2.1 (10 + i)) 0) - (pt σ i j 0 0))) 1 (((σ.2.2.1 (10 + i)) 1) - (pt σ i j 1 1))) 2 (((σ.2.2.1 (10 + i)) 2) - (pt σ i j 2 2))) 3 (((σ.2.2.1 (10 + i)) 3) - (pt σ i j 3 3))))))) (120 + i) (.inl (K 1, 24, .inr (.inl (vp_updL (vp_updL (vp_updL (vp_updL (σ.2.2.1 (20 + i)) (j * 4) (pt σ i j 0 0)) ((j * 4) + 1) (pt σ i j 1 1)) ((j * 4) + 2) (pt σ i j 2 2)) ((j * 4) + 3) (pt σ i j 3 3)))))) H := hw
    refine lv_aload_n hx hb d_A_passThrough_69 rfl (lv_at hl 3 rfl) ?_
    refine xr_get (ci := 2) (v := .ref (ad (150 + j))) (C := R_S) (T := T_S) (N := 4) hx hb htw in_S hown hK hw (140 + j) ((xu_ne (by omega)).trans ((xu_ne (by omega)).trans ((xu_ne (by omega)).trans ((xu_ne (by omega)).trans ((xu_ne (by omega)).trans ((xu_ne (by omega)).trans ((xu_ne (by omega)).trans ((xu_ne (by omega)).trans ((xu_ne (by omega)).trans ((xu_ne (by omega)).trans ((xu_ne (by omega)).trans (rs j hj0)))))))))))) rfl rfl 3 (by decide) (htw _ u_158) (fun _ h9 => h9) rfl d_A_passThrough_70 ?_
    refine lv_iload hx hb d_A_passThrough_73 (lv_at hl 1 rfl) ?_
    refine lv_dup2_11 hx hb d_A_passThrough_75 rfl rfl ?_
    refine xr_lald (i := 3) hx hb hK hw (150 + j) 1 ((xu_ne (by omega)).trans ((xu_ne (by omega)).trans (xu_eq))) rfl rfl (by unfold vp_in; decide) d_A_passThrough_76 ?_
    refine lv_topl (fun x_20 ex_20 => ?_)
    obtain rfl : x_20 = (σ.2.2.1 (30 + j)) 3 := ex_20.trans ((congrArg (vp_updL (vp_updL (vp_updL (σ.2.2.1 (30 + j)) 0 (((σ.2.2.1 (30 + j)) 0) + (pt σ i j 0 0))) 1 (((σ.2.2.1 (30 + j)) 1) + (pt σ i j 1 1))) 2 (((σ.2.2.1 (30 + j)) 2) + (pt σ i j 2 2))) ((rfl : (3 : Int32).toNatClampNeg = 3))).trans ((pk_uLn (show (3 : Nat) ≠ 2 by decide)).trans ((pk_uLn (show (3 : Nat) ≠ 1 by decide)).trans ((pk_uLn (show (3 : Nat) ≠ 0 by decide)).trans rfl))))
    refine lv_lload hx hb d_A_passThrough_77 (lv_at hl 0 rfl) ?_
    refine lv_ladd hx hb d_A_passThrough_79 ?_
    refine xr_last (i := 3) hx hb hK hw hS (150 + j) 1 ((xu_ne (by omega)).trans ((xu_ne (by omega)).trans (xu_eq))) rfl rfl (by unfold vp_in; decide) d_A_passThrough_80 (fun H locs hw hS => ?_)
    have hw : xw D vwCl B ad (xu (xu (xu (xu (xu (xu (xu (xu (xu (xu (xu (xu w (110 + i) (.inl (K 1, 4, .inr (.inl (vp_updL (σ.2.2.1 (10 + i)) 0 (((σ.2.2.1 (10 + i)) 0) - (pt σ i j 0 0))))))) (120 + i) (.inl (K 1, 24, .inr (.inl (vp_updL (σ.2.2.1 (20 + i)) (j * 4) (pt σ i j 0 0)))))) (150 + j) (.inl (K 1, 4, .inr (.inl (vp_updL (σ.2.2.1 (30 + j)) 0 (((σ.2.2.1 (30 + j)) 0) + (pt σ i j 0 0))))))) (110 + i) (.inl (K 1, 4, .inr (.inl (vp_updL (vp_updL (σ.2.2.1 (10 + i)) 0 (((σ.2.2.1 (10 + i)) 0) - (pt σ i j 0 0))) 1 (((σ.2.2.1 (10 + i)) 1) - (pt σ i j 1 1))))))) (120 + i) (.inl (K 1, 24, .inr (.inl (vp_updL (vp_updL (σ.2.2.1 (20 + i)) (j * 4) (pt σ i j 0 0)) ((j * 4) + 1) (pt σ i j 1 1)))))) (150 + j) (.inl (K 1, 4, .inr (.inl (vp_updL (vp_updL (σ.2.2.1 (30 + j)) 0 (((σ.2.2.1 (30 + j)) 0) + (pt σ i j 0 0))) 1 (((σ.2.2.1 (30 + j)) 1) + (pt σ i j 1 1))))))) (110 + i) (.inl (K 1, 4, .inr (.inl (vp_updL (vp_updL (vp_updL (σ.2.2.1 (10 + i)) 0 (((σ.2.2.1 (10 + i)) 0) - (pt σ i j 0 0))) 1 (((σ.2.2.1 (10 + i)) 1) - (pt σ i j 1 1))) 2 (((σ.2.2.1 (10 + i)) 2) - (pt σ i j 2 2))))))) (120 + i) (.inl (K 1, 24, .inr (.inl (vp_updL (vp_updL (vp_updL (σ.2.2.1 (20 + i)) (j * 4) (pt σ i j 0 0)) ((j * 4) + 1) (pt σ i j 1 1)) ((j * 4) + 2) (pt σ i j 2 2)))))) (150 + j) (.inl (K 1, 4, .inr (.inl (vp_updL (vp_updL (vp_updL (σ.2.2.1 (30 + j)) 0 (((σ.2.2.1 (30 + j)) 0) + (pt σ i j 0 0))) 1 (((σ.2.2.1 (30 + j)) 1) + (pt σ i j 1 1))) 2 (((σ.2.2.1 (30 + j)) 2) + (pt σ i j 2 2))))))) (110 + i) (.inl (K 1, 4, .inr (.inl (vp_updL (vp_updL (vp_updL (vp_updL (σ.2.2.1 (10 + i)) 0 (((σ.2.2.1 (10 + i)) 0) - (pt σ i j 0 0))) 1 (((σ.2.2.1 (10 + i)) 1) - (pt σ i j 1 1))) 2 (((σ.2.2.1 (10 + i)) 2) - (pt σ i j 2 2))) 3 (((σ.2.2.1 (10 + i)) 3) - (pt σ i j 3 3))))))) (120 + i) (.inl (K 1, 24, .inr (.inl (vp_updL (vp_updL (vp_updL (vp_updL (σ.2.2.1 (20 + i)) (j * 4) (pt σ i j 0 0)) ((j * 4) + 1) (pt σ i j 1 1)) ((j * 4) + 2) (pt σ i j 2 2)) ((j * 4) + 3) (pt σ i j 3 3)))))) (150 + j) (.inl (K 1, 4, .inr (.inl (vp_updL (vp_updL (vp_updL (vp_updL (σ.2.2.1 (30 + j)) 0 (((σ.2.2.1 (30 + j)) 0) + (pt σ i j 0 0))) 1 (((σ.2.2.1 (30 + j)) 1) + (pt σ i j 1 1))) 2 (((σ.2.2.1 (30 + j)) 2) + (pt σ i j 2 2))) 3 (((σ.2.2.1 (30 + j)) 3) + (pt σ i j 3 3))))))) H := hw
    refine lv_lload hx hb d_A_passThrough_81 (lv_at hl 2 rfl) ?_
    refine lv_lload hx hb d_A_passThrough_83 (lv_at hl 0 rfl) ?_
    refine lv_ladd hx hb d_A_passThrough_85 ?_
    refine lv_lstore (lv' := [(4, .long ((((0 + (pt σ i j 0 0)) + (pt σ i j 1 1)) + (pt σ i j 2 2)) + (pt σ i j 3 3))), (7, .long (pt σ i j 3 3)), (6, .int 3), (3, .ref (ad (140 + j))), (0, .ref (ad 0)), (1, .ref (ad (100 + i))), (2, .int (nI j))]) hx hb d_A_passThrough_86 hl (by decide) rfl (fun ls hl => ?_)
    refine lv_iinc (v := 4) (lv' := [(6, .int 4), (4, .long ((((0 + (pt σ i j 0 0)) + (pt σ i j 1 1)) + (pt σ i j 2 2)) + (pt σ i j 3 3))), (7, .long (pt σ i j 3 3)), (3, .ref (ad (140 + j))), (0, .ref (ad 0)), (1, .ref (ad (100 + i))), (2, .int (nI j))]) hx hb d_A_passThrough_88 hl (k := 2) rfl (by decide) (by decide) rfl (fun ls hl => ?_)
    refine lv_goto (tgt := 17) hx hb d_A_passThrough_91 (by decide) ?_
    refine lv_iload hx hb d_A_passThrough_17 (lv_at hl 0 rfl) ?_
    refine lv_iconst (v := 4) hx hb d_A_passThrough_19 (by decide) ?_
    refine lv_icmp_ge (tgt := 94) hx hb d_A_passThrough_20 (by decide) (fun c_21 => ?_) (fun c_21 => absurd (by decide) c_21)
    refine lv_aload_n hx hb d_A_passThrough_94 rfl (lv_at hl 5 rfl) ?_
    refine lv_lconst (v := 0) hx hb d_A_passThrough_95 (by decide) ?_
    refine lv_aload_n hx hb d_A_passThrough_96 rfl (lv_at hl 5 rfl) ?_
    refine xr_get (ci := 1) (v := .long (σ.2.2.1 1 i)) (C := R_B) (T := T_B) (N := 9) hx hb htw in_B hown hK hw (100 + i) ((xu_ne (by omega)).trans ((xu_ne (by omega)).trans ((xu_ne (by omega)).trans ((xu_ne (by omega)).trans ((xu_ne (by omega)).trans ((xu_ne (by omega)).trans ((xu_ne (by omega)).trans ((xu_ne (by omega)).trans ((xu_ne (by omega)).trans ((xu_ne (by omega)).trans ((xu_ne (by omega)).trans ((xu_ne (by omega)).trans (rb i hi))))))))))))) rfl rfl 5 (by decide) (htw _ u_100) (fun _ h9 => h9) rfl d_A_passThrough_97 ?_
    refine lv_lload hx hb d_A_passThrough_100 (lv_at hl 1 rfl) ?_
    refine lv_ldc2 (v := 1000000) hx hb hown (htw _ u_138) d_A_passThrough_102 ?_
    refine lv_ldiv hx hb d_A_passThrough_105 (by decide) ?_
    refine lv_lsub hx hb d_A_passThrough_106 ?_
    refine va_mmax_long hx hb (by rw [hml, hl.1]) hown (htw _ u_184) (htw _ u_185) (htw _ u_7) (htw _ u_186) (Nat.le_of_ble_eq_true rfl) (Nat.le_of_ble_eq_true rfl) (Nat.le_of_ble_eq_true rfl) (Nat.le_of_ble_eq_true rfl) d_A_passThrough_107 ?_
    refine lv_topl (fun x_22 ex_22 => ?_)
    obtain rfl : x_22 = mxL 0 ((σ.2.2.1 1 i) - (((((0 + (pt σ i j 0 0)) + (pt σ i j 1 1)) + (pt σ i j 2 2)) + (pt σ i j 3 3)) / 1000000)) := ex_22
    refine xr_put (ci := 1) (v := .long (mxL 0 ((σ.2.2.1 1 i) - (((((0 + (pt σ i j 0 0)) + (pt σ i j 1 1)) + (pt σ i j 2 2)) + (pt σ i j 3 3)) / 1000000)))) (ty := .long) (C := R_B) (T := T_B) (N := 9) hx hb htw in_B ty_B tk_B nm_B hown hK hw hS (100 + i) ((xu_ne (by omega)).trans ((xu_ne (by omega)).trans ((xu_ne (by omega)).trans ((xu_ne (by omega)).trans ((xu_ne (by omega)).trans ((xu_ne (by omega)).trans ((xu_ne (by omega)).trans ((xu_ne (by omega)).trans ((xu_ne (by omega)).trans ((xu_ne (by omega)).trans ((xu_ne (by omega)).trans ((xu_ne (by omega)).trans (rb i hi))))))))))))) rfl rfl 5 (by decide) (htw _ u_100) (fun _ h9 => h9) rfl (by decide +kernel) rfl rfl (Nat.le_of_ble_eq_true rfl) d_A_passThrough_110 (fun H locs hw hS => ?_)
    have hw : xw D vwCl B ad (xu (xu (xu (xu (xu (xu (xu (xu (xu (xu (xu (xu (xu w (110 + i) (.inl (K 1, 4, .inr (.inl (vp_updL (σ.2.2.1 (10 + i)) 0 (((σ.2.2.1 (10 + i)) 0) - (pt σ i j 0 0))))))) (120 + i) (.inl (K 1, 24, .inr (.inl (vp_updL (σ.2.2.1 (20 + i)) (j * 4) (pt σ i j 0 0)))))) (150 + j) (.inl (K 1, 4, .inr (.inl (vp_updL (σ.2.2.1 (30 + j)) 0 (((σ.2.2.1 (30 + j)) 0) + (pt σ i j 0 0))))))) (110 + i) (.inl (K 1, 4, .inr (.inl (vp_updL (vp_updL (σ.2.2.1 (10 + i)) 0 (((σ.2.2.1 (10 + i)) 0) - (pt σ i j 0 0))) 1 (((σ.2.2.1 (10 + i)) 1) - (pt σ i j 1 1))))))) (120 + i) (.inl (K 1, 24, .inr (.inl (vp_updL (vp_updL (σ.2.2.1 (20 + i)) (j * 4) (pt σ i j 0 0)) ((j * 4) + 1) (pt σ i j 1 1)))))) (150 + j) (.inl (K 1, 4, .inr (.inl (vp_updL (vp_updL (σ.2.2.1 (30 + j)) 0 (((σ.2.2.1 (30 + j)) 0) + (pt σ i j 0 0))) 1 (((σ.2.2.1 (30 + j)) 1) + (pt σ i j 1 1))))))) (110 + i) (.inl (K 1, 4, .inr (.inl (vp_updL (vp_updL (vp_updL (σ.2.2.1 (10 + i)) 0 (((σ.2.2.1 (10 + i)) 0) - (pt σ i j 0 0))) 1 (((σ.2.2.1 (10 + i)) 1) - (pt σ i j 1 1))) 2 (((σ.2.2.1 (10 + i)) 2) - (pt σ i j 2 2))))))) (120 + i) (.inl (K 1, 24, .inr (.inl (vp_updL (vp_updL (vp_updL (σ.2.2.1 (20 + i)) (j * 4) (pt σ i j 0 0)) ((j * 4) + 1) (pt σ i j 1 1)) ((j * 4) + 2) (pt σ i j 2 2)))))) (150 + j) (.inl (K 1, 4, .inr (.inl (vp_updL (vp_updL (vp_updL (σ.2.2.1 (30 + j)) 0 (((σ.2.2.1 (30 + j)) 0) + (pt σ i j 0 0))) 1 (((σ.2.2.1 (30 + j)) 1) + (pt σ i j 1 1))) 2 (((σ.2.2.1 (30 + j)) 2) + (pt σ i j 2 2))))))) (110 + i) (.inl (K 1, 4, .inr (.inl (vp_updL (vp_updL (vp_updL (vp_updL (σ.2.2.1 (10 + i)) 0 (((σ.2.2.1 (10 + i)) 0) - (pt σ i j 0 0))) 1 (((σ.2.2.1 (10 + i)) 1) - (pt σ i j 1 1))) 2 (((σ.2.2.1 (10 + i)) 2) - (pt σ i j 2 2))) 3 (((σ.2.2.1 (10 + i)) 3) - (pt σ i j 3 3))))))) (120 + i) (.inl (K 1, 24, .inr (.inl (vp_updL (vp_updL (vp_updL (vp_updL (σ.2.2.1 (20 + i)) (j * 4) (pt σ i j 0 0)) ((j * 4) + 1) (pt σ i j 1 1)) ((j * 4) + 2) (pt σ i j 2 2)) ((j * 4) + 3) (pt σ i j 3 3)))))) (150 + j) (.inl (K 1, 4, .inr (.inl (vp_updL (vp_updL (vp_updL (vp_updL (σ.2.2.1 (30 + j)) 0 (((σ.2.2.1 (30 + j)) 0) + (pt σ i j 0 0))) 1 (((σ.2.2.1 (30 + j)) 1) + (pt σ i j 1 1))) 2 (((σ.2.2.1 (30 + j)) 2) + (pt σ i j 2 2))) 3 (((σ.2.2.1 (30 + j)) 3) + (pt σ i j 3 3))))))) (100 + i) (.inr (1, [.int (σ.2.1 1 i), .int (bI (σ.2.2.2 0 i)), .ref (ad (110 + i)), .ref (ad (120 + i)), .ref (ad (130 + i)), .long (mxL 0 ((σ.2.2.1 1 i) - (((((0 + (pt σ i j 0 0)) + (pt σ i j 1 1)) + (pt σ i j 2 2)) + (pt σ i j 3 3)) / 1000000))), .int (bI (σ.2.2.2 1 i)), .int (bI (σ.2.2.2 2 i)), .int (nI (σ.1 (10 + 2 * i)))]))) H := hw
    have hRep : RepX K (s_pass σ i j) ad (xu (xu (xu (xu (xu (xu (xu (xu (xu (xu (xu (xu (xu w (110 + i) (.inl (K 1, 4, .inr (.inl (vp_updL (σ.2.2.1 (10 + i)) 0 (((σ.2.2.1 (10 + i)) 0) - (pt σ i j 0 0))))))) (120 + i) (.inl (K 1, 24, .inr (.inl (vp_updL (σ.2.2.1 (20 + i)) (j * 4) (pt σ i j 0 0)))))) (150 + j) (.inl (K 1, 4, .inr (.inl (vp_updL (σ.2.2.1 (30 + j)) 0 (((σ.2.2.1 (30 + j)) 0) + (pt σ i j 0 0))))))) (110 + i) (.inl (K 1, 4, .inr (.inl (vp_updL (vp_updL (σ.2.2.1 (10 + i)) 0 (((σ.2.2.1 (10 + i)) 0) - (pt σ i j 0 0))) 1 (((σ.2.2.1 (10 + i)) 1) - (pt σ i j 1 1))))))) (120 + i) (.inl (K 1, 24, .inr (.inl (vp_updL (vp_updL (σ.2.2.1 (20 + i)) (j * 4) (pt σ i j 0 0)) ((j * 4) + 1) (pt σ i j 1 1)))))) (150 + j) (.inl (K 1, 4, .inr (.inl (vp_updL (vp_updL (σ.2.2.1 (30 + j)) 0 (((σ.2.2.1 (30 + j)) 0) + (pt σ i j 0 0))) 1 (((σ.2.2.1 (30 + j)) 1) + (pt σ i j 1 1))))))) (110 + i) (.inl (K 1, 4, .inr (.inl (vp_updL (vp_updL (vp_updL (σ.2.2.1 (10 + i)) 0 (((σ.2.2.1 (10 + i)) 0) - (pt σ i j 0 0))) 1 (((σ.2.2.1 (10 + i)) 1) - (pt σ i j 1 1))) 2 (((σ.2.2.1 (10 + i)) 2) - (pt σ i j 2 2))))))) (120 + i) (.inl (K 1, 24, .inr (.inl (vp_updL (vp_updL (vp_updL (σ.2.2.1 (20 + i)) (j * 4) (pt σ i j 0 0)) ((j * 4) + 1) (pt σ i j 1 1)) ((j * 4) + 2) (pt σ i j 2 2)))))) (150 + j) (.inl (K 1, 4, .inr (.inl (vp_updL (vp_updL (vp_updL (σ.2.2.1 (30 + j)) 0 (((σ.2.2.1 (30 + j)) 0) + (pt σ i j 0 0))) 1 (((σ.2.2.1 (30 + j)) 1) + (pt σ i j 1 1))) 2 (((σ.2.2.1 (30 + j)) 2) + (pt σ i j 2 2))))))) (110 + i) (.inl (K 1, 4, .inr (.inl (vp_updL (vp_updL (vp_updL (vp_updL (σ.2.2.1 (10 + i)) 0 (((σ.2.2.1 (10 + i)) 0) - (pt σ i j 0 0))) 1 (((σ.2.2.1 (10 + i)) 1) - (pt σ i j 1 1))) 2 (((σ.2.2.1 (10 + i)) 2) - (pt σ i j 2 2))) 3 (((σ.2.2.1 (10 + i)) 3) - (pt σ i j 3 3))))))) (120 + i) (.inl (K 1, 24, .inr (.inl (vp_updL (vp_updL (vp_updL (vp_updL (σ.2.2.1 (20 + i)) (j * 4) (pt σ i j 0 0)) ((j * 4) + 1) (pt σ i j 1 1)) ((j * 4) + 2) (pt σ i j 2 2)) ((j * 4) + 3) (pt σ i j 3 3)))))) (150 + j) (.inl (K 1, 4, .inr (.inl (vp_updL (vp_updL (vp_updL (vp_updL (σ.2.2.1 (30 + j)) 0 (((σ.2.2.1 (30 + j)) 0) + (pt σ i j 0 0))) 1 (((σ.2.2.1 (30 + j)) 1) + (pt σ i j 1 1))) 2 (((σ.2.2.1 (30 + j)) 2) + (pt σ i j 2 2))) 3 (((σ.2.2.1 (30 + j)) 3) + (pt σ i j 3 3))))))) (100 + i) (.inr (1, [.int (σ.2.1 1 i), .int (bI (σ.2.2.2 0 i)), .ref (ad (110 + i)), .ref (ad (120 + i)), .ref (ad (130 + i)), .long (mxL 0 ((σ.2.2.1 1 i) - (((((0 + (pt σ i j 0 0)) + (pt σ i j 1 1)) + (pt σ i j 2 2)) + (pt σ i j 3 3)) / 1000000))), .int (bI (σ.2.2.2 1 i)), .int (bI (σ.2.2.2 2 i)), .int (nI (σ.1 (10 + 2 * i)))]))) := by
      unfold s_pass tog
      refine ⟨?_, ?_, ?_, ?_, ?_, ?_, ?_, ?_, ?_, ?_, ?_, ?_, ?_, ?_, ?_⟩
      · simp (disch := omega) only [pN, pI, pL, pZ, row_eq, row_ne, xu_eq, xu_ne, xa_eq, xa_ne, pk_us, pk_un, pk_uLs, pk_uLn, r0]
      · simp (disch := omega) only [pN, pI, pL, pZ, row_eq, row_ne, xu_eq, xu_ne, xa_eq, xa_ne, pk_us, pk_un, pk_uLs, pk_uLn, r1]; try rfl
      · simp (disch := omega) only [pN, pI, pL, pZ, row_eq, row_ne, xu_eq, xu_ne, xa_eq, xa_ne, pk_us, pk_un, pk_uLs, pk_uLn, r2]; try rfl
      · simp (disch := omega) only [pN, pI, pL, pZ, row_eq, row_ne, xu_eq, xu_ne, xa_eq, xa_ne, pk_us, pk_un, pk_uLs, pk_uLn, r3]; try rfl
      · simp (disch := omega) only [pN, pI, pL, pZ, row_eq, row_ne, xu_eq, xu_ne, xa_eq, xa_ne, pk_us, pk_un, pk_uLs, pk_uLn, r4]
      · simp (disch := omega) only [pN, pI, pL, pZ, row_eq, row_ne, xu_eq, xu_ne, xa_eq, xa_ne, pk_us, pk_un, pk_uLs, pk_uLn, r5]
      · simp (disch := omega) only [pN, pI, pL, pZ, row_eq, row_ne, xu_eq, xu_ne, xa_eq, xa_ne, pk_us, pk_un, pk_uLs, pk_uLn, r6]
      · simp (disch := omega) only [pN, pI, pL, pZ, row_eq, row_ne, xu_eq, xu_ne, xa_eq, xa_ne, pk_us, pk_un, pk_uLs, pk_uLn, r7]
      · intro jj hj
        have hj : jj < σ.1 0 := by first | exact hj | simpa (disch := omega) only [pN, pI, pL, pZ, row_eq, row_ne, xu_eq, xu_ne, xa_eq, xa_ne, pk_us, pk_un, pk_uLs, pk_uLn] using hj
        by_cases ej : jj = i
        · rw [ej]; simp (disch := omega) only [pN, pI, pL, pZ, row_eq, row_ne, xu_eq, xu_ne, xa_eq, xa_ne, pk_us, pk_un, pk_uLs, pk_uLn, rb i (by omega)]
        · simp (disch := omega) only [pN, pI, pL, pZ, row_eq, row_ne, xu_eq, xu_ne, xa_eq, xa_ne, pk_us, pk_un, pk_uLs, pk_uLn, rb jj (by omega)]
      · intro jj hj
        have hj : jj < σ.1 0 := by first | exact hj | simpa (disch := omega) only [pN, pI, pL, pZ, row_eq, row_ne, xu_eq, xu_ne, xa_eq, xa_ne, pk_us, pk_un, pk_uLs, pk_uLn] using hj
        by_cases ej : jj = i
        · rw [ej]; simp (disch := omega) only [pN, pI, pL, pZ, row_eq, row_ne, xu_eq, xu_ne, xa_eq, xa_ne, pk_us, pk_un, pk_uLs, pk_uLn, rba i (by omega)]
        · simp (disch := omega) only [pN, pI, pL, pZ, row_eq, row_ne, xu_eq, xu_ne, xa_eq, xa_ne, pk_us, pk_un, pk_uLs, pk_uLn, rba jj (by omega)]
      · intro jj hj
        have hj : jj < σ.1 0 := by first | exact hj | simpa (disch := omega) only [pN, pI, pL, pZ, row_eq, row_ne, xu_eq, xu_ne, xa_eq, xa_ne, pk_us, pk_un, pk_uLs, pk_uLn] using hj
        by_cases ej : jj = i
        · rw [ej]; simp (disch := omega) only [pN, pI, pL, pZ, row_eq, row_ne, xu_eq, xu_ne, xa_eq, xa_ne, pk_us, pk_un, pk_uLs, pk_uLn, rbt i (by omega)]
        · simp (disch := omega) only [pN, pI, pL, pZ, row_eq, row_ne, xu_eq, xu_ne, xa_eq, xa_ne, pk_us, pk_un, pk_uLs, pk_uLn, rbt jj (by omega)]
      · intro jj hj
        have hj : jj < σ.1 0 := by first | exact hj | simpa (disch := omega) only [pN, pI, pL, pZ, row_eq, row_ne, xu_eq, xu_ne, xa_eq, xa_ne, pk_us, pk_un, pk_uLs, pk_uLn] using hj
        simp (disch := omega) only [pN, pI, pL, pZ, row_eq, row_ne, xu_eq, xu_ne, xa_eq, xa_ne, pk_us, pk_un, pk_uLs, pk_uLn, rbo jj hj]
      · intro jj hj
        have hj : jj < σ.1 1 := by first | exact hj | simpa (disch := omega) only [pN, pI, pL, pZ, row_eq, row_ne, xu_eq, xu_ne, xa_eq, xa_ne, pk_us, pk_un, pk_uLs, pk_uLn] using hj
        simp (disch := omega) only [pN, pI, pL, pZ, row_eq, row_ne, xu_eq, xu_ne, xa_eq, xa_ne, pk_us, pk_un, pk_uLs, pk_uLn, rs jj hj]
      · intro jj hj
        have hj : jj < σ.1 1 := by first | exact hj | simpa (disch := omega) only [pN, pI, pL, pZ, row_eq, row_ne, xu_eq, xu_ne, xa_eq, xa_ne, pk_us, pk_un, pk_uLs, pk_uLn] using hj
        by_cases ej : jj = j
        · rw [ej]; simp (disch := omega) only [pN, pI, pL, pZ, row_eq, row_ne, xu_eq, xu_ne, xa_eq, xa_ne, pk_us, pk_un, pk_uLs, pk_uLn, rss j (by omega)]
        · simp (disch := omega) only [pN, pI, pL, pZ, row_eq, row_ne, xu_eq, xu_ne, xa_eq, xa_ne, pk_us, pk_un, pk_uLs, pk_uLn, rss jj (by omega)]
      · intro jj hj
        have hj : jj < σ.1 2 := by first | exact hj | simpa (disch := omega) only [pN, pI, pL, pZ, row_eq, row_ne, xu_eq, xu_ne, xa_eq, xa_ne, pk_us, pk_un, pk_uLs, pk_uLn] using hj
        simp (disch := omega) only [pN, pI, pL, pZ, row_eq, row_ne, xu_eq, xu_ne, xa_eq, xa_ne, pk_us, pk_un, pk_uLs, pk_uLn, rr jj hj]
    exact W.vret hx hb hr (fun t ht _ => ⟨_, rfl, ⟨rfl, _, by rw [ht]; exact hw, hRep, fun t h2 => by simp (disch := omega) only [xu_ne]⟩, hS.F ht⟩) hS.2.2 d_A_passThrough_113
set_option maxHeartbeats 4000000 in
set_option maxRecDepth 100000 in
theorem c_A_run {l : Launch} {D : va_G} {K : Nat → ClassId} {B : Nat} {ad : Nat → Nat} {w : Nat → Option va_E} {H : Heap} {σ : xS} (hR : RepX K σ ad w) (hI : Inv σ) (hw : xw D vwCl B ad w H) (x1 : Int32) : xC l D K B y_A_run b_A_run 4 (some .int) rm_A_run [.ref (ad 0), .int x1] H (fun v H1 => v = some (.int (f_run σ x1).2) ∧ PX D K B ad w (f_run σ x1).1 H1) := by
  refine Met.ofW (cc := b_A_run) (maxL := 4) (ret := (some .int)) (by decide) rfl ?_
  intro p e s m args below meth c s₁ B0 hml hv
  obtain ⟨rfl, hsz, hK, hN⟩ := hv
  have hx := B0.exec
  have hb := B0.bytes
  have hr := B0.returns
  have htw : ∀ w ∈ xW0, w.before [.ref (ad 0), .int x1].toArray s = true := fun w h => atoms_spec (ws := Cond.code y_A_run b_A_run 4 (some .int) :: xW0) B0.pre w (List.mem_cons_of_mem _ h)
  have hown : s.vm.findClass R_A = some m.cls := findClass_of_methodNamed B0.named
  have hlocks := B0.notSynchronized
  subst hsz
  have hS : va_S (fun q => B ≤ q) s.heap s.heap [] := va_S.rf
  have hl := lv_entry ([.ref (ad 0), .int x1]) (n := 4) (Nat.le_of_ble_eq_true rfl)
  rw [lg_entry_eq]
  generalize (lg_sl ([.ref (ad 0), .int x1]) ++ List.replicate (4 - (lg_sl ([.ref (ad 0), .int x1])).length) Slot.unset).toArray = ls at hl ⊢
  have hl : lv_has ls 4 [(0, .ref (ad 0)), (1, .int x1)] := hl
  have hH : s.heap = s.heap := rfl
  obtain ⟨r0, r1, r2, r3, r4, r5, r6, r7, rb, rba, rbt, rbo, rs, rss, rr⟩ := id hR
  obtain ⟨hnb, hns, hnr, hpc, hst, hto, htl, hrm, hpa, hwt, hdf, hds⟩ := id hI
  refine lv_aload_n hx hb d_A_run_0 rfl (lv_at hl 0 rfl) ?_
  refine lv_iload_n hx hb d_A_run_1 rfl (lv_at hl 1 rfl) ?_
  refine xr_call (va_runV (As := [.int x1]) (rest := []) ⟨hx, hb, hml, hown, htw⟩ (c_A_batchAt (ad := ad) hR hnb hns hw x1) (cwV 1 htw (gV u_131 u_133 us_1 u_1 u_134) rfl rfl rfl hd_A_batchAt ⟨Nat.le_of_ble_eq_true rfl, Nat.le_of_ble_eq_true rfl⟩) ⟨xP_blind, hw.recv hK (ci := 0) (t := 0) rfl r0 rfl, xP_of hK hN⟩ rfl rfl hl.1 rfl (lv_room (Nat.le_of_ble_eq_true rfl)) d_A_run_2 ⟨by decide, by decide⟩) hS (fun v H_ locs hp hS => ?_)
  obtain ⟨hHe, hp⟩ := hp
  rw [hHe] at hS ⊢
  rcases hp with ⟨f2, rfl⟩ | ⟨i1, hi1, rfl, rfl⟩
  · refine W.eq (g2 := F0 m 5 ls [.null]) rfl ?_
    refine lv_astore_nN (lv' := [(2, .null), (0, .ref (ad 0)), (1, .int x1)]) hx hb d_A_run_5 rfl hl (by decide) rfl (fun ls hl => ?_)
    refine lv_aload_nN hx hb d_A_run_6 rfl (lv_at hl 0 rfl) ?_
    refine lv_ifnullN (tgt := 24) hx hb d_A_run_7 (by decide) ?_
    refine lv_iconst (v := (-1)) hx hb d_A_run_24 (by decide) ?_
    have hf : f_run σ x1 = (σ, (-1)) := by simp [f_run, opt_n, opt_s, f2]
    exact W.iret (v := (-1)) hx hb hr (fun t ht _ => ⟨_, rfl, by rw [hf, ht]; exact ⟨rfl, PX_same hw hR⟩, hS.F ht⟩) hS.2.2 d_A_run_25
  · have fi1 : xi (σ.1 0) (nI i1) = some i1 := xi_nI hi1 (by omega)
    refine W.eq (g2 := F0 m 5 ls [.ref (ad (100 + i1))]) rfl ?_
    refine lv_astore_n (lv' := [(2, .ref (ad (100 + i1))), (0, .ref (ad 0)), (1, .int (nI i1))]) hx hb d_A_run_5 rfl hl (by decide) rfl (fun ls hl => ?_)
    refine lv_aload_n hx hb d_A_run_6 rfl (lv_at hl 0 rfl) ?_
    refine lv_ifnull hx hb d_A_run_7 ?_
    refine lv_aload_n hx hb d_A_run_10 rfl (lv_at hl 0 rfl) ?_
    refine xr_get (ci := 1) (v := .int (bI (σ.2.2.2 2 i1))) (C := R_B) (T := T_B) (N := 9) hx hb htw in_B hown hK hw (100 + i1) (rb i1 hi1) rfl rfl 7 (by decide) (htw _ u_102) (fun _ h9 => h9) rfl d_A_run_11 ?_
    refine lv_if_ne (tgt := 24) hx hb d_A_run_14 (by decide) (fun c_3 => ?_) (fun c_3 => ?_)
    · have c_3 : (σ.2.2.2 2 i1) = true := bI_t.mp c_3
      refine lv_iconst (v := (-1)) hx hb d_A_run_24 (by decide) ?_
      have hf : f_run σ (nI i1) = (σ, (-1)) := by simp [f_run, opt_n, opt_s, fi1, c_3]
      exact W.iret (v := (-1)) hx hb hr (fun t ht _ => ⟨_, rfl, by rw [hf, ht]; exact ⟨rfl, PX_same hw hR⟩, hS.F ht⟩) hS.2.2 d_A_run_25
    · have c_3 : (σ.2.2.2 2 i1) = false := bI_f.mp c_3
      refine lv_aload_n hx hb d_A_run_17 rfl (lv_at hl 0 rfl) ?_
      refine xr_get (ci := 1) (v := .int (bI (σ.2.2.2 1 i1))) (C := R_B) (T := T_B) (N := 9) hx hb htw in_B hown hK hw (100 + i1) (rb i1 hi1) rfl rfl 6 (by decide) (htw _ u_101) (fun _ h9 => h9) rfl d_A_run_18 ?_
      refine lv_if_eq (tgt := 26) hx hb d_A_run_21 (by decide) (fun c_4 => ?_) (fun c_4 => ?_)
      · have c_4 : (σ.2.2.2 1 i1) = false := bI_f.mp c_4
        refine lv_iconst (v := 0) hx hb d_A_run_26 (by decide) ?_
        refine lv_istore_n (lv' := [(3, .int 0), (2, .ref (ad (100 + i1))), (0, .ref (ad 0)), (1, .int (nI i1))]) hx hb d_A_run_27 rfl hl (by decide) rfl (fun ls hl => ?_)
        refine xloop (σ.1 1) (fun n H locs ls => ∃ (Lt : Nat → Nat → Int64) (w1 : Nat → Option va_E), passN σ i1 n = (σ.1, σ.2.1, Lt, σ.2.2.2) ∧ xw D vwCl B ad w1 H ∧ RepX K (σ.1, σ.2.1, Lt, σ.2.2.2) ad w1 ∧ (∀ t, 200 ≤ t → w1 t = w t) ∧ va_S (fun q => B ≤ q) s.heap H locs ∧ lv_has ls 4 [(3, .int (nI n)), (2, .ref (ad (100 + i1))), (0, .ref (ad 0)), (1, .int (nI i1))]) 0 (Nat.zero_le _) ⟨σ.2.2.1, w, rfl, hw, hR, fun _ _ => rfl, hS, hl⟩ (fun n H locs ls hn hJ ih => ?_)
        obtain ⟨Lt, w1, hpn, hw, hRn, hfw, hS, hl⟩ := hJ
        obtain ⟨r0, r1, r2, r3, r4, r5, r6, r7, rb, rba, rbt, rbo, rs, rss, rr⟩ := id hRn
        refine lv_iload_n hx hb d_A_run_28 rfl (lv_at hl 0 rfl) ?_
        refine lv_aload_n hx hb d_A_run_29 rfl (lv_at hl 2 rfl) ?_
        refine xr_get (ci := 0) (v := .int (nI (σ.1 1))) (C := R_A) (T := T_A) (N := 10) hx hb htw in_A hown hK hw 0 r0 rfl rfl 3 (by decide) (htw _ u_44) (fun _ h9 => h9) rfl d_A_run_30 ?_
        refine lv_icmp_ge (tgt := 48) hx hb d_A_run_33 (by decide) (fun c_5 => ?_) (fun c_5 => ?_)
        · have c_5 : (σ.1 1) ≤ n := (nLE (a := σ.1 1) (b := n) (by omega) (by omega)).mp c_5
          refine lv_aload_n hx hb d_A_run_48 rfl (lv_at hl 1 rfl) ?_
          refine lv_iconst (v := 1) hx hb d_A_run_49 (by decide) ?_
          refine xr_put (ci := 1) (v := .int 1) (ty := .boolean) (C := R_B) (T := T_B) (N := 9) hx hb htw in_B ty_B tk_B nm_B hown hK hw hS (100 + i1) (rb i1 hi1) rfl rfl 6 (by decide) (htw _ u_101) (fun _ h9 => h9) rfl (by decide +kernel) (by decide) (by decide) (Nat.le_of_ble_eq_true rfl) d_A_run_50 (fun H locs hw hS => ?_)
          have hw : xw D vwCl B ad (xu w1 (100 + i1) (.inr (1, [.int (σ.2.1 1 i1), .int (bI (σ.2.2.2 0 i1)), .ref (ad (110 + i1)), .ref (ad (120 + i1)), .ref (ad (130 + i1)), .long (Lt 1 i1), .int 1, .int (bI (σ.2.2.2 2 i1)), .int (nI (σ.1 (10 + 2 * i1)))]))) H := hw
          refine lv_aload_n hx hb d_A_run_53 rfl (lv_at hl 1 rfl) ?_
          refine lv_aload_n hx hb d_A_run_54 rfl (lv_at hl 2 rfl) ?_
          refine xr_get (ci := 0) (v := .int (nI (σ.1 1))) (C := R_A) (T := T_A) (N := 10) hx hb htw in_A hown hK hw 0 ((xu_ne (by omega)).trans (r0)) rfl rfl 3 (by decide) (htw _ u_44) (fun _ h9 => h9) rfl d_A_run_55 ?_
          refine xr_put (ci := 1) (v := .int (nI (σ.1 1))) (ty := .int) (C := R_B) (T := T_B) (N := 9) hx hb htw in_B ty_B tk_B nm_B hown hK hw hS (100 + i1) xu_eq rfl rfl 8 (by decide) (htw _ u_103) (fun _ h9 => h9) rfl (by decide +kernel) rfl rfl (Nat.le_of_ble_eq_true rfl) d_A_run_58 (fun H locs hw hS => ?_)
          have hw : xw D vwCl B ad (xu (xu w1 (100 + i1) (.inr (1, [.int (σ.2.1 1 i1), .int (bI (σ.2.2.2 0 i1)), .ref (ad (110 + i1)), .ref (ad (120 + i1)), .ref (ad (130 + i1)), .long (Lt 1 i1), .int 1, .int (bI (σ.2.2.2 2 i1)), .int (nI (σ.1 (10 + 2 * i1)))]))) (100 + i1) (.inr (1, [.int (σ.2.1 1 i1), .int (bI (σ.2.2.2 0 i1)), .ref (ad (110 + i1)), .ref (ad (120 + i1)), .ref (ad (130 + i1)), .long (Lt 1 i1), .int 1, .int (bI (σ.2.2.2 2 i1)), .int (nI (σ.1 1))]))) H := hw
          refine lv_aload_n hx hb d_A_run_61 rfl (lv_at hl 2 rfl) ?_
          refine xr_get (ci := 0) (v := .int (nI (σ.1 1))) (C := R_A) (T := T_A) (N := 10) hx hb htw in_A hown hK hw 0 ((xu_ne (by omega)).trans ((xu_ne (by omega)).trans (r0))) rfl rfl 3 (by decide) (htw _ u_44) (fun _ h9 => h9) rfl d_A_run_62 ?_
          obtain rfl : n = σ.1 1 := by omega
          have hLt : (passN σ i1 (σ.1 1)).2.2.1 = Lt := by rw [hpn]
          have hRep : RepX K (s_run σ Lt i1) ad (xu (xu w1 (100 + i1) (.inr (1, [.int (σ.2.1 1 i1), .int (bI (σ.2.2.2 0 i1)), .ref (ad (110 + i1)), .ref (ad (120 + i1)), .ref (ad (130 + i1)), .long (Lt 1 i1), .int 1, .int (bI (σ.2.2.2 2 i1)), .int (nI (σ.1 (10 + 2 * i1)))]))) (100 + i1) (.inr (1, [.int (σ.2.1 1 i1), .int (bI (σ.2.2.2 0 i1)), .ref (ad (110 + i1)), .ref (ad (120 + i1)), .ref (ad (130 + i1)), .long (Lt 1 i1), .int 1, .int (bI (σ.2.2.2 2 i1)), .int (nI (σ.1 1))]))) := by
            unfold s_run
            refine ⟨?_, ?_, ?_, ?_, ?_, ?_, ?_, ?_, ?_, ?_, ?_, ?_, ?_, ?_, ?_⟩
            · simp (disch := omega) only [pN, pI, pL, pZ, row_eq, row_ne, xu_eq, xu_ne, xa_eq, xa_ne, pk_us, pk_un, pk_uLs, pk_uLn, bI_tt, hfw, r0]
            · simp (disch := omega) only [pN, pI, pL, pZ, row_eq, row_ne, xu_eq, xu_ne, xa_eq, xa_ne, pk_us, pk_un, pk_uLs, pk_uLn, bI_tt, hfw, r1]; try rfl
            · simp (disch := omega) only [pN, pI, pL, pZ, row_eq, row_ne, xu_eq, xu_ne, xa_eq, xa_ne, pk_us, pk_un, pk_uLs, pk_uLn, bI_tt, hfw, r2]; try rfl
            · simp (disch := omega) only [pN, pI, pL, pZ, row_eq, row_ne, xu_eq, xu_ne, xa_eq, xa_ne, pk_us, pk_un, pk_uLs, pk_uLn, bI_tt, hfw, r3]; try rfl
            · simp (disch := omega) only [pN, pI, pL, pZ, row_eq, row_ne, xu_eq, xu_ne, xa_eq, xa_ne, pk_us, pk_un, pk_uLs, pk_uLn, bI_tt, hfw, r4]
            · simp (disch := omega) only [pN, pI, pL, pZ, row_eq, row_ne, xu_eq, xu_ne, xa_eq, xa_ne, pk_us, pk_un, pk_uLs, pk_uLn, bI_tt, hfw, r5]
            · simp (disch := omega) only [pN, pI, pL, pZ, row_eq, row_ne, xu_eq, xu_ne, xa_eq, xa_ne, pk_us, pk_un, pk_uLs, pk_uLn, bI_tt, hfw, r6]
            · simp (disch := omega) only [pN, pI, pL, pZ, row_eq, row_ne, xu_eq, xu_ne, xa_eq, xa_ne, pk_us, pk_un, pk_uLs, pk_uLn, bI_tt, hfw, r7]
            · intro jj hj
              have hj : jj < σ.1 0 := by first | exact hj | simpa (disch := omega) only [pN, pI, pL, pZ, row_eq, row_ne, xu_eq, xu_ne, xa_eq, xa_ne, pk_us, pk_un, pk_uLs, pk_uLn, bI_tt, hfw] using hj
              by_cases ej : jj = i1
              · rw [ej]; simp (disch := omega) only [pN, pI, pL, pZ, row_eq, row_ne, xu_eq, xu_ne, xa_eq, xa_ne, pk_us, pk_un, pk_uLs, pk_uLn, bI_tt, hfw, rb i1 (by omega)]
              · simp (disch := omega) only [pN, pI, pL, pZ, row_eq, row_ne, xu_eq, xu_ne, xa_eq, xa_ne, pk_us, pk_un, pk_uLs, pk_uLn, bI_tt, hfw, rb jj (by omega)]
            · intro jj hj
              have hj : jj < σ.1 0 := by first | exact hj | simpa (disch := omega) only [pN, pI, pL, pZ, row_eq, row_ne, xu_eq, xu_ne, xa_eq, xa_ne, pk_us, pk_un, pk_uLs, pk_uLn, bI_tt, hfw] using hj
              simp (disch := omega) only [pN, pI, pL, pZ, row_eq, row_ne, xu_eq, xu_ne, xa_eq, xa_ne, pk_us, pk_un, pk_uLs, pk_uLn, bI_tt, hfw, rba jj hj]
            · intro jj hj
              have hj : jj < σ.1 0 := by first | exact hj | simpa (disch := omega) only [pN, pI, pL, pZ, row_eq, row_ne, xu_eq, xu_ne, xa_eq, xa_ne, pk_us, pk_un, pk_uLs, pk_uLn, bI_tt, hfw] using hj
              simp (disch := omega) only [pN, pI, pL, pZ, row_eq, row_ne, xu_eq, xu_ne, xa_eq, xa_ne, pk_us, pk_un, pk_uLs, pk_uLn, bI_tt, hfw, rbt jj hj]
            · intro jj hj
              have hj : jj < σ.1 0 := by first | exact hj | simpa (disch := omega) only [pN, pI, pL, pZ, row_eq, row_ne, xu_eq, xu_ne, xa_eq, xa_ne, pk_us, pk_un, pk_uLs, pk_uLn, bI_tt, hfw] using hj
              simp (disch := omega) only [pN, pI, pL, pZ, row_eq, row_ne, xu_eq, xu_ne, xa_eq, xa_ne, pk_us, pk_un, pk_uLs, pk_uLn, bI_tt, hfw, rbo jj hj]
            · intro jj hj
              have hj : jj < σ.1 1 := by first | exact hj | simpa (disch := omega) only [pN, pI, pL, pZ, row_eq, row_ne, xu_eq, xu_ne, xa_eq, xa_ne, pk_us, pk_un, pk_uLs, pk_uLn, bI_tt, hfw] using hj
              simp (disch := omega) only [pN, pI, pL, pZ, row_eq, row_ne, xu_eq, xu_ne, xa_eq, xa_ne, pk_us, pk_un, pk_uLs, pk_uLn, bI_tt, hfw, rs jj hj]
            · intro jj hj
              have hj : jj < σ.1 1 := by first | exact hj | simpa (disch := omega) only [pN, pI, pL, pZ, row_eq, row_ne, xu_eq, xu_ne, xa_eq, xa_ne, pk_us, pk_un, pk_uLs, pk_uLn, bI_tt, hfw] using hj
              simp (disch := omega) only [pN, pI, pL, pZ, row_eq, row_ne, xu_eq, xu_ne, xa_eq, xa_ne, pk_us, pk_un, pk_uLs, pk_uLn, bI_tt, hfw, rss jj hj]
            · intro jj hj
              have hj : jj < σ.1 2 := by first | exact hj | simpa (disch := omega) only [pN, pI, pL, pZ, row_eq, row_ne, xu_eq, xu_ne, xa_eq, xa_ne, pk_us, pk_un, pk_uLs, pk_uLn, bI_tt, hfw] using hj
              simp (disch := omega) only [pN, pI, pL, pZ, row_eq, row_ne, xu_eq, xu_ne, xa_eq, xa_ne, pk_us, pk_un, pk_uLs, pk_uLn, bI_tt, hfw, rr jj hj]
          have hf : f_run σ (nI i1) = (s_run σ Lt i1, nI (σ.1 1)) := by simp [f_run, opt_n, opt_s, fi1, c_3, c_4, c_5, hLt]
          exact W.iret (v := nI (σ.1 1)) hx hb hr (fun t ht _ => ⟨_, rfl, by rw [hf, ht]; exact ⟨rfl, _, _, hw, hRep, rfl, fun t h2 => ⟨by simp (disch := omega) only [xu_ne, xa_ne, bI_tt, hfw], rfl⟩⟩, hS.F ht⟩) hS.2.2 d_A_run_65
        · have c_5 : ¬ (σ.1 1) ≤ n := fun z => c_5 ((nLE (a := σ.1 1) (b := n) (by omega) (by omega)).mpr z)
          refine lv_aload_n hx hb d_A_run_36 rfl (lv_at hl 2 rfl) ?_
          refine lv_aload_n hx hb d_A_run_37 rfl (lv_at hl 1 rfl) ?_
          refine lv_iload_n hx hb d_A_run_38 rfl (lv_at hl 0 rfl) ?_
          refine xr_call (va_runV (As := [.ref (ad (100 + i1)), .int (nI n)]) (rest := []) ⟨hx, hb, hml, hown, htw⟩ (c_A_passThrough (ad := ad) (σ := (σ.1, σ.2.1, Lt, σ.2.2.2)) hRn hnb hns hw i1 hi1 n (show n < σ.1 1 by omega)) (cwV 2 htw (gV u_172 u_174 us_2 u_1 u_175) rfl rfl rfl hd_A_passThrough ⟨Nat.le_of_ble_eq_true rfl, Nat.le_of_ble_eq_true rfl⟩) ⟨xP_blind, hw.recv hK (ci := 0) (t := 0) rfl r0 rfl, xP_of hK hN⟩ rfl rfl hl.1 rfl (lv_room (Nat.le_of_ble_eq_true rfl)) d_A_run_39 ⟨by decide, by decide⟩) hS (fun v H_ locs hp hS => ?_)
          obtain ⟨rfl, w2, hw, hR2, hfw2⟩ := hp
          generalize H_ = H at hw hS ⊢
          have hp2 : passN σ i1 (n + 1) = (σ.1, σ.2.1, (s_pass (σ.1, σ.2.1, Lt, σ.2.2.2) i1 n).2.2.1, σ.2.2.2) := by rw [passN, hpn]; rfl
          have hR2 : RepX K (σ.1, σ.2.1, (s_pass (σ.1, σ.2.1, Lt, σ.2.2.2) i1 n).2.2.1, σ.2.2.2) ad w2 := hR2
          refine W.eq (g2 := F0 m 42 ls []) rfl ?_
          refine lv_iinc (v := nI n + 1) (lv' := [(3, .int (nI n + 1)), (2, .ref (ad (100 + i1))), (0, .ref (ad 0)), (1, .int (nI i1))]) hx hb d_A_run_42 hl (k := 0) rfl rfl (by decide) rfl (fun ls hl => ?_)
          refine lv_goto (tgt := 28) hx hb d_A_run_45 (by decide) ?_
          exact ih (by omega) _ _ _ ⟨_, w2, hp2, hw, hR2, fun t h2 => (hfw2 t h2).trans (hfw t h2), hS, by rw [show nI (n + 1) = nI n + 1 from nI_succ n]; exact lv_sub hl [0, 1, 2, 3] rfl⟩
      · have c_4 : (σ.2.2.2 1 i1) = true := bI_t.mp c_4
        refine lv_iconst (v := (-1)) hx hb d_A_run_24 (by decide) ?_
        have hf : f_run σ (nI i1) = (σ, (-1)) := by simp [f_run, opt_n, opt_s, fi1, c_3, c_4]
        exact W.iret (v := (-1)) hx hb hr (fun t ht _ => ⟨_, rfl, by rw [hf, ht]; exact ⟨rfl, PX_same hw hR⟩, hS.F ht⟩) hS.2.2 d_A_run_25
end
section
set_option maxHeartbeats 4000000 in
set_option maxRecDepth 100000 in
theorem c_A_mixtureOf {l : Launch} {D : va_G} {K : Nat → ClassId} {B : Nat} {ad : Nat → Nat} {w : Nat → Option va_E} {H : Heap} (hw : xw D vwCl B ad w H) (hB : B ≤ H.size) (i j n : Nat) (hi : i < n) (hj : j < n) (hn : n < 8) (d1 : Int32) (m1 q1 r1 y1 z1 : Value) (p1 : Nat) (g1 : Int64) (b1 : Bool) (A1 : Nat → Int64) (o1 : w (100 + i) = some (.inr (1, [.int d1, m1, .ref p1, q1, r1, .long g1, .int (bI b1), y1, z1]))) (n1 : w (110 + i) = some (.inl (K 1, 4, .inr (.inl A1)))) (hp1 : ad (110 + i) = p1) (a1 : Nat) (ha1 : ad (100 + i) = a1) (d2 : Int32) (m2 q2 r2 y2 z2 : Value) (p2 : Nat) (g2 : Int64) (b2 : Bool) (A2 : Nat → Int64) (o2 : w (100 + j) = some (.inr (1, [.int d2, m2, .ref p2, q2, r2, .long g2, .int (bI b2), y2, z2]))) (n2 : w (110 + j) = some (.inl (K 1, 4, .inr (.inl A2)))) (hp2 : ad (110 + j) = p2) (a2 : Nat) (ha2 : ad (100 + j) = a2) : xC l D K B y_A_mixtureOf b_A_mixtureOf 4 (some (.object "AshMetals$Batch")) rm_A_mixtureOf [.ref a1, .ref a2] H (fun v H1 => ∃ (ad1 : Nat → Nat) (w1 : Nat → Option va_E), v = some (.ref (ad1 (100 + n))) ∧ xw D vwCl B ad1 w1 H1 ∧ w1 (100 + n) = some (.inr (1, [.int (mx d1 d2), .int 1, .ref (ad1 (110 + n)), .ref (ad1 (120 + n)), .ref (ad1 (130 + n)), .long (g1 + g2), .int (bI (b1 && b2)), .int 0, .int 0])) ∧ w1 (110 + n) = some (.inl (K 1, 4, .inr (.inl (vp_updL (vp_updL (vp_updL (vp_updL (fun _ => 0) 0 (A1 0 + A2 0)) 1 (A1 1 + A2 1)) 2 (A1 2 + A2 2)) 3 (A1 3 + A2 3))))) ∧ w1 (120 + n) = some (.inl (K 1, 24, .inr (.inl (fun _ => 0)))) ∧ w1 (130 + n) = some (.inl (K 0, 12, .inl (fun _ => -1))) ∧ Fr ad ad1 w w1 [100 + n, 110 + n, 120 + n, 130 + n]) := by
  refine Met.ofW (cc := b_A_mixtureOf) (maxL := 4) (ret := (some (.object "AshMetals$Batch"))) (by decide) rfl ?_
  intro p e s m args below meth c s₁ B0 hml hv
  obtain ⟨rfl, hsz, hK, hN⟩ := hv
  have hx := B0.exec
  have hb := B0.bytes
  have hr := B0.returns
  have htw : ∀ w ∈ xW0, w.before [.ref a1, .ref a2].toArray s = true := fun w h => atoms_spec (ws := Cond.code y_A_mixtureOf b_A_mixtureOf 4 (some (.object "AshMetals$Batch")) :: xW0) B0.pre w (List.mem_cons_of_mem _ h)
  have hown : s.vm.findClass R_A = some m.cls := findClass_of_methodNamed B0.named
  have hlocks := B0.notSynchronized
  subst hsz
  have hS : va_S (fun q => B ≤ q) s.heap s.heap [] := va_S.rf
  have hl := lv_entry ([.ref a1, .ref a2]) (n := 4) (Nat.le_of_ble_eq_true rfl)
  rw [lg_entry_eq]
  generalize (lg_sl ([.ref a1, .ref a2]) ++ List.replicate (4 - (lg_sl ([.ref a1, .ref a2])).length) Slot.unset).toArray = ls at hl ⊢
  have hl : lv_has ls 4 [(0, .ref a1), (1, .ref a2)] := hl
  have hH : s.heap = s.heap := rfl
  refine xr_new (ci := 1) (fs := [.int 0, .int 0, .null, .null, .null, .long 0, .int 0, .int 0, .int 0]) (C := R_B) (T := T_B) (N := 9) hx hb htw in_B ty_B tk_B hown (htw _ u_17) (htw _ u_80) (htw _ u_4) hK hw hS hB (100 + n) rfl (fun j hj => by rcases (show j = 0 ∨ j = 1 ∨ j = 2 ∨ j = 3 ∨ j = 4 ∨ j = 5 ∨ j = 6 ∨ j = 7 ∨ j = 8 by omega) with rfl | rfl | rfl | rfl | rfl | rfl | rfl | rfl | rfl <;> rfl) (by decide) (by decide) d_A_mixtureOf_0 (fun H ad_2 q_1 eq_1 lq_1 hw hS => ?_)
  have hw : xw D vwCl B ad_2 (xu w (100 + n) (.inr (1, [.int 0, .int 0, .null, .null, .null, .long 0, .int 0, .int 0, .int 0]))) H := hw
  have aq_1 : ad_2 (100 + n) = q_1 := by rw [eq_1]; exact xa_eq
  refine lv_dup hx hb d_A_mixtureOf_3 rfl ?_
  refine lv_aload_n hx hb d_A_mixtureOf_4 rfl (lv_at hl 0 rfl) ?_
  refine xr_get (ci := 1) (v := .long g1) (C := R_B) (T := T_B) (N := 9) hx hb htw in_B hown hK hw (100 + i) ((xu_ne (by omega)).trans (o1)) ((show ad_2 (100 + i) = ad (100 + i) by rw [eq_1]; exact xa_ne (by omega)).trans ha1) rfl 5 (by decide) (htw _ u_100) (fun _ h9 => h9) rfl d_A_mixtureOf_5 ?_
  refine lv_aload_n hx hb d_A_mixtureOf_8 rfl (lv_at hl 1 rfl) ?_
  refine xr_get (ci := 1) (v := .long g2) (C := R_B) (T := T_B) (N := 9) hx hb htw in_B hown hK hw (100 + j) ((xu_ne (by omega)).trans (o2)) ((show ad_2 (100 + j) = ad (100 + j) by rw [eq_1]; exact xa_ne (by omega)).trans ha2) rfl 5 (by decide) (htw _ u_100) (fun _ h9 => h9) rfl d_A_mixtureOf_9 ?_
  refine lv_ladd hx hb d_A_mixtureOf_12 ?_
  refine lv_aload_n hx hb d_A_mixtureOf_13 rfl (lv_at hl 0 rfl) ?_
  refine xr_get (ci := 1) (v := .int d1) (C := R_B) (T := T_B) (N := 9) hx hb htw in_B hown hK hw (100 + i) ((xu_ne (by omega)).trans (o1)) ((show ad_2 (100 + i) = ad (100 + i) by rw [eq_1]; exact xa_ne (by omega)).trans ha1) rfl 0 (by decide) (htw _ u_90) (fun _ h9 => h9) rfl d_A_mixtureOf_14 ?_
  refine lv_aload_n hx hb d_A_mixtureOf_17 rfl (lv_at hl 1 rfl) ?_
  refine xr_get (ci := 1) (v := .int d2) (C := R_B) (T := T_B) (N := 9) hx hb htw in_B hown hK hw (100 + j) ((xu_ne (by omega)).trans (o2)) ((show ad_2 (100 + j) = ad (100 + j) by rw [eq_1]; exact xa_ne (by omega)).trans ha2) rfl 0 (by decide) (htw _ u_90) (fun _ h9 => h9) rfl d_A_mixtureOf_18 ?_
  refine va_mmax hx hb (by rw [hml, hl.1]) hown (htw _ u_318) (htw _ u_263) (htw _ u_7) (htw _ u_264) (Nat.le_of_ble_eq_true rfl) (Nat.le_of_ble_eq_true rfl) (Nat.le_of_ble_eq_true rfl) (Nat.le_of_ble_eq_true rfl) d_A_mixtureOf_21 ?_
  refine lv_topi (fun x_3 ex_3 => ?_)
  obtain rfl : x_3 = mx d1 d2 := ex_3
  refine lv_iconst (v := 1) hx hb d_A_mixtureOf_24 (by decide) ?_
  refine xr_call (va_runI (As := [.long (g1 + g2), .int (mx d1 d2), .int 1]) (rest := [.ref q_1]) ⟨hx, hb, hml, hown, htw⟩ (c_B_init (ad := ad_2) hw (100 + n) (110 + n) (120 + n) (130 + n) (g1 + g2) (mx d1 d2) true (by omega) xu_eq (Nat.le_trans hB hS.1) q_1 aq_1) (cwI 3 htw (gC u_83) rfl rfl rfl (htw _ u_4) (htw _ u_81) (htw _ u_82) rfl hd_B_init.2 ⟨Nat.le_of_ble_eq_true rfl, Nat.le_of_ble_eq_true rfl⟩) ⟨xP_blind, xP_of hK hN⟩ rfl rfl hl.1 rfl (lv_room (Nat.le_of_ble_eq_true rfl)) d_A_mixtureOf_25 ⟨by decide, by decide⟩) hS (fun v H_ locs hp hS => ?_)
  obtain ⟨rfl, ad_4, w_4, hw, y4_0, y4_1, y4_2, y4_3, z4, hfr⟩ := hp
  generalize H_ = H at hw hS ⊢
  have hfw_4 : ∀ u, u ≠ 100 + n → u ≠ 110 + n → u ≠ 120 + n → u ≠ 130 + n → w_4 u = (xu w (100 + n) (.inr (1, [.int 0, .int 0, .null, .null, .null, .long 0, .int 0, .int 0, .int 0]))) u := fun u h0 h1 h2 h3 => (hfr u (by simp only [List.mem_cons, List.not_mem_nil, or_false, not_or]; exact ⟨h0, h1, h2, h3⟩)).1
  have hfa_4 : ∀ u, u ≠ 100 + n → u ≠ 110 + n → u ≠ 120 + n → u ≠ 130 + n → ad_4 u = ad_2 u := fun u h0 h1 h2 h3 => (hfr u (by simp only [List.mem_cons, List.not_mem_nil, or_false, not_or]; exact ⟨h0, h1, h2, h3⟩)).2
  refine W.eq (g2 := F0 m 28 ls [.ref q_1]) rfl ?_
  refine lv_astore_n (lv' := [(2, .ref q_1), (0, .ref a1), (1, .ref a2)]) hx hb d_A_mixtureOf_28 rfl hl (by decide) rfl (fun ls hl => ?_)
  refine lv_iconst (v := 0) hx hb d_A_mixtureOf_29 (by decide) ?_
  refine lv_istore_n (lv' := [(3, .int 0), (2, .ref q_1), (0, .ref a1), (1, .ref a2)]) hx hb d_A_mixtureOf_30 rfl hl (by decide) rfl (fun ls hl => ?_)
  refine lv_iload_n hx hb d_A_mixtureOf_31 rfl (lv_at hl 0 rfl) ?_
  refine lv_iconst (v := 4) hx hb d_A_mixtureOf_32 (by decide) ?_
  refine lv_icmp_ge (tgt := 61) hx hb d_A_mixtureOf_33 (by decide) (fun c_5 => absurd c_5 (by decide)) (fun c_5 => ?_)
  refine lv_aload_n hx hb d_A_mixtureOf_36 rfl (lv_at hl 1 rfl) ?_
  refine xr_get (ci := 1) (v := .ref (ad_4 (110 + n))) (C := R_B) (T := T_B) (N := 9) hx hb htw in_B hown hK hw (100 + n) y4_0 ((z4).trans aq_1) rfl 2 (by decide) (htw _ u_94) (fun _ h9 => h9) rfl d_A_mixtureOf_37 ?_
  refine lv_iload_n hx hb d_A_mixtureOf_40 rfl (lv_at hl 0 rfl) ?_
  refine lv_aload_n hx hb d_A_mixtureOf_41 rfl (lv_at hl 2 rfl) ?_
  refine xr_get (ci := 1) (v := .ref p1) (C := R_B) (T := T_B) (N := 9) hx hb htw in_B hown hK hw (100 + i) ((hfw_4 (100 + i) (by omega) (by omega) (by omega) (by omega)).trans ((xu_ne (by omega)).trans (o1))) ((hfa_4 (100 + i) (by omega) (by omega) (by omega) (by omega)).trans ((show ad_2 (100 + i) = ad (100 + i) by rw [eq_1]; exact xa_ne (by omega)).trans ha1)) rfl 2 (by decide) (htw _ u_94) (fun _ h9 => h9) rfl d_A_mixtureOf_42 ?_
  refine lv_iload_n hx hb d_A_mixtureOf_45 rfl (lv_at hl 0 rfl) ?_
  refine xr_lald (i := 0) hx hb hK hw (110 + i) 1 ((hfw_4 (110 + i) (by omega) (by omega) (by omega) (by omega)).trans ((xu_ne (by omega)).trans (n1))) ((hfa_4 (110 + i) (by omega) (by omega) (by omega) (by omega)).trans ((show ad_2 (110 + i) = ad (110 + i) by rw [eq_1]; exact xa_ne (by omega)).trans hp1)) rfl (by unfold vp_in; decide) d_A_mixtureOf_46 ?_
  refine lv_topl (fun x_6 ex_6 => ?_)
  obtain rfl : x_6 = A1 0 := ex_6.trans ((congrArg A1 ((rfl : (0 : Int32).toNatClampNeg = 0))).trans rfl)
  refine lv_aload_n hx hb d_A_mixtureOf_47 rfl (lv_at hl 3 rfl) ?_
  refine xr_get (ci := 1) (v := .ref p2) (C := R_B) (T := T_B) (N := 9) hx hb htw in_B hown hK hw (100 + j) ((hfw_4 (100 + j) (by omega) (by omega) (by omega) (by omega)).trans ((xu_ne (by omega)).trans (o2))) ((hfa_4 (100 + j) (by omega) (by omega) (by omega) (by omega)).trans ((show ad_2 (100 + j) = ad (100 + j) by rw [eq_1]; exact xa_ne (by omega)).trans ha2)) rfl 2 (by decide) (htw _ u_94) (fun _ h9 => h9) rfl d_A_mixtureOf_48 ?_
  refine lv_iload_n hx hb d_A_mixtureOf_51 rfl (lv_at hl 0 rfl) ?_
  refine xr_lald (i := 0) hx hb hK hw (110 + j) 1 ((hfw_4 (110 + j) (by omega) (by omega) (by omega) (by omega)).trans ((xu_ne (by omega)).trans (n2))) ((hfa_4 (110 + j) (by omega) (by omega) (by omega) (by omega)).trans ((show ad_2 (110 + j) = ad (110 + j) by rw [eq_1]; exact xa_ne (by omega)).trans hp2)) rfl (by unfold vp_in; decide) d_A_mixtureOf_52 ?_
  refine lv_topl (fun x_7 ex_7 => ?_)
  obtain rfl : x_7 = A2 0 := ex_7.trans ((congrArg A2 ((rfl : (0 : Int32).toNatClampNeg = 0))).trans rfl)
  refine lv_ladd hx hb d_A_mixtureOf_53 ?_
  refine xr_last (i := 0) hx hb hK hw hS (110 + n) 1 y4_1 rfl rfl (by unfold vp_in; decide) d_A_mixtureOf_54 (fun H locs hw hS => ?_)
  have hw : xw D vwCl B ad_4 (xu w_4 (110 + n) (.inl (K 1, 4, .inr (.inl (vp_updL (fun _ => 0) 0 ((A1 0) + (A2 0))))))) H := hw
  refine lv_iinc (v := 1) (lv' := [(3, .int 1), (2, .ref q_1), (0, .ref a1), (1, .ref a2)]) hx hb d_A_mixtureOf_55 hl (k := 0) rfl (by decide) (by decide) rfl (fun ls hl => ?_)
  refine lv_goto (tgt := 31) hx hb d_A_mixtureOf_58 (by decide) ?_
  refine lv_iload_n hx hb d_A_mixtureOf_31 rfl (lv_at hl 0 rfl) ?_
  refine lv_iconst (v := 4) hx hb d_A_mixtureOf_32 (by decide) ?_
  refine lv_icmp_ge (tgt := 61) hx hb d_A_mixtureOf_33 (by decide) (fun c_8 => absurd c_8 (by decide)) (fun c_8 => ?_)
  refine lv_aload_n hx hb d_A_mixtureOf_36 rfl (lv_at hl 1 rfl) ?_
  refine xr_get (ci := 1) (v := .ref (ad_4 (110 + n))) (C := R_B) (T := T_B) (N := 9) hx hb htw in_B hown hK hw (100 + n) ((xu_ne (by omega)).trans (y4_0)) ((z4).trans aq_1) rfl 2 (by decide) (htw _ u_94) (fun _ h9 => h9) rfl d_A_mixtureOf_37 ?_
  refine lv_iload_n hx hb d_A_mixtureOf_40 rfl (lv_at hl 0 rfl) ?_
  refine lv_aload_n hx hb d_A_mixtureOf_41 rfl (lv_at hl 2 rfl) ?_
  refine xr_get (ci := 1) (v := .ref p1) (C := R_B) (T := T_B) (N := 9) hx hb htw in_B hown hK hw (100 + i) ((xu_ne (by omega)).trans ((hfw_4 (100 + i) (by omega) (by omega) (by omega) (by omega)).trans ((xu_ne (by omega)).trans (o1)))) ((hfa_4 (100 + i) (by omega) (by omega) (by omega) (by omega)).trans ((show ad_2 (100 + i) = ad (100 + i) by rw [eq_1]; exact xa_ne (by omega)).trans ha1)) rfl 2 (by decide) (htw _ u_94) (fun _ h9 => h9) rfl d_A_mixtureOf_42 ?_
  refine lv_iload_n hx hb d_A_mixtureOf_45 rfl (lv_at hl 0 rfl) ?_
  refine xr_lald (i := 1) hx hb hK hw (110 + i) 1 ((xu_ne (by omega)).trans ((hfw_4 (110 + i) (by omega) (by omega) (by omega) (by omega)).trans ((xu_ne (by omega)).trans (n1)))) ((hfa_4 (110 + i) (by omega) (by omega) (by omega) (by omega)).trans ((show ad_2 (110 + i) = ad (110 + i) by rw [eq_1]; exact xa_ne (by omega)).trans hp1)) rfl (by unfold vp_in; decide) d_A_mixtureOf_46 ?_
  refine lv_topl (fun x_9 ex_9 => ?_)
  obtain rfl : x_9 = A1 1 := ex_9.trans ((congrArg A1 ((rfl : (1 : Int32).toNatClampNeg = 1))).trans rfl)
  refine lv_aload_n hx hb d_A_mixtureOf_47 rfl (lv_at hl 3 rfl) ?_
  refine xr_get (ci := 1) (v := .ref p2) (C := R_B) (T := T_B) (N := 9) hx hb htw in_B hown hK hw (100 + j) ((xu_ne (by omega)).trans ((hfw_4 (100 + j) (by omega) (by omega) (by omega) (by omega)).trans ((xu_ne (by omega)).trans (o2)))) ((hfa_4 (100 + j) (by omega) (by omega) (by omega) (by omega)).trans ((show ad_2 (100 + j) = ad (100 + j) by rw [eq_1]; exact xa_ne (by omega)).trans ha2)) rfl 2 (by decide) (htw _ u_94) (fun _ h9 => h9) rfl d_A_mixtureOf_48 ?_
  refine lv_iload_n hx hb d_A_mixtureOf_51 rfl (lv_at hl 0 rfl) ?_
  refine xr_lald (i := 1) hx hb hK hw (110 + j) 1 ((xu_ne (by omega)).trans ((hfw_4 (110 + j) (by omega) (by omega) (by omega) (by omega)).trans ((xu_ne (by omega)).trans (n2)))) ((hfa_4 (110 + j) (by omega) (by omega) (by omega) (by omega)).trans ((show ad_2 (110 + j) = ad (110 + j) by rw [eq_1]; exact xa_ne (by omega)).trans hp2)) rfl (by unfold vp_in; decide) d_A_mixtureOf_52 ?_
  refine lv_topl (fun x_10 ex_10 => ?_)
  obtain rfl : x_10 = A2 1 := ex_10.trans ((congrArg A2 ((rfl : (1 : Int32).toNatClampNeg = 1))).trans rfl)
  refine lv_ladd hx hb d_A_mixtureOf_53 ?_
  refine xr_last (i := 1) hx hb hK hw hS (110 + n) 1 xu_eq rfl rfl (by unfold vp_in; decide) d_A_mixtureOf_54 (fun H locs hw hS => ?_)
  have hw : xw D vwCl B ad_4 (xu (xu w_4 (110 + n) (.inl (K 1, 4, .inr (.inl (vp_updL (fun _ => 0) 0 ((A1 0) + (A2 0))))))) (110 + n) (.inl (K 1, 4, .inr (.inl (vp_updL (vp_updL (fun _ => 0) 0 ((A1 0) + (A2 0))) 1 ((A1 1) + (A2 1))))))) H := hw
  refine lv_iinc (v := 2) (lv' := [(3, .int 2), (2, .ref q_1), (0, .ref a1), (1, .ref a2)]) hx hb d_A_mixtureOf_55 hl (k := 0) rfl (by decide) (by decide) rfl (fun ls hl => ?_)
  refine lv_goto (tgt := 31) hx hb d_A_mixtureOf_58 (by decide) ?_
  refine lv_iload_n hx hb d_A_mixtureOf_31 rfl (lv_at hl 0 rfl) ?_
  refine lv_iconst (v := 4) hx hb d_A_mixtureOf_32 (by decide) ?_
  refine lv_icmp_ge (tgt := 61) hx hb d_A_mixtureOf_33 (by decide) (fun c_11 => absurd c_11 (by decide)) (fun c_11 => ?_)
  refine lv_aload_n hx hb d_A_mixtureOf_36 rfl (lv_at hl 1 rfl) ?_
  refine xr_get (ci := 1) (v := .ref (ad_4 (110 + n))) (C := R_B) (T := T_B) (N := 9) hx hb htw in_B hown hK hw (100 + n) ((xu_ne (by omega)).trans ((xu_ne (by omega)).trans (y4_0))) ((z4).trans aq_1) rfl 2 (by decide) (htw _ u_94) (fun _ h9 => h9) rfl d_A_mixtureOf_37 ?_
  refine lv_iload_n hx hb d_A_mixtureOf_40 rfl (lv_at hl 0 rfl) ?_
  refine lv_aload_n hx hb d_A_mixtureOf_41 rfl (lv_at hl 2 rfl) ?_
  refine xr_get (ci := 1) (v := .ref p1) (C := R_B) (T := T_B) (N := 9) hx hb htw in_B hown hK hw (100 + i) ((xu_ne (by omega)).trans ((xu_ne (by omega)).trans ((hfw_4 (100 + i) (by omega) (by omega) (by omega) (by omega)).trans ((xu_ne (by omega)).trans (o1))))) ((hfa_4 (100 + i) (by omega) (by omega) (by omega) (by omega)).trans ((show ad_2 (100 + i) = ad (100 + i) by rw [eq_1]; exact xa_ne (by omega)).trans ha1)) rfl 2 (by decide) (htw _ u_94) (fun _ h9 => h9) rfl d_A_mixtureOf_42 ?_
  refine lv_iload_n hx hb d_A_mixtureOf_45 rfl (lv_at hl 0 rfl) ?_
  refine xr_lald (i := 2) hx hb hK hw (110 + i) 1 ((xu_ne (by omega)).trans ((xu_ne (by omega)).trans ((hfw_4 (110 + i) (by omega) (by omega) (by omega) (by omega)).trans ((xu_ne (by omega)).trans (n1))))) ((hfa_4 (110 + i) (by omega) (by omega) (by omega) (by omega)).trans ((show ad_2 (110 + i) = ad (110 + i) by rw [eq_1]; exact xa_ne (by omega)).trans hp1)) rfl (by unfold vp_in; decide) d_A_mixtureOf_46 ?_
  refine lv_topl (fun x_12 ex_12 => ?_)
  obtain rfl : x_12 = A1 2 := ex_12.trans ((congrArg A1 ((rfl : (2 : Int32).toNatClampNeg = 2))).trans rfl)
  refine lv_aload_n hx hb d_A_mixtureOf_47 rfl (lv_at hl 3 rfl) ?_
  refine xr_get (ci := 1) (v := .ref p2) (C := R_B) (T := T_B) (N := 9) hx hb htw in_B hown hK hw (100 + j) ((xu_ne (by omega)).trans ((xu_ne (by omega)).trans ((hfw_4 (100 + j) (by omega) (by omega) (by omega) (by omega)).trans ((xu_ne (by omega)).trans (o2))))) ((hfa_4 (100 + j) (by omega) (by omega) (by omega) (by omega)).trans ((show ad_2 (100 + j) = ad (100 + j) by rw [eq_1]; exact xa_ne (by omega)).trans ha2)) rfl 2 (by decide) (htw _ u_94) (fun _ h9 => h9) rfl d_A_mixtureOf_48 ?_
  refine lv_iload_n hx hb d_A_mixtureOf_51 rfl (lv_at hl 0 rfl) ?_
  refine xr_lald (i := 2) hx hb hK hw (110 + j) 1 ((xu_ne (by omega)).trans ((xu_ne (by omega)).trans ((hfw_4 (110 + j) (by omega) (by omega) (by omega) (by omega)).trans ((xu_ne (by omega)).trans (n2))))) ((hfa_4 (110 + j) (by omega) (by omega) (by omega) (by omega)).trans ((show ad_2 (110 + j) = ad (110 + j) by rw [eq_1]; exact xa_ne (by omega)).trans hp2)) rfl (by unfold vp_in; decide) d_A_mixtureOf_52 ?_
  refine lv_topl (fun x_13 ex_13 => ?_)
  obtain rfl : x_13 = A2 2 := ex_13.trans ((congrArg A2 ((rfl : (2 : Int32).toNatClampNeg = 2))).trans rfl)
  refine lv_ladd hx hb d_A_mixtureOf_53 ?_
  refine xr_last (i := 2) hx hb hK hw hS (110 + n) 1 xu_eq rfl rfl (by unfold vp_in; decide) d_A_mixtureOf_54 (fun H locs hw hS => ?_)
  have hw : xw D vwCl B ad_4 (xu (xu (xu w_4 (110 + n) (.inl (K 1, 4, .inr (.inl (vp_updL (fun _ => 0) 0 ((A1 0) + (A2 0))))))) (110 + n) (.inl (K 1, 4, .inr (.inl (vp_updL (vp_updL (fun _ => 0) 0 ((A1 0) + (A2 0))) 1 ((A1 1) + (A2 1))))))) (110 + n) (.inl (K 1, 4, .inr (.inl (vp_updL (vp_updL (vp_updL (fun _ => 0) 0 ((A1 0) + (A2 0))) 1 ((A1 1) + (A2 1))) 2 ((A1 2) + (A2 2))))))) H := hw
  refine lv_iinc (v := 3) (lv' := [(3, .int 3), (2, .ref q_1), (0, .ref a1), (1, .ref a2)]) hx hb d_A_mixtureOf_55 hl (k := 0) rfl (by decide) (by decide) rfl (fun ls hl => ?_)
  refine lv_goto (tgt := 31) hx hb d_A_mixtureOf_58 (by decide) ?_
  refine lv_iload_n hx hb d_A_mixtureOf_31 rfl (lv_at hl 0 rfl) ?_
  refine lv_iconst (v := 4) hx hb d_A_mixtureOf_32 (by decide) ?_
  refine lv_icmp_ge (tgt := 61) hx hb d_A_mixtureOf_33 (by decide) (fun c_14 => absurd c_14 (by decide)) (fun c_14 => ?_)
  refine lv_aload_n hx hb d_A_mixtureOf_36 rfl (lv_at hl 1 rfl) ?_
  refine xr_get (ci := 1) (v := .ref (ad_4 (110 + n))) (C := R_B) (T := T_B) (N := 9) hx hb htw in_B hown hK hw (100 + n) ((xu_ne (by omega)).trans ((xu_ne (by omega)).trans ((xu_ne (by omega)).trans (y4_0)))) ((z4).trans aq_1) rfl 2 (by decide) (htw _ u_94) (fun _ h9 => h9) rfl d_A_mixtureOf_37 ?_
  refine lv_iload_n hx hb d_A_mixtureOf_40 rfl (lv_at hl 0 rfl) ?_
  refine lv_aload_n hx hb d_A_mixtureOf_41 rfl (lv_at hl 2 rfl) ?_
  refine xr_get (ci := 1) (v := .ref p1) (C := R_B) (T := T_B) (N := 9) hx hb htw in_B hown hK hw (100 + i) ((xu_ne (by omega)).trans ((xu_ne (by omega)).trans ((xu_ne (by omega)).trans ((hfw_4 (100 + i) (by omega) (by omega) (by omega) (by omega)).trans ((xu_ne (by omega)).trans (o1)))))) ((hfa_4 (100 + i) (by omega) (by omega) (by omega) (by omega)).trans ((show ad_2 (100 + i) = ad (100 + i) by rw [eq_1]; exact xa_ne (by omega)).trans ha1)) rfl 2 (by decide) (htw _ u_94) (fun _ h9 => h9) rfl d_A_mixtureOf_42 ?_
  refine lv_iload_n hx hb d_A_mixtureOf_45 rfl (lv_at hl 0 rfl) ?_
  refine xr_lald (i := 3) hx hb hK hw (110 + i) 1 ((xu_ne (by omega)).trans ((xu_ne (by omega)).trans ((xu_ne (by omega)).trans ((hfw_4 (110 + i) (by omega) (by omega) (by omega) (by omega)).trans ((xu_ne (by omega)).trans (n1)))))) ((hfa_4 (110 + i) (by omega) (by omega) (by omega) (by omega)).trans ((show ad_2 (110 + i) = ad (110 + i) by rw [eq_1]; exact xa_ne (by omega)).trans hp1)) rfl (by unfold vp_in; decide) d_A_mixtureOf_46 ?_
  refine lv_topl (fun x_15 ex_15 => ?_)
  obtain rfl : x_15 = A1 3 := ex_15.trans ((congrArg A1 ((rfl : (3 : Int32).toNatClampNeg = 3))).trans rfl)
  refine lv_aload_n hx hb d_A_mixtureOf_47 rfl (lv_at hl 3 rfl) ?_
  refine xr_get (ci := 1) (v := .ref p2) (C := R_B) (T := T_B) (N := 9) hx hb htw in_B hown hK hw (100 + j) ((xu_ne (by omega)).trans ((xu_ne (by omega)).trans ((xu_ne (by omega)).trans ((hfw_4 (100 + j) (by omega) (by omega) (by omega) (by omega)).trans ((xu_ne (by omega)).trans (o2)))))) ((hfa_4 (100 + j) (by omega) (by omega) (by omega) (by omega)).trans ((show ad_2 (100 + j) = ad (100 + j) by rw [eq_1]; exact xa_ne (by omega)).trans ha2)) rfl 2 (by decide) (htw _ u_94) (fun _ h9 => h9) rfl d_A_mixtureOf_48 ?_
  refine lv_iload_n hx hb d_A_mixtureOf_51 rfl (lv_at hl 0 rfl) ?_
  refine xr_lald (i := 3) hx hb hK hw (110 + j) 1 ((xu_ne (by omega)).trans ((xu_ne (by omega)).trans ((xu_ne (by omega)).trans ((hfw_4 (110 + j) (by omega) (by omega) (by omega) (by omega)).trans ((xu_ne (by omega)).trans (n2)))))) ((hfa_4 (110 + j) (by omega) (by omega) (by omega) (by omega)).trans ((show ad_2 (110 + j) = ad (110 + j) by rw [eq_1]; exact xa_ne (by omega)).trans hp2)) rfl (by unfold vp_in; decide) d_A_mixtureOf_52 ?_
  refine lv_topl (fun x_16 ex_16 => ?_)
  obtain rfl : x_16 = A2 3 := ex_16.trans ((congrArg A2 ((rfl : (3 : Int32).toNatClampNeg = 3))).trans rfl)
  refine lv_ladd hx hb d_A_mixtureOf_53 ?_
  refine xr_last (i := 3) hx hb hK hw hS (110 + n) 1 xu_eq rfl rfl (by unfold vp_in; decide) d_A_mixtureOf_54 (fun H locs hw hS => ?_)
  have hw : xw D vwCl B ad_4 (xu (xu (xu (xu w_4 (110 + n) (.inl (K 1, 4, .inr (.inl (vp_updL (fun _ => 0) 0 ((A1 0) + (A2 0))))))) (110 + n) (.inl (K 1, 4, .inr (.inl (vp_updL (vp_updL (fun _ => 0) 0 ((A1 0) + (A2 0))) 1 ((A1 1) + (A2 1))))))) (110 + n) (.inl (K 1, 4, .inr (.inl (vp_updL (vp_updL (vp_updL (fun _ => 0) 0 ((A1 0) + (A2 0))) 1 ((A1 1) + (A2 1))) 2 ((A1 2) + (A2 2))))))) (110 + n) (.inl (K 1, 4, .inr (.inl (vp_updL (vp_updL (vp_updL (vp_updL (fun _ => 0) 0 ((A1 0) + (A2 0))) 1 ((A1 1) + (A2 1))) 2 ((A1 2) + (A2 2))) 3 ((A1 3) + (A2 3))))))) H := hw
  refine lv_iinc (v := 4) (lv' := [(3, .int 4), (2, .ref q_1), (0, .ref a1), (1, .ref a2)]) hx hb d_A_mixtureOf_55 hl (k := 0) rfl (by decide) (by decide) rfl (fun ls hl => ?_)
  refine lv_goto (tgt := 31) hx hb d_A_mixtureOf_58 (by decide) ?_
  refine lv_iload_n hx hb d_A_mixtureOf_31 rfl (lv_at hl 0 rfl) ?_
  refine lv_iconst (v := 4) hx hb d_A_mixtureOf_32 (by decide) ?_
  refine lv_icmp_ge (tgt := 61) hx hb d_A_mixtureOf_33 (by decide) (fun c_17 => ?_) (fun c_17 => absurd (by decide) c_17)
  refine lv_aload_n hx hb d_A_mixtureOf_61 rfl (lv_at hl 1 rfl) ?_
  refine lv_aload_n hx hb d_A_mixtureOf_62 rfl (lv_at hl 2 rfl) ?_
  refine xr_get (ci := 1) (v := .int (bI b1)) (C := R_B) (T := T_B) (N := 9) hx hb htw in_B hown hK hw (100 + i) ((xu_ne (by omega)).trans ((xu_ne (by omega)).trans ((xu_ne (by omega)).trans ((xu_ne (by omega)).trans ((hfw_4 (100 + i) (by omega) (by omega) (by omega) (by omega)).trans ((xu_ne (by omega)).trans (o1))))))) ((hfa_4 (100 + i) (by omega) (by omega) (by omega) (by omega)).trans ((show ad_2 (100 + i) = ad (100 + i) by rw [eq_1]; exact xa_ne (by omega)).trans ha1)) rfl 6 (by decide) (htw _ u_101) (fun _ h9 => h9) rfl d_A_mixtureOf_63 ?_
  refine lv_if_eq (tgt := 80) hx hb d_A_mixtureOf_66 (by decide) (fun c_18 => ?_) (fun c_18 => ?_)
  · have c_18 : b1 = false := bI_f.mp c_18
    refine lv_iconst (v := 0) hx hb d_A_mixtureOf_80 (by decide) ?_
    refine xr_put (ci := 1) (v := .int 0) (ty := .boolean) (C := R_B) (T := T_B) (N := 9) hx hb htw in_B ty_B tk_B nm_B hown hK hw hS (100 + n) ((xu_ne (by omega)).trans ((xu_ne (by omega)).trans ((xu_ne (by omega)).trans ((xu_ne (by omega)).trans (y4_0))))) ((z4).trans aq_1) rfl 6 (by decide) (htw _ u_101) (fun _ h9 => h9) rfl (by decide +kernel) (by decide) (by decide) (Nat.le_of_ble_eq_true rfl) d_A_mixtureOf_81 (fun H locs hw hS => ?_)
    have hw : xw D vwCl B ad_4 (xu (xu (xu (xu (xu w_4 (110 + n) (.inl (K 1, 4, .inr (.inl (vp_updL (fun _ => 0) 0 ((A1 0) + (A2 0))))))) (110 + n) (.inl (K 1, 4, .inr (.inl (vp_updL (vp_updL (fun _ => 0) 0 ((A1 0) + (A2 0))) 1 ((A1 1) + (A2 1))))))) (110 + n) (.inl (K 1, 4, .inr (.inl (vp_updL (vp_updL (vp_updL (fun _ => 0) 0 ((A1 0) + (A2 0))) 1 ((A1 1) + (A2 1))) 2 ((A1 2) + (A2 2))))))) (110 + n) (.inl (K 1, 4, .inr (.inl (vp_updL (vp_updL (vp_updL (vp_updL (fun _ => 0) 0 ((A1 0) + (A2 0))) 1 ((A1 1) + (A2 1))) 2 ((A1 2) + (A2 2))) 3 ((A1 3) + (A2 3))))))) (100 + n) (.inr (1, [.int (mx d1 d2), .int 1, .ref (ad_4 (110 + n)), .ref (ad_4 (120 + n)), .ref (ad_4 (130 + n)), .long (g1 + g2), .int 0, .int 0, .int 0]))) H := hw
    refine lv_aload_n hx hb d_A_mixtureOf_84 rfl (lv_at hl 1 rfl) ?_
    have hz : ∀ u, u ∉ ([100 + n, 110 + n, 120 + n, 130 + n] : List Nat) → u ≠ 100 + n ∧ u ≠ 110 + n ∧ u ≠ 120 + n ∧ u ≠ 130 + n := fun u hu => by simp only [List.mem_cons, List.not_mem_nil, or_false, not_or] at hu; omega
    exact W.aret (v := .ref q_1) hx hb hr (Or.inl ⟨_, rfl⟩) (Or.inr ⟨_, rfl⟩) (fun t ht _ => ⟨_, rfl, ⟨ad_4, _, by rw [show ad_4 (100 + n) = q_1 from (z4).trans aq_1], by rw [ht]; exact hw, by simp (disch := omega) only [xu_eq, xu_ne, xa_eq, xa_ne, eq_1, hfw_4, hfa_4, z4, y4_0, y4_1, y4_2, y4_3, c_18, Bool.false_and, Bool.true_and, Bool.and_false, Bool.and_true, bI_ff, bI_tt], by simp (disch := omega) only [xu_eq, xu_ne, xa_eq, xa_ne, eq_1, hfw_4, hfa_4, z4, y4_0, y4_1, y4_2, y4_3, c_18, Bool.false_and, Bool.true_and, Bool.and_false, Bool.and_true, bI_ff, bI_tt], by simp (disch := omega) only [xu_eq, xu_ne, xa_eq, xa_ne, eq_1, hfw_4, hfa_4, z4, y4_0, y4_1, y4_2, y4_3, c_18, Bool.false_and, Bool.true_and, Bool.and_false, Bool.and_true, bI_ff, bI_tt], by simp (disch := omega) only [xu_eq, xu_ne, xa_eq, xa_ne, eq_1, hfw_4, hfa_4, z4, y4_0, y4_1, y4_2, y4_3, c_18, Bool.false_and, Bool.true_and, Bool.and_false, Bool.and_true, bI_ff, bI_tt], fun u hu => by have hq := hz u hu; exact ⟨by simp (disch := omega) only [xu_eq, xu_ne, xa_eq, xa_ne, eq_1, hfw_4, hfa_4, z4, y4_0, y4_1, y4_2, y4_3, c_18, Bool.false_and, Bool.true_and, Bool.and_false, Bool.and_true, bI_ff, bI_tt], by simp (disch := omega) only [xu_eq, xu_ne, xa_eq, xa_ne, eq_1, hfw_4, hfa_4, z4, y4_0, y4_1, y4_2, y4_3, c_18, Bool.false_and, Bool.true_and, Bool.and_false, Bool.and_true, bI_ff, bI_tt]⟩⟩, hS.F ht⟩) hS.2.2 d_A_mixtureOf_85
  · have c_18 : b1 = true := bI_t.mp c_18
    refine lv_aload_n hx hb d_A_mixtureOf_69 rfl (lv_at hl 3 rfl) ?_
    refine xr_get (ci := 1) (v := .int (bI b2)) (C := R_B) (T := T_B) (N := 9) hx hb htw in_B hown hK hw (100 + j) ((xu_ne (by omega)).trans ((xu_ne (by omega)).trans ((xu_ne (by omega)).trans ((xu_ne (by omega)).trans ((hfw_4 (100 + j) (by omega) (by omega) (by omega) (by omega)).trans ((xu_ne (by omega)).trans (o2))))))) ((hfa_4 (100 + j) (by omega) (by omega) (by omega) (by omega)).trans ((show ad_2 (100 + j) = ad (100 + j) by rw [eq_1]; exact xa_ne (by omega)).trans ha2)) rfl 6 (by decide) (htw _ u_101) (fun _ h9 => h9) rfl d_A_mixtureOf_70 ?_
    refine lv_if_eq (tgt := 80) hx hb d_A_mixtureOf_73 (by decide) (fun c_19 => ?_) (fun c_19 => ?_)
    · have c_19 : b2 = false := bI_f.mp c_19
      refine lv_iconst (v := 0) hx hb d_A_mixtureOf_80 (by decide) ?_
      refine xr_put (ci := 1) (v := .int 0) (ty := .boolean) (C := R_B) (T := T_B) (N := 9) hx hb htw in_B ty_B tk_B nm_B hown hK hw hS (100 + n) ((xu_ne (by omega)).trans ((xu_ne (by omega)).trans ((xu_ne (by omega)).trans ((xu_ne (by omega)).trans (y4_0))))) ((z4).trans aq_1) rfl 6 (by decide) (htw _ u_101) (fun _ h9 => h9) rfl (by decide +kernel) (by decide) (by decide) (Nat.le_of_ble_eq_true rfl) d_A_mixtureOf_81 (fun H locs hw hS => ?_)
      have hw : xw D vwCl B ad_4 (xu (xu (xu (xu (xu w_4 (110 + n) (.inl (K 1, 4, .inr (.inl (vp_updL (fun _ => 0) 0 ((A1 0) + (A2 0))))))) (110 + n) (.inl (K 1, 4, .inr (.inl (vp_updL (vp_updL (fun _ => 0) 0 ((A1 0) + (A2 0))) 1 ((A1 1) + (A2 1))))))) (110 + n) (.inl (K 1, 4, .inr (.inl (vp_updL (vp_updL (vp_updL (fun _ => 0) 0 ((A1 0) + (A2 0))) 1 ((A1 1) + (A2 1))) 2 ((A1 2) + (A2 2))))))) (110 + n) (.inl (K 1, 4, .inr (.inl (vp_updL (vp_updL (vp_updL (vp_updL (fun _ => 0) 0 ((A1 0) + (A2 0))) 1 ((A1 1) + (A2 1))) 2 ((A1 2) + (A2 2))) 3 ((A1 3) + (A2 3))))))) (100 + n) (.inr (1, [.int (mx d1 d2), .int 1, .ref (ad_4 (110 + n)), .ref (ad_4 (120 + n)), .ref (ad_4 (130 + n)), .long (g1 + g2), .int 0, .int 0, .int 0]))) H := hw
      refine lv_aload_n hx hb d_A_mixtureOf_84 rfl (lv_at hl 1 rfl) ?_
      have hz : ∀ u, u ∉ ([100 + n, 110 + n, 120 + n, 130 + n] : List Nat) → u ≠ 100 + n ∧ u ≠ 110 + n ∧ u ≠ 120 + n ∧ u ≠ 130 + n := fun u hu => by simp only [List.mem_cons, List.not_mem_nil, or_false, not_or] at hu; omega
      exact W.aret (v := .ref q_1) hx hb hr (Or.inl ⟨_, rfl⟩) (Or.inr ⟨_, rfl⟩) (fun t ht _ => ⟨_, rfl, ⟨ad_4, _, by rw [show ad_4 (100 + n) = q_1 from (z4).trans aq_1], by rw [ht]; exact hw, by simp (disch := omega) only [xu_eq, xu_ne, xa_eq, xa_ne, eq_1, hfw_4, hfa_4, z4, y4_0, y4_1, y4_2, y4_3, c_18, c_19, Bool.false_and, Bool.true_and, Bool.and_false, Bool.and_true, bI_ff, bI_tt], by simp (disch := omega) only [xu_eq, xu_ne, xa_eq, xa_ne, eq_1, hfw_4, hfa_4, z4, y4_0, y4_1, y4_2, y4_3, c_18, c_19, Bool.false_and, Bool.true_and, Bool.and_false, Bool.and_true, bI_ff, bI_tt], by simp (disch := omega) only [xu_eq, xu_ne, xa_eq, xa_ne, eq_1, hfw_4, hfa_4, z4, y4_0, y4_1, y4_2, y4_3, c_18, c_19, Bool.false_and, Bool.true_and, Bool.and_false, Bool.and_true, bI_ff, bI_tt], by simp (disch := omega) only [xu_eq, xu_ne, xa_eq, xa_ne, eq_1, hfw_4, hfa_4, z4, y4_0, y4_1, y4_2, y4_3, c_18, c_19, Bool.false_and, Bool.true_and, Bool.and_false, Bool.and_true, bI_ff, bI_tt], fun u hu => by have hq := hz u hu; exact ⟨by simp (disch := omega) only [xu_eq, xu_ne, xa_eq, xa_ne, eq_1, hfw_4, hfa_4, z4, y4_0, y4_1, y4_2, y4_3, c_18, c_19, Bool.false_and, Bool.true_and, Bool.and_false, Bool.and_true, bI_ff, bI_tt], by simp (disch := omega) only [xu_eq, xu_ne, xa_eq, xa_ne, eq_1, hfw_4, hfa_4, z4, y4_0, y4_1, y4_2, y4_3, c_18, c_19, Bool.false_and, Bool.true_and, Bool.and_false, Bool.and_true, bI_ff, bI_tt]⟩⟩, hS.F ht⟩) hS.2.2 d_A_mixtureOf_85
    · have c_19 : b2 = true := bI_t.mp c_19
      refine lv_iconst (v := 1) hx hb d_A_mixtureOf_76 (by decide) ?_
      refine lv_goto (tgt := 81) hx hb d_A_mixtureOf_77 (by decide) ?_
      refine xr_put (ci := 1) (v := .int 1) (ty := .boolean) (C := R_B) (T := T_B) (N := 9) hx hb htw in_B ty_B tk_B nm_B hown hK hw hS (100 + n) ((xu_ne (by omega)).trans ((xu_ne (by omega)).trans ((xu_ne (by omega)).trans ((xu_ne (by omega)).trans (y4_0))))) ((z4).trans aq_1) rfl 6 (by decide) (htw _ u_101) (fun _ h9 => h9) rfl (by decide +kernel) (by decide) (by decide) (Nat.le_of_ble_eq_true rfl) d_A_mixtureOf_81 (fun H locs hw hS => ?_)
      have hw : xw D vwCl B ad_4 (xu (xu (xu (xu (xu w_4 (110 + n) (.inl (K 1, 4, .inr (.inl (vp_updL (fun _ => 0) 0 ((A1 0) + (A2 0))))))) (110 + n) (.inl (K 1, 4, .inr (.inl (vp_updL (vp_updL (fun _ => 0) 0 ((A1 0) + (A2 0))) 1 ((A1 1) + (A2 1))))))) (110 + n) (.inl (K 1, 4, .inr (.inl (vp_updL (vp_updL (vp_updL (fun _ => 0) 0 ((A1 0) + (A2 0))) 1 ((A1 1) + (A2 1))) 2 ((A1 2) + (A2 2))))))) (110 + n) (.inl (K 1, 4, .inr (.inl (vp_updL (vp_updL (vp_updL (vp_updL (fun _ => 0) 0 ((A1 0) + (A2 0))) 1 ((A1 1) + (A2 1))) 2 ((A1 2) + (A2 2))) 3 ((A1 3) + (A2 3))))))) (100 + n) (.inr (1, [.int (mx d1 d2), .int 1, .ref (ad_4 (110 + n)), .ref (ad_4 (120 + n)), .ref (ad_4 (130 + n)), .long (g1 + g2), .int 1, .int 0, .int 0]))) H := hw
      refine lv_aload_n hx hb d_A_mixtureOf_84 rfl (lv_at hl 1 rfl) ?_
      have hz : ∀ u, u ∉ ([100 + n, 110 + n, 120 + n, 130 + n] : List Nat) → u ≠ 100 + n ∧ u ≠ 110 + n ∧ u ≠ 120 + n ∧ u ≠ 130 + n := fun u hu => by simp only [List.mem_cons, List.not_mem_nil, or_false, not_or] at hu; omega
      exact W.aret (v := .ref q_1) hx hb hr (Or.inl ⟨_, rfl⟩) (Or.inr ⟨_, rfl⟩) (fun t ht _ => ⟨_, rfl, ⟨ad_4, _, by rw [show ad_4 (100 + n) = q_1 from (z4).trans aq_1], by rw [ht]; exact hw, by simp (disch := omega) only [xu_eq, xu_ne, xa_eq, xa_ne, eq_1, hfw_4, hfa_4, z4, y4_0, y4_1, y4_2, y4_3, c_18, c_19, Bool.false_and, Bool.true_and, Bool.and_false, Bool.and_true, bI_ff, bI_tt], by simp (disch := omega) only [xu_eq, xu_ne, xa_eq, xa_ne, eq_1, hfw_4, hfa_4, z4, y4_0, y4_1, y4_2, y4_3, c_18, c_19, Bool.false_and, Bool.true_and, Bool.and_false, Bool.and_true, bI_ff, bI_tt], by simp (disch := omega) only [xu_eq, xu_ne, xa_eq, xa_ne, eq_1, hfw_4, hfa_4, z4, y4_0, y4_1, y4_2, y4_3, c_18, c_19, Bool.false_and, Bool.true_and, Bool.and_false, Bool.and_true, bI_ff, bI_tt], by simp (disch := omega) only [xu_eq, xu_ne, xa_eq, xa_ne, eq_1, hfw_4, hfa_4, z4, y4_0, y4_1, y4_2, y4_3, c_18, c_19, Bool.false_and, Bool.true_and, Bool.and_false, Bool.and_true, bI_ff, bI_tt], fun u hu => by have hq := hz u hu; exact ⟨by simp (disch := omega) only [xu_eq, xu_ne, xa_eq, xa_ne, eq_1, hfw_4, hfa_4, z4, y4_0, y4_1, y4_2, y4_3, c_18, c_19, Bool.false_and, Bool.true_and, Bool.and_false, Bool.and_true, bI_ff, bI_tt], by simp (disch := omega) only [xu_eq, xu_ne, xa_eq, xa_ne, eq_1, hfw_4, hfa_4, z4, y4_0, y4_1, y4_2, y4_3, c_18, c_19, Bool.false_and, Bool.true_and, Bool.and_false, Bool.and_true, bI_ff, bI_tt]⟩⟩, hS.F ht⟩) hS.2.2 d_A_mixtureOf_85
end
section
set_option maxHeartbeats 4000000 in
set_option maxRecDepth 100000 in
theorem c_A_mix {l : Launch} {D : va_G} {K : Nat → ClassId} {B : Nat} {ad : Nat → Nat} {w : Nat → Option va_E} {H : Heap} {σ : xS} (hR : RepX K σ ad w) (hI : Inv σ) (hw : xw D vwCl B ad w H) (hB : B ≤ H.size) (x1 x2 : Int32) : xC l D K B y_A_mix b_A_mix 5 (some .int) rm_A_mix [.ref (ad 0), .int x1, .int x2] H (fun v H1 => v = some (.int (f_mix σ x1 x2).2) ∧ PX D K B ad w (f_mix σ x1 x2).1 H1) := by
  refine Met.ofW (cc := b_A_mix) (maxL := 5) (ret := (some .int)) (by decide) rfl ?_
  intro p e s m args below meth c s₁ B0 hml hv
  obtain ⟨rfl, hsz, hK, hN⟩ := hv
  have hx := B0.exec
  have hb := B0.bytes
  have hr := B0.returns
  have htw : ∀ w ∈ xW0, w.before [.ref (ad 0), .int x1, .int x2].toArray s = true := fun w h => atoms_spec (ws := Cond.code y_A_mix b_A_mix 5 (some .int) :: xW0) B0.pre w (List.mem_cons_of_mem _ h)
  have hown : s.vm.findClass R_A = some m.cls := findClass_of_methodNamed B0.named
  have hlocks := B0.notSynchronized
  subst hsz
  have hS : va_S (fun q => B ≤ q) s.heap s.heap [] := va_S.rf
  have hl := lv_entry ([.ref (ad 0), .int x1, .int x2]) (n := 5) (Nat.le_of_ble_eq_true rfl)
  rw [lg_entry_eq]
  generalize (lg_sl ([.ref (ad 0), .int x1, .int x2]) ++ List.replicate (5 - (lg_sl ([.ref (ad 0), .int x1, .int x2])).length) Slot.unset).toArray = ls at hl ⊢
  have hl : lv_has ls 5 [(0, .ref (ad 0)), (1, .int x1), (2, .int x2)] := hl
  have hH : s.heap = s.heap := rfl
  obtain ⟨r0, r1, r2, r3, r4, r5, r6, r7, rb, rba, rbt, rbo, rs, rss, rr⟩ := id hR
  obtain ⟨hnb, hns, hnr, hpc, hst, hto, htl, hrm, hpa, hwt, hdf, hds⟩ := id hI
  refine lv_aload_n hx hb d_A_mix_0 rfl (lv_at hl 0 rfl) ?_
  refine lv_iload_n hx hb d_A_mix_1 rfl (lv_at hl 1 rfl) ?_
  refine xr_call (va_runV (As := [.int x1]) (rest := []) ⟨hx, hb, hml, hown, htw⟩ (c_A_batchAt (ad := ad) hR hnb hns hw x1) (cwV 1 htw (gV u_131 u_133 us_1 u_1 u_134) rfl rfl rfl hd_A_batchAt ⟨Nat.le_of_ble_eq_true rfl, Nat.le_of_ble_eq_true rfl⟩) ⟨xP_blind, hw.recv hK (ci := 0) (t := 0) rfl r0 rfl, xP_of hK hN⟩ rfl rfl hl.1 rfl (lv_room (Nat.le_of_ble_eq_true rfl)) d_A_mix_2 ⟨by decide, by decide⟩) hS (fun v H_ locs hp hS => ?_)
  obtain ⟨hHe, hp⟩ := hp
  rw [hHe] at hS ⊢
  rcases hp with ⟨f2, rfl⟩ | ⟨i1, hi1, rfl, rfl⟩
  · refine W.eq (g2 := F0 m 5 ls [.null]) rfl ?_
    refine lv_astore_nN (lv' := [(3, .null), (0, .ref (ad 0)), (1, .int x1), (2, .int x2)]) hx hb d_A_mix_5 rfl hl (by decide) rfl (fun ls hl => ?_)
    refine lv_aload_n hx hb d_A_mix_6 rfl (lv_at hl 1 rfl) ?_
    refine lv_iload_n hx hb d_A_mix_7 rfl (lv_at hl 3 rfl) ?_
    refine xr_call (va_runV (As := [.int x2]) (rest := []) ⟨hx, hb, hml, hown, htw⟩ (c_A_batchAt (ad := ad) hR hnb hns hw x2) (cwV 1 htw (gV u_131 u_133 us_1 u_1 u_134) rfl rfl rfl hd_A_batchAt ⟨Nat.le_of_ble_eq_true rfl, Nat.le_of_ble_eq_true rfl⟩) ⟨xP_blind, hw.recv hK (ci := 0) (t := 0) rfl r0 rfl, xP_of hK hN⟩ rfl rfl hl.1 rfl (lv_room (Nat.le_of_ble_eq_true rfl)) d_A_mix_8 ⟨by decide, by decide⟩) hS (fun v H_ locs hp hS => ?_)
    obtain ⟨hHe, hp⟩ := hp
    rw [hHe] at hS ⊢
    rcases hp with ⟨f4, rfl⟩ | ⟨i3, hi3, rfl, rfl⟩
    · refine W.eq (g2 := F0 m 11 ls [.null]) rfl ?_
      refine lv_astoreN (lv' := [(4, .null), (3, .null), (0, .ref (ad 0)), (1, .int x1), (2, .int x2)]) hx hb d_A_mix_11 hl (by decide) rfl (fun ls hl => ?_)
      refine lv_aload_nN hx hb d_A_mix_13 rfl (lv_at hl 1 rfl) ?_
      refine lv_ifnullN (tgt := 36) hx hb d_A_mix_14 (by decide) ?_
      refine lv_iconst (v := (-1)) hx hb d_A_mix_36 (by decide) ?_
      have hf : f_mix σ x1 x2 = (σ, (-1)) := by simp [f_mix, opt_n, opt_s, f2, f4]
      refine W.widen (k := 4) (n := 49) (by decide) (by decide) ?_
      exact W.iret (v := (-1)) hx hb hr (fun t ht _ => ⟨_, rfl, by rw [hf, ht]; exact ⟨rfl, PX_same hw hR⟩, hS.F ht⟩) hS.2.2 d_A_mix_37
    · have fi3 : xi (σ.1 0) (nI i3) = some i3 := xi_nI hi3 (by omega)
      refine W.eq (g2 := F0 m 11 ls [.ref (ad (100 + i3))]) rfl ?_
      refine lv_astore (lv' := [(4, .ref (ad (100 + i3))), (3, .null), (0, .ref (ad 0)), (1, .int x1), (2, .int (nI i3))]) hx hb d_A_mix_11 hl (by decide) rfl (fun ls hl => ?_)
      refine lv_aload_nN hx hb d_A_mix_13 rfl (lv_at hl 1 rfl) ?_
      refine lv_ifnullN (tgt := 36) hx hb d_A_mix_14 (by decide) ?_
      refine lv_iconst (v := (-1)) hx hb d_A_mix_36 (by decide) ?_
      have hf : f_mix σ x1 (nI i3) = (σ, (-1)) := by simp [f_mix, opt_n, opt_s, f2, fi3]
      refine W.widen (k := 4) (n := 49) (by decide) (by decide) ?_
      exact W.iret (v := (-1)) hx hb hr (fun t ht _ => ⟨_, rfl, by rw [hf, ht]; exact ⟨rfl, PX_same hw hR⟩, hS.F ht⟩) hS.2.2 d_A_mix_37
  · have fi1 : xi (σ.1 0) (nI i1) = some i1 := xi_nI hi1 (by omega)
    refine W.eq (g2 := F0 m 5 ls [.ref (ad (100 + i1))]) rfl ?_
    refine lv_astore_n (lv' := [(3, .ref (ad (100 + i1))), (0, .ref (ad 0)), (1, .int (nI i1)), (2, .int x2)]) hx hb d_A_mix_5 rfl hl (by decide) rfl (fun ls hl => ?_)
    refine lv_aload_n hx hb d_A_mix_6 rfl (lv_at hl 1 rfl) ?_
    refine lv_iload_n hx hb d_A_mix_7 rfl (lv_at hl 3 rfl) ?_
    refine xr_call (va_runV (As := [.int x2]) (rest := []) ⟨hx, hb, hml, hown, htw⟩ (c_A_batchAt (ad := ad) hR hnb hns hw x2) (cwV 1 htw (gV u_131 u_133 us_1 u_1 u_134) rfl rfl rfl hd_A_batchAt ⟨Nat.le_of_ble_eq_true rfl, Nat.le_of_ble_eq_true rfl⟩) ⟨xP_blind, hw.recv hK (ci := 0) (t := 0) rfl r0 rfl, xP_of hK hN⟩ rfl rfl hl.1 rfl (lv_room (Nat.le_of_ble_eq_true rfl)) d_A_mix_8 ⟨by decide, by decide⟩) hS (fun v H_ locs hp hS => ?_)
    obtain ⟨hHe, hp⟩ := hp
    rw [hHe] at hS ⊢
    rcases hp with ⟨f6, rfl⟩ | ⟨i5, hi5, rfl, rfl⟩
    · refine W.eq (g2 := F0 m 11 ls [.null]) rfl ?_
      refine lv_astoreN (lv' := [(4, .null), (3, .ref (ad (100 + i1))), (0, .ref (ad 0)), (1, .int (nI i1)), (2, .int x2)]) hx hb d_A_mix_11 hl (by decide) rfl (fun ls hl => ?_)
      refine lv_aload_n hx hb d_A_mix_13 rfl (lv_at hl 1 rfl) ?_
      refine lv_ifnull hx hb d_A_mix_14 ?_
      refine lv_aloadN hx hb d_A_mix_17 (lv_at hl 0 rfl) ?_
      refine lv_ifnullN (tgt := 36) hx hb d_A_mix_19 (by decide) ?_
      refine lv_iconst (v := (-1)) hx hb d_A_mix_36 (by decide) ?_
      have hf : f_mix σ (nI i1) x2 = (σ, (-1)) := by simp [f_mix, opt_n, opt_s, fi1, f6]
      refine W.widen (k := 4) (n := 49) (by decide) (by decide) ?_
      exact W.iret (v := (-1)) hx hb hr (fun t ht _ => ⟨_, rfl, by rw [hf, ht]; exact ⟨rfl, PX_same hw hR⟩, hS.F ht⟩) hS.2.2 d_A_mix_37
    · have fi5 : xi (σ.1 0) (nI i5) = some i5 := xi_nI hi5 (by omega)
      refine W.eq (g2 := F0 m 11 ls [.ref (ad (100 + i5))]) rfl ?_
      refine lv_astore (lv' := [(4, .ref (ad (100 + i5))), (3, .ref (ad (100 + i1))), (0, .ref (ad 0)), (1, .int (nI i1)), (2, .int (nI i5))]) hx hb d_A_mix_11 hl (by decide) rfl (fun ls hl => ?_)
      refine lv_aload_n hx hb d_A_mix_13 rfl (lv_at hl 1 rfl) ?_
      refine lv_ifnull hx hb d_A_mix_14 ?_
      refine lv_aload hx hb d_A_mix_17 (lv_at hl 0 rfl) ?_
      refine lv_ifnull hx hb d_A_mix_19 ?_
      refine lv_iload_n hx hb d_A_mix_22 rfl (lv_at hl 3 rfl) ?_
      refine lv_iload_n hx hb d_A_mix_23 rfl (lv_at hl 4 rfl) ?_
      refine lv_icmp_eq (tgt := 36) hx hb d_A_mix_24 (by decide) (fun c_7 => ?_) (fun c_7 => ?_)
      · have c_7 : i1 = i5 := (nEQ (a := i1) (b := i5) (by omega) (by omega)).mp c_7
        refine lv_iconst (v := (-1)) hx hb d_A_mix_36 (by decide) ?_
        have hf : f_mix σ (nI i1) (nI i5) = (σ, (-1)) := by simp [f_mix, opt_n, opt_s, fi1, fi5, c_7]
        refine W.widen (k := 4) (n := 49) (by decide) (by decide) ?_
        exact W.iret (v := (-1)) hx hb hr (fun t ht _ => ⟨_, rfl, by rw [hf, ht]; exact ⟨rfl, PX_same hw hR⟩, hS.F ht⟩) hS.2.2 d_A_mix_37
      · have c_7 : ¬ i1 = i5 := fun z => c_7 ((nEQ (a := i1) (b := i5) (by omega) (by omega)).mpr z)
        refine lv_aload_n hx hb d_A_mix_27 rfl (lv_at hl 2 rfl) ?_
        refine xr_get (ci := 0) (v := .int (nI (σ.1 0))) (C := R_A) (T := T_A) (N := 10) hx hb htw in_A hown hK hw 0 r0 rfl rfl 1 (by decide) (htw _ u_42) (fun _ h9 => h9) rfl d_A_mix_28 ?_
        refine lv_bipush (v := 8) hx hb d_A_mix_31 (by decide) ?_
        refine lv_icmp_lt (tgt := 38) hx hb d_A_mix_33 (by decide) (fun c_8 => ?_) (fun c_8 => ?_)
        · have c_8 : (σ.1 0) < 8 := (nLT (a := σ.1 0) (b := 8) (by omega) (by omega)).mp c_8
          refine lv_aload_n hx hb d_A_mix_38 rfl (lv_at hl 1 rfl) ?_
          refine xr_get (ci := 1) (v := .int (bI (σ.2.2.2 2 i1))) (C := R_B) (T := T_B) (N := 9) hx hb htw in_B hown hK hw (100 + i1) (rb i1 hi1) rfl rfl 7 (by decide) (htw _ u_102) (fun _ h9 => h9) rfl d_A_mix_39 ?_
          refine lv_if_ne (tgt := 65) hx hb d_A_mix_42 (by decide) (fun c_9 => ?_) (fun c_9 => ?_)
          · have c_9 : (σ.2.2.2 2 i1) = true := bI_t.mp c_9
            refine lv_iconst (v := (-1)) hx hb d_A_mix_65 (by decide) ?_
            have hf : f_mix σ (nI i1) (nI i5) = (σ, (-1)) := by simp [f_mix, opt_n, opt_s, fi1, fi5, c_7, c_8, c_9]
            refine W.widen (k := 4) (n := 49) (by decide) (by decide) ?_
            exact W.iret (v := (-1)) hx hb hr (fun t ht _ => ⟨_, rfl, by rw [hf, ht]; exact ⟨rfl, PX_same hw hR⟩, hS.F ht⟩) hS.2.2 d_A_mix_66
          · have c_9 : (σ.2.2.2 2 i1) = false := bI_f.mp c_9
            refine lv_aload hx hb d_A_mix_45 (lv_at hl 0 rfl) ?_
            refine xr_get (ci := 1) (v := .int (bI (σ.2.2.2 2 i5))) (C := R_B) (T := T_B) (N := 9) hx hb htw in_B hown hK hw (100 + i5) (rb i5 hi5) rfl rfl 7 (by decide) (htw _ u_102) (fun _ h9 => h9) rfl d_A_mix_47 ?_
            refine lv_if_ne (tgt := 65) hx hb d_A_mix_50 (by decide) (fun c_10 => ?_) (fun c_10 => ?_)
            · have c_10 : (σ.2.2.2 2 i5) = true := bI_t.mp c_10
              refine lv_iconst (v := (-1)) hx hb d_A_mix_65 (by decide) ?_
              have hf : f_mix σ (nI i1) (nI i5) = (σ, (-1)) := by simp [f_mix, opt_n, opt_s, fi1, fi5, c_7, c_8, c_9, c_10]
              refine W.widen (k := 4) (n := 49) (by decide) (by decide) ?_
              exact W.iret (v := (-1)) hx hb hr (fun t ht _ => ⟨_, rfl, by rw [hf, ht]; exact ⟨rfl, PX_same hw hR⟩, hS.F ht⟩) hS.2.2 d_A_mix_66
            · have c_10 : (σ.2.2.2 2 i5) = false := bI_f.mp c_10
              refine lv_aload_n hx hb d_A_mix_53 rfl (lv_at hl 1 rfl) ?_
              refine xr_get (ci := 1) (v := .int (bI (σ.2.2.2 1 i1))) (C := R_B) (T := T_B) (N := 9) hx hb htw in_B hown hK hw (100 + i1) (rb i1 hi1) rfl rfl 6 (by decide) (htw _ u_101) (fun _ h9 => h9) rfl d_A_mix_54 ?_
              refine lv_aload hx hb d_A_mix_57 (lv_at hl 0 rfl) ?_
              refine xr_get (ci := 1) (v := .int (bI (σ.2.2.2 1 i5))) (C := R_B) (T := T_B) (N := 9) hx hb htw in_B hown hK hw (100 + i5) (rb i5 hi5) rfl rfl 6 (by decide) (htw _ u_101) (fun _ h9 => h9) rfl d_A_mix_59 ?_
              refine lv_icmp_eq (tgt := 67) hx hb d_A_mix_62 (by decide) (fun c_11 => ?_) (fun c_11 => ?_)
              · refine lv_aload_n hx hb d_A_mix_67 rfl (lv_at hl 1 rfl) ?_
                refine lv_iconst (v := 1) hx hb d_A_mix_68 (by decide) ?_
                refine xr_put (ci := 1) (v := .int 1) (ty := .boolean) (C := R_B) (T := T_B) (N := 9) hx hb htw in_B ty_B tk_B nm_B hown hK hw hS (100 + i1) (rb i1 hi1) rfl rfl 7 (by decide) (htw _ u_102) (fun _ h9 => h9) rfl (by decide +kernel) (by decide) (by decide) (Nat.le_of_ble_eq_true rfl) d_A_mix_69 (fun H locs hw hS => ?_)
                have hw : xw D vwCl B ad (xu w (100 + i1) (.inr (1, [.int (σ.2.1 1 i1), .int (bI (σ.2.2.2 0 i1)), .ref (ad (110 + i1)), .ref (ad (120 + i1)), .ref (ad (130 + i1)), .long (σ.2.2.1 1 i1), .int (bI (σ.2.2.2 1 i1)), .int 1, .int (nI (σ.1 (10 + 2 * i1)))]))) H := hw
                refine lv_aload hx hb d_A_mix_72 (lv_at hl 0 rfl) ?_
                refine lv_iconst (v := 1) hx hb d_A_mix_74 (by decide) ?_
                refine xr_put (ci := 1) (v := .int 1) (ty := .boolean) (C := R_B) (T := T_B) (N := 9) hx hb htw in_B ty_B tk_B nm_B hown hK hw hS (100 + i5) ((xu_ne (by omega)).trans (rb i5 hi5)) rfl rfl 7 (by decide) (htw _ u_102) (fun _ h9 => h9) rfl (by decide +kernel) (by decide) (by decide) (Nat.le_of_ble_eq_true rfl) d_A_mix_75 (fun H locs hw hS => ?_)
                have hw : xw D vwCl B ad (xu (xu w (100 + i1) (.inr (1, [.int (σ.2.1 1 i1), .int (bI (σ.2.2.2 0 i1)), .ref (ad (110 + i1)), .ref (ad (120 + i1)), .ref (ad (130 + i1)), .long (σ.2.2.1 1 i1), .int (bI (σ.2.2.2 1 i1)), .int 1, .int (nI (σ.1 (10 + 2 * i1)))]))) (100 + i5) (.inr (1, [.int (σ.2.1 1 i5), .int (bI (σ.2.2.2 0 i5)), .ref (ad (110 + i5)), .ref (ad (120 + i5)), .ref (ad (130 + i5)), .long (σ.2.2.1 1 i5), .int (bI (σ.2.2.2 1 i5)), .int 1, .int (nI (σ.1 (10 + 2 * i5)))]))) H := hw
                refine lv_aload_n hx hb d_A_mix_78 rfl (lv_at hl 2 rfl) ?_
                refine lv_aload_n hx hb d_A_mix_79 rfl (lv_at hl 1 rfl) ?_
                refine lv_aload hx hb d_A_mix_80 (lv_at hl 0 rfl) ?_
                refine xr_call (va_runS (As := [.ref (ad (100 + i1)), .ref (ad (100 + i5))]) (rest := [.ref (ad 0)]) ⟨hx, hb, hml, hown, htw⟩ (c_A_mixtureOf (ad := ad) hw (Nat.le_trans hB hS.1) i1 i5 (σ.1 0) (by omega) (by omega) (by omega) (σ.2.1 1 i1) (.int (bI (σ.2.2.2 0 i1))) (.ref (ad (120 + i1))) (.ref (ad (130 + i1))) (.int 1) (.int (nI (σ.1 (10 + 2 * i1)))) (ad (110 + i1)) (σ.2.2.1 1 i1) (σ.2.2.2 1 i1) (σ.2.2.1 (10 + i1)) ((xu_ne (by omega)).trans (xu_eq)) ((xu_ne (by omega)).trans ((xu_ne (by omega)).trans (rba i1 hi1))) rfl (ad (100 + i1)) rfl (σ.2.1 1 i5) (.int (bI (σ.2.2.2 0 i5))) (.ref (ad (120 + i5))) (.ref (ad (130 + i5))) (.int 1) (.int (nI (σ.1 (10 + 2 * i5)))) (ad (110 + i5)) (σ.2.2.1 1 i5) (σ.2.2.2 1 i5) (σ.2.2.1 (10 + i5)) xu_eq ((xu_ne (by omega)).trans ((xu_ne (by omega)).trans (rba i5 hi5))) rfl (ad (100 + i5)) rfl) (va_cwS 2 htw (gS u_315 u_316 u_1 u_317) rfl rfl rfl hd_A_mixtureOf.2 ⟨Nat.le_of_ble_eq_true rfl, Nat.le_of_ble_eq_true rfl⟩) ⟨xP_blind, xP_of hK hN⟩ rfl rfl hl.1 rfl (lv_room (Nat.le_of_ble_eq_true rfl)) d_A_mix_82 ⟨by decide, by decide⟩) hS (fun v H_ locs hp hS => ?_)
                obtain ⟨ad_12, w_12, rfl, hw, y12_0, y12_1, y12_2, y12_3, hfr⟩ := hp
                generalize H_ = H at hw hS ⊢
                have hfw_12 : ∀ u, u ≠ 100 + σ.1 0 → u ≠ 110 + σ.1 0 → u ≠ 120 + σ.1 0 → u ≠ 130 + σ.1 0 → w_12 u = (xu (xu w (100 + i1) (.inr (1, [.int (σ.2.1 1 i1), .int (bI (σ.2.2.2 0 i1)), .ref (ad (110 + i1)), .ref (ad (120 + i1)), .ref (ad (130 + i1)), .long (σ.2.2.1 1 i1), .int (bI (σ.2.2.2 1 i1)), .int 1, .int (nI (σ.1 (10 + 2 * i1)))]))) (100 + i5) (.inr (1, [.int (σ.2.1 1 i5), .int (bI (σ.2.2.2 0 i5)), .ref (ad (110 + i5)), .ref (ad (120 + i5)), .ref (ad (130 + i5)), .long (σ.2.2.1 1 i5), .int (bI (σ.2.2.2 1 i5)), .int 1, .int (nI (σ.1 (10 + 2 * i5)))]))) u := fun u h0 h1 h2 h3 => (hfr u (by simp only [List.mem_cons, List.not_mem_nil, or_false, not_or]; exact ⟨h0, h1, h2, h3⟩)).1
                have hfa_12 : ∀ u, u ≠ 100 + σ.1 0 → u ≠ 110 + σ.1 0 → u ≠ 120 + σ.1 0 → u ≠ 130 + σ.1 0 → ad_12 u = ad u := fun u h0 h1 h2 h3 => (hfr u (by simp only [List.mem_cons, List.not_mem_nil, or_false, not_or]; exact ⟨h0, h1, h2, h3⟩)).2
                refine W.eq (g2 := F0 m 85 ls [.ref (ad_12 (100 + σ.1 0)), .ref (ad 0)]) rfl ?_
                refine xr_call (va_runV (As := [.ref (ad_12 (100 + σ.1 0))]) (rest := []) ⟨hx, hb, hml, hown, htw⟩ (c_A_keepBatch (ad := ad_12) hw (σ.1 0) (by omega) (ad 1) ((hfa_12 1 (by omega) (by omega) (by omega) (by omega)).trans rfl) (.ref (ad 2)) (.int (nI (σ.1 1))) (.ref (ad 3)) (.int (nI (σ.1 2))) (.ref (ad 4)) (.int (σ.2.1 0 0)) (.int (σ.2.1 0 1)) (.long (σ.2.2.1 0 0)) (fun i => if i < σ.1 0 then some (ad (100 + i)) else none) ((hfw_12 0 (by omega) (by omega) (by omega) (by omega)).trans ((xu_ne (by omega)).trans ((xu_ne (by omega)).trans (r0)))) ((hfw_12 1 (by omega) (by omega) (by omega) (by omega)).trans ((xu_ne (by omega)).trans ((xu_ne (by omega)).trans (r1)))) (100 + σ.1 0) _ (by omega) y12_0 (ad_12 (100 + σ.1 0)) rfl (ad 0) ((hfa_12 0 (by omega) (by omega) (by omega) (by omega)).trans rfl)) (cwV 1 htw (gV u_123 u_125 us_0 u_1 u_126) rfl rfl rfl hd_A_keepBatch ⟨Nat.le_of_ble_eq_true rfl, Nat.le_of_ble_eq_true rfl⟩) ⟨xP_blind, hw.recv hK (ci := 0) (t := 0) rfl ((hfw_12 0 (by omega) (by omega) (by omega) (by omega)).trans ((xu_ne (by omega)).trans ((xu_ne (by omega)).trans (r0)))) ((hfa_12 0 (by omega) (by omega) (by omega) (by omega)).trans rfl), xP_of hK hN⟩ rfl rfl hl.1 rfl (lv_room (Nat.le_of_ble_eq_true rfl)) d_A_mix_85 ⟨by decide, by decide⟩) hS (fun v H_ locs hp hS => ?_)
                obtain ⟨rfl, hw⟩ := hp
                generalize H_ = H at hw hS ⊢
                have hw : xw D vwCl B ad_12 (xu (xu w_12 1 (.inl (K 2, 8, .inr (.inr (.inr (.inr (va_up (fun i => if i < σ.1 0 then some (ad (100 + i)) else none) (σ.1 0) (some (ad_12 (100 + σ.1 0)))))))))) 0 (.inr (0, [.ref (ad 1), .int (nI (σ.1 0) + 1), .ref (ad 2), .int (nI (σ.1 1)), .ref (ad 3), .int (nI (σ.1 2)), .ref (ad 4), .int (σ.2.1 0 0), .int (σ.2.1 0 1), .long (σ.2.2.1 0 0)]))) H := hw
                refine W.eq (g2 := F0 m 88 ls [.int (nI (σ.1 0))]) rfl ?_
                have hq : ad_12 (100 + σ.1 0) = ad_12 (100 + σ.1 0) := rfl
                have hpu := fq_push (n := σ.1 0) (ad := ad) (ad1 := ad_12) (b := 100) (q := ad_12 (100 + σ.1 0)) hq (fun i hi => by simp (disch := omega) only [xa_ne, hfw_12, hfa_12, y12_0, y12_1, y12_2, y12_3])
                obtain ⟨hd1, hd2, hd3, hd4, hd5, hd6⟩ := hdf (σ.1 0) (Nat.le_refl _) (by omega)
                have hRep : RepX K (s_mix σ i1 i5) ad_12 (xu (xu w_12 1 (.inl (K 2, 8, .inr (.inr (.inr (.inr (va_up (fun i => if i < σ.1 0 then some (ad (100 + i)) else none) (σ.1 0) (some (ad_12 (100 + σ.1 0)))))))))) 0 (.inr (0, [.ref (ad 1), .int (nI (σ.1 0) + 1), .ref (ad 2), .int (nI (σ.1 1)), .ref (ad 3), .int (nI (σ.1 2)), .ref (ad 4), .int (σ.2.1 0 0), .int (σ.2.1 0 1), .long (σ.2.2.1 0 0)]))) := by
                  unfold s_mix s_new
                  refine ⟨?_, ?_, ?_, ?_, ?_, ?_, ?_, ?_, ?_, ?_, ?_, ?_, ?_, ?_, ?_⟩
                  · simp (disch := omega) only [pN, pI, pL, pZ, row_eq, row_ne, xu_eq, xu_ne, xa_eq, xa_ne, pk_us, pk_un, pk_uLs, pk_uLn, hfw_12, hfa_12, y12_0, y12_1, y12_2, y12_3, hd1, hd2, hd3, hd4, hd5, hd6, nI_succ, bI_ff, bI_tt, nI_0, r0]
                  · simp (disch := omega) only [pN, pI, pL, pZ, row_eq, row_ne, xu_eq, xu_ne, xa_eq, xa_ne, pk_us, pk_un, pk_uLs, pk_uLn, hfw_12, hfa_12, y12_0, y12_1, y12_2, y12_3, hpu]; try rfl
                  · simp (disch := omega) only [pN, pI, pL, pZ, row_eq, row_ne, xu_eq, xu_ne, xa_eq, xa_ne, pk_us, pk_un, pk_uLs, pk_uLn, hfw_12, hfa_12, y12_0, y12_1, y12_2, y12_3, hd1, hd2, hd3, hd4, hd5, hd6, nI_succ, bI_ff, bI_tt, nI_0, r2]; try rfl
                  · simp (disch := omega) only [pN, pI, pL, pZ, row_eq, row_ne, xu_eq, xu_ne, xa_eq, xa_ne, pk_us, pk_un, pk_uLs, pk_uLn, hfw_12, hfa_12, y12_0, y12_1, y12_2, y12_3, hd1, hd2, hd3, hd4, hd5, hd6, nI_succ, bI_ff, bI_tt, nI_0, r3]; try rfl
                  · simp (disch := omega) only [pN, pI, pL, pZ, row_eq, row_ne, xu_eq, xu_ne, xa_eq, xa_ne, pk_us, pk_un, pk_uLs, pk_uLn, hfw_12, hfa_12, y12_0, y12_1, y12_2, y12_3, hd1, hd2, hd3, hd4, hd5, hd6, nI_succ, bI_ff, bI_tt, nI_0, r4]
                  · simp (disch := omega) only [pN, pI, pL, pZ, row_eq, row_ne, xu_eq, xu_ne, xa_eq, xa_ne, pk_us, pk_un, pk_uLs, pk_uLn, hfw_12, hfa_12, y12_0, y12_1, y12_2, y12_3, hd1, hd2, hd3, hd4, hd5, hd6, nI_succ, bI_ff, bI_tt, nI_0, r5]
                  · simp (disch := omega) only [pN, pI, pL, pZ, row_eq, row_ne, xu_eq, xu_ne, xa_eq, xa_ne, pk_us, pk_un, pk_uLs, pk_uLn, hfw_12, hfa_12, y12_0, y12_1, y12_2, y12_3, hd1, hd2, hd3, hd4, hd5, hd6, nI_succ, bI_ff, bI_tt, nI_0, r6]
                  · simp (disch := omega) only [pN, pI, pL, pZ, row_eq, row_ne, xu_eq, xu_ne, xa_eq, xa_ne, pk_us, pk_un, pk_uLs, pk_uLn, hfw_12, hfa_12, y12_0, y12_1, y12_2, y12_3, hd1, hd2, hd3, hd4, hd5, hd6, nI_succ, bI_ff, bI_tt, nI_0, r7]
                  · intro jj hj
                    have hj : jj < σ.1 0 + 1 := by simpa (disch := omega) only [pN, pI, pL, pZ, row_eq, row_ne, xu_eq, xu_ne, xa_eq, xa_ne, pk_us, pk_un, pk_uLs, pk_uLn, hfw_12, hfa_12, y12_0, y12_1, y12_2, y12_3, hd1, hd2, hd3, hd4, hd5, hd6, nI_succ, bI_ff, bI_tt, nI_0] using hj
                    by_cases ej : jj = σ.1 0
                    · rw [ej]; simp (disch := omega) only [pN, pI, pL, pZ, row_eq, row_ne, xu_eq, xu_ne, xa_eq, xa_ne, pk_us, pk_un, pk_uLs, pk_uLn, hfw_12, hfa_12, y12_0, y12_1, y12_2, y12_3, hd1, hd2, hd3, hd4, hd5, hd6, nI_succ, bI_ff, bI_tt, nI_0]
                    · by_cases ej0 : jj = i1
                      · rw [ej0]; simp (disch := omega) only [pN, pI, pL, pZ, row_eq, row_ne, xu_eq, xu_ne, xa_eq, xa_ne, pk_us, pk_un, pk_uLs, pk_uLn, hfw_12, hfa_12, y12_0, y12_1, y12_2, y12_3, hd1, hd2, hd3, hd4, hd5, hd6, nI_succ, bI_ff, bI_tt, nI_0, rb i1 (by omega)]
                      · by_cases ej1 : jj = i5
                        · rw [ej1]; simp (disch := omega) only [pN, pI, pL, pZ, row_eq, row_ne, xu_eq, xu_ne, xa_eq, xa_ne, pk_us, pk_un, pk_uLs, pk_uLn, hfw_12, hfa_12, y12_0, y12_1, y12_2, y12_3, hd1, hd2, hd3, hd4, hd5, hd6, nI_succ, bI_ff, bI_tt, nI_0, rb i5 (by omega)]
                        · simp (disch := omega) only [pN, pI, pL, pZ, row_eq, row_ne, xu_eq, xu_ne, xa_eq, xa_ne, pk_us, pk_un, pk_uLs, pk_uLn, hfw_12, hfa_12, y12_0, y12_1, y12_2, y12_3, hd1, hd2, hd3, hd4, hd5, hd6, nI_succ, bI_ff, bI_tt, nI_0, rb jj (by omega)]
                  · intro jj hj
                    have hj : jj < σ.1 0 + 1 := by simpa (disch := omega) only [pN, pI, pL, pZ, row_eq, row_ne, xu_eq, xu_ne, xa_eq, xa_ne, pk_us, pk_un, pk_uLs, pk_uLn, hfw_12, hfa_12, y12_0, y12_1, y12_2, y12_3, hd1, hd2, hd3, hd4, hd5, hd6, nI_succ, bI_ff, bI_tt, nI_0] using hj
                    by_cases ej : jj = σ.1 0
                    · rw [ej]; simp (disch := omega) only [pN, pI, pL, pZ, row_eq, row_ne, xu_eq, xu_ne, xa_eq, xa_ne, pk_us, pk_un, pk_uLs, pk_uLn, hfw_12, hfa_12, y12_0, y12_1, y12_2, y12_3, hd1, hd2, hd3, hd4, hd5, hd6, nI_succ, bI_ff, bI_tt, nI_0]
                    · simp (disch := omega) only [pN, pI, pL, pZ, row_eq, row_ne, xu_eq, xu_ne, xa_eq, xa_ne, pk_us, pk_un, pk_uLs, pk_uLn, hfw_12, hfa_12, y12_0, y12_1, y12_2, y12_3, hd1, hd2, hd3, hd4, hd5, hd6, nI_succ, bI_ff, bI_tt, nI_0, rba jj (by omega)]
                  · intro jj hj
                    have hj : jj < σ.1 0 + 1 := by simpa (disch := omega) only [pN, pI, pL, pZ, row_eq, row_ne, xu_eq, xu_ne, xa_eq, xa_ne, pk_us, pk_un, pk_uLs, pk_uLn, hfw_12, hfa_12, y12_0, y12_1, y12_2, y12_3, hd1, hd2, hd3, hd4, hd5, hd6, nI_succ, bI_ff, bI_tt, nI_0] using hj
                    by_cases ej : jj = σ.1 0
                    · rw [ej]; simp (disch := omega) only [pN, pI, pL, pZ, row_eq, row_ne, xu_eq, xu_ne, xa_eq, xa_ne, pk_us, pk_un, pk_uLs, pk_uLn, hfw_12, hfa_12, y12_0, y12_1, y12_2, y12_3, hd1, hd2, hd3, hd4, hd5, hd6, nI_succ, bI_ff, bI_tt, nI_0]
                    · simp (disch := omega) only [pN, pI, pL, pZ, row_eq, row_ne, xu_eq, xu_ne, xa_eq, xa_ne, pk_us, pk_un, pk_uLs, pk_uLn, hfw_12, hfa_12, y12_0, y12_1, y12_2, y12_3, hd1, hd2, hd3, hd4, hd5, hd6, nI_succ, bI_ff, bI_tt, nI_0, rbt jj (by omega)]
                  · intro jj hj
                    have hj : jj < σ.1 0 + 1 := by simpa (disch := omega) only [pN, pI, pL, pZ, row_eq, row_ne, xu_eq, xu_ne, xa_eq, xa_ne, pk_us, pk_un, pk_uLs, pk_uLn, hfw_12, hfa_12, y12_0, y12_1, y12_2, y12_3, hd1, hd2, hd3, hd4, hd5, hd6, nI_succ, bI_ff, bI_tt, nI_0] using hj
                    by_cases ej : jj = σ.1 0
                    · rw [ej]; simp (disch := omega) only [pN, pI, pL, pZ, row_eq, row_ne, xu_eq, xu_ne, xa_eq, xa_ne, pk_us, pk_un, pk_uLs, pk_uLn, hfw_12, hfa_12, y12_0, y12_1, y12_2, y12_3, hd1, hd2, hd3, hd4, hd5, hd6, nI_succ, bI_ff, bI_tt, nI_0]
                    · simp (disch := omega) only [pN, pI, pL, pZ, row_eq, row_ne, xu_eq, xu_ne, xa_eq, xa_ne, pk_us, pk_un, pk_uLs, pk_uLn, hfw_12, hfa_12, y12_0, y12_1, y12_2, y12_3, hd1, hd2, hd3, hd4, hd5, hd6, nI_succ, bI_ff, bI_tt, nI_0, rbo jj (by omega)]
                  · intro jj hj
                    have hj : jj < σ.1 1 := by first | exact hj | simpa (disch := omega) only [pN, pI, pL, pZ, row_eq, row_ne, xu_eq, xu_ne, xa_eq, xa_ne, pk_us, pk_un, pk_uLs, pk_uLn, hfw_12, hfa_12, y12_0, y12_1, y12_2, y12_3, hd1, hd2, hd3, hd4, hd5, hd6, nI_succ, bI_ff, bI_tt, nI_0] using hj
                    simp (disch := omega) only [pN, pI, pL, pZ, row_eq, row_ne, xu_eq, xu_ne, xa_eq, xa_ne, pk_us, pk_un, pk_uLs, pk_uLn, hfw_12, hfa_12, y12_0, y12_1, y12_2, y12_3, hd1, hd2, hd3, hd4, hd5, hd6, nI_succ, bI_ff, bI_tt, nI_0, rs jj hj]
                  · intro jj hj
                    have hj : jj < σ.1 1 := by first | exact hj | simpa (disch := omega) only [pN, pI, pL, pZ, row_eq, row_ne, xu_eq, xu_ne, xa_eq, xa_ne, pk_us, pk_un, pk_uLs, pk_uLn, hfw_12, hfa_12, y12_0, y12_1, y12_2, y12_3, hd1, hd2, hd3, hd4, hd5, hd6, nI_succ, bI_ff, bI_tt, nI_0] using hj
                    simp (disch := omega) only [pN, pI, pL, pZ, row_eq, row_ne, xu_eq, xu_ne, xa_eq, xa_ne, pk_us, pk_un, pk_uLs, pk_uLn, hfw_12, hfa_12, y12_0, y12_1, y12_2, y12_3, hd1, hd2, hd3, hd4, hd5, hd6, nI_succ, bI_ff, bI_tt, nI_0, rss jj hj]
                  · intro jj hj
                    have hj : jj < σ.1 2 := by first | exact hj | simpa (disch := omega) only [pN, pI, pL, pZ, row_eq, row_ne, xu_eq, xu_ne, xa_eq, xa_ne, pk_us, pk_un, pk_uLs, pk_uLn, hfw_12, hfa_12, y12_0, y12_1, y12_2, y12_3, hd1, hd2, hd3, hd4, hd5, hd6, nI_succ, bI_ff, bI_tt, nI_0] using hj
                    simp (disch := omega) only [pN, pI, pL, pZ, row_eq, row_ne, xu_eq, xu_ne, xa_eq, xa_ne, pk_us, pk_un, pk_uLs, pk_uLn, hfw_12, hfa_12, y12_0, y12_1, y12_2, y12_3, hd1, hd2, hd3, hd4, hd5, hd6, nI_succ, bI_ff, bI_tt, nI_0, rr jj hj]
                have hf : f_mix σ (nI i1) (nI i5) = (s_mix σ i1 i5, nI (σ.1 0)) := by simp [f_mix, opt_n, opt_s, fi1, fi5, c_7, c_8, c_9, c_10, c_11]
                exact W.iret (v := nI (σ.1 0)) hx hb hr (fun t ht _ => ⟨_, rfl, by rw [hf, ht]; exact ⟨rfl, _, _, hw, hRep, by simp (disch := omega) only [xu_ne, xa_ne, hfw_12, hfa_12, y12_0, y12_1, y12_2, y12_3, hd1, hd2, hd3, hd4, hd5, hd6, nI_succ, bI_ff, bI_tt, nI_0], fun t h2 => ⟨by simp (disch := omega) only [xu_ne, xa_ne, hfw_12, hfa_12, y12_0, y12_1, y12_2, y12_3, hd1, hd2, hd3, hd4, hd5, hd6, nI_succ, bI_ff, bI_tt, nI_0], by simp (disch := omega) only [xu_ne, xa_ne, hfw_12, hfa_12, y12_0, y12_1, y12_2, y12_3, hd1, hd2, hd3, hd4, hd5, hd6, nI_succ, bI_ff, bI_tt, nI_0]⟩⟩, hS.F ht⟩) hS.2.2 d_A_mix_88
              · refine lv_iconst (v := (-1)) hx hb d_A_mix_65 (by decide) ?_
                have hf : f_mix σ (nI i1) (nI i5) = (σ, (-1)) := by simp [f_mix, opt_n, opt_s, fi1, fi5, c_7, c_8, c_9, c_10, c_11]
                refine W.widen (k := 4) (n := 49) (by decide) (by decide) ?_
                exact W.iret (v := (-1)) hx hb hr (fun t ht _ => ⟨_, rfl, by rw [hf, ht]; exact ⟨rfl, PX_same hw hR⟩, hS.F ht⟩) hS.2.2 d_A_mix_66
        · have c_8 : ¬ (σ.1 0) < 8 := fun z => c_8 ((nLT (a := σ.1 0) (b := 8) (by omega) (by omega)).mpr z)
          refine lv_iconst (v := (-1)) hx hb d_A_mix_36 (by decide) ?_
          have hf : f_mix σ (nI i1) (nI i5) = (σ, (-1)) := by simp [f_mix, opt_n, opt_s, fi1, fi5, c_7, c_8]
          refine W.widen (k := 4) (n := 49) (by decide) (by decide) ?_
          exact W.iret (v := (-1)) hx hb hr (fun t ht _ => ⟨_, rfl, by rw [hf, ht]; exact ⟨rfl, PX_same hw hR⟩, hS.F ht⟩) hS.2.2 d_A_mix_37
end
section
set_option maxHeartbeats 4000000 in
set_option maxRecDepth 100000 in
theorem c_A_init {l : Launch} {D : va_G} {K : Nat → ClassId} {B : Nat} {ad : Nat → Nat} {w : Nat → Option va_E} {H : Heap} (hw : xw D vwCl B ad w H) (h0 : w 0 = some (.inr (0, [.null, .int 0, .null, .int 0, .null, .int 0, .null, .int 0, .int 0, .long 0]))) (hB : B ≤ H.size) (a : Nat) (ha : ad 0 = a) : xC l D K B y_A_init b_A_init 1 none rm_A_init [.ref a] H (fun v H1 => v = none ∧ PX D K B ad w s_0 H1) := by
  refine Met.ofW (cc := b_A_init) (maxL := 1) (ret := none) (by decide) rfl ?_
  intro p e s m args below meth c s₁ B0 hml hv
  obtain ⟨rfl, hsz, hK, hN⟩ := hv
  have hx := B0.exec
  have hb := B0.bytes
  have hr := B0.returns
  have htw : ∀ w ∈ xW0, w.before [.ref a].toArray s = true := fun w h => atoms_spec (ws := Cond.code y_A_init b_A_init 1 none :: xW0) B0.pre w (List.mem_cons_of_mem _ h)
  have hown : s.vm.findClass R_A = some m.cls := findClass_of_methodNamed B0.named
  have hlocks := B0.notSynchronized
  have hin : meth.name = "<init>" := (name_of_methodNamed B0.named B0.method).1
  subst hsz
  have hS : va_S (fun q => B ≤ q) s.heap s.heap [] := va_S.rf
  have hl := lv_entry ([.ref a]) (n := 1) (Nat.le_of_ble_eq_true rfl)
  rw [lg_entry_eq]
  generalize (lg_sl ([.ref a]) ++ List.replicate (1 - (lg_sl ([.ref a])).length) Slot.unset).toArray = ls at hl ⊢
  have hl : lv_has ls 1 [(0, .ref a)] := hl
  have hH : s.heap = s.heap := rfl
  refine lv_aload_n hx hb d_A_init_0 rfl (lv_at hl 0 rfl) ?_
  refine W.objInit hx hb hown (htw _ u_14) (htw _ u_15) (htw _ u_16) rfl (by rw [hml]; exact hl.1) rfl d_A_init_1 (Nat.le_of_ble_eq_true rfl) (Nat.le_of_ble_eq_true rfl) ?_
  refine W.eq (g2 := F0 m 4 ls []) rfl ?_
  refine lv_aload_n hx hb d_A_init_4 rfl (lv_at hl 0 rfl) ?_
  refine lv_bipush (v := 8) hx hb d_A_init_5 (by decide) ?_
  refine xr_newq (N' := 8) hx hb hown (htw _ u_17) (hN (.arrayOver (.object R_B)) (by decide +kernel)).1 hK hw hS hB 1 2 rfl (by decide) (by decide) (by decide) (by decide) (by decide) d_A_init_7 (fun H ad_2 q_1 eq_1 lq_1 hw hS => ?_)
  have hw : xw D vwCl B ad_2 (xu w 1 (.inl (K 2, 8, .inr (.inr (.inr (.inr (fun _ => none))))))) H := hw
  have aq_1 : ad_2 1 = q_1 := by rw [eq_1]; exact xa_eq
  refine xr_putF (ci := 0) (v := .ref q_1) (ty := .array (.object "AshMetals$Batch")) (C := R_A) (T := T_A) (N := 10) hx hb htw in_A ty_A tk_A nm_A hown hK hw hS 0 ((xu_ne (by omega)).trans (h0)) ((show ad_2 0 = ad 0 by rw [eq_1]; exact xa_ne (by omega)).trans ha) rfl 0 (by decide) (htw _ u_41) (fun _ h9 => h9) rfl hin rfl (by decide +kernel) rfl rfl (Nat.le_of_ble_eq_true rfl) d_A_init_10 (fun H locs hw hS => ?_)
  have hw : xw D vwCl B ad_2 (xu (xu w 1 (.inl (K 2, 8, .inr (.inr (.inr (.inr (fun _ => none))))))) 0 (.inr (0, [.ref q_1, .int 0, .null, .int 0, .null, .int 0, .null, .int 0, .int 0, .long 0]))) H := hw
  refine lv_aload_n hx hb d_A_init_13 rfl (lv_at hl 0 rfl) ?_
  refine lv_bipush (v := 6) hx hb d_A_init_14 (by decide) ?_
  refine xr_newq (N' := 6) hx hb hown (htw _ u_19) (hN (.arrayOver (.object R_S)) (by decide +kernel)).1 hK hw hS hB 2 3 rfl (by decide) (by decide) (by decide) (by decide) (by decide) d_A_init_16 (fun H ad_4 q_3 eq_3 lq_3 hw hS => ?_)
  have hw : xw D vwCl B ad_4 (xu (xu (xu w 1 (.inl (K 2, 8, .inr (.inr (.inr (.inr (fun _ => none))))))) 0 (.inr (0, [.ref q_1, .int 0, .null, .int 0, .null, .int 0, .null, .int 0, .int 0, .long 0]))) 2 (.inl (K 3, 6, .inr (.inr (.inr (.inr (fun _ => none))))))) H := hw
  have aq_3 : ad_4 2 = q_3 := by rw [eq_3]; exact xa_eq
  refine xr_putF (ci := 0) (v := .ref q_3) (ty := .array (.object "AshMetals$Stage")) (C := R_A) (T := T_A) (N := 10) hx hb htw in_A ty_A tk_A nm_A hown hK hw hS 0 ((xu_ne (by omega)).trans (xu_eq)) ((show ad_4 0 = ad_2 0 by rw [eq_3]; exact xa_ne (by omega)).trans ((show ad_2 0 = ad 0 by rw [eq_1]; exact xa_ne (by omega)).trans ha)) rfl 2 (by decide) (htw _ u_43) (fun _ h9 => h9) rfl hin rfl (by decide +kernel) rfl rfl (Nat.le_of_ble_eq_true rfl) d_A_init_19 (fun H locs hw hS => ?_)
  have hw : xw D vwCl B ad_4 (xu (xu (xu (xu w 1 (.inl (K 2, 8, .inr (.inr (.inr (.inr (fun _ => none))))))) 0 (.inr (0, [.ref q_1, .int 0, .null, .int 0, .null, .int 0, .null, .int 0, .int 0, .long 0]))) 2 (.inl (K 3, 6, .inr (.inr (.inr (.inr (fun _ => none))))))) 0 (.inr (0, [.ref q_1, .int 0, .ref q_3, .int 0, .null, .int 0, .null, .int 0, .int 0, .long 0]))) H := hw
  refine lv_aload_n hx hb d_A_init_22 rfl (lv_at hl 0 rfl) ?_
  refine lv_bipush (v := 8) hx hb d_A_init_23 (by decide) ?_
  refine xr_newq (N' := 8) hx hb hown (htw _ u_21) (hN (.arrayOver (.object R_R)) (by decide +kernel)).1 hK hw hS hB 3 4 rfl (by decide) (by decide) (by decide) (by decide) (by decide) d_A_init_25 (fun H ad_6 q_5 eq_5 lq_5 hw hS => ?_)
  have hw : xw D vwCl B ad_6 (xu (xu (xu (xu (xu w 1 (.inl (K 2, 8, .inr (.inr (.inr (.inr (fun _ => none))))))) 0 (.inr (0, [.ref q_1, .int 0, .null, .int 0, .null, .int 0, .null, .int 0, .int 0, .long 0]))) 2 (.inl (K 3, 6, .inr (.inr (.inr (.inr (fun _ => none))))))) 0 (.inr (0, [.ref q_1, .int 0, .ref q_3, .int 0, .null, .int 0, .null, .int 0, .int 0, .long 0]))) 3 (.inl (K 4, 8, .inr (.inr (.inr (.inr (fun _ => none))))))) H := hw
  have aq_5 : ad_6 3 = q_5 := by rw [eq_5]; exact xa_eq
  refine xr_putF (ci := 0) (v := .ref q_5) (ty := .array (.object "AshMetals$Rule")) (C := R_A) (T := T_A) (N := 10) hx hb htw in_A ty_A tk_A nm_A hown hK hw hS 0 ((xu_ne (by omega)).trans (xu_eq)) ((show ad_6 0 = ad_4 0 by rw [eq_5]; exact xa_ne (by omega)).trans ((show ad_4 0 = ad_2 0 by rw [eq_3]; exact xa_ne (by omega)).trans ((show ad_2 0 = ad 0 by rw [eq_1]; exact xa_ne (by omega)).trans ha))) rfl 4 (by decide) (htw _ u_45) (fun _ h9 => h9) rfl hin rfl (by decide +kernel) rfl rfl (Nat.le_of_ble_eq_true rfl) d_A_init_28 (fun H locs hw hS => ?_)
  have hw : xw D vwCl B ad_6 (xu (xu (xu (xu (xu (xu w 1 (.inl (K 2, 8, .inr (.inr (.inr (.inr (fun _ => none))))))) 0 (.inr (0, [.ref q_1, .int 0, .null, .int 0, .null, .int 0, .null, .int 0, .int 0, .long 0]))) 2 (.inl (K 3, 6, .inr (.inr (.inr (.inr (fun _ => none))))))) 0 (.inr (0, [.ref q_1, .int 0, .ref q_3, .int 0, .null, .int 0, .null, .int 0, .int 0, .long 0]))) 3 (.inl (K 4, 8, .inr (.inr (.inr (.inr (fun _ => none))))))) 0 (.inr (0, [.ref q_1, .int 0, .ref q_3, .int 0, .ref q_5, .int 0, .null, .int 0, .int 0, .long 0]))) H := hw
  refine lv_aload_n hx hb d_A_init_31 rfl (lv_at hl 0 rfl) ?_
  refine xr_new (ci := 4) (fs := [.null, .null, .null]) (C := R_P) (T := T_P) (N := 3) hx hb htw in_P ty_P tk_P hown (htw _ u_23) (htw _ u_24) (htw _ u_2) hK hw hS hB 4 rfl (fun j hj => by rcases (show j = 0 ∨ j = 1 ∨ j = 2 by omega) with rfl | rfl | rfl <;> rfl) (by decide) (by decide) d_A_init_32 (fun H ad_8 q_7 eq_7 lq_7 hw hS => ?_)
  have hw : xw D vwCl B ad_8 (xu (xu (xu (xu (xu (xu (xu w 1 (.inl (K 2, 8, .inr (.inr (.inr (.inr (fun _ => none))))))) 0 (.inr (0, [.ref q_1, .int 0, .null, .int 0, .null, .int 0, .null, .int 0, .int 0, .long 0]))) 2 (.inl (K 3, 6, .inr (.inr (.inr (.inr (fun _ => none))))))) 0 (.inr (0, [.ref q_1, .int 0, .ref q_3, .int 0, .null, .int 0, .null, .int 0, .int 0, .long 0]))) 3 (.inl (K 4, 8, .inr (.inr (.inr (.inr (fun _ => none))))))) 0 (.inr (0, [.ref q_1, .int 0, .ref q_3, .int 0, .ref q_5, .int 0, .null, .int 0, .int 0, .long 0]))) 4 (.inr (4, [.null, .null, .null]))) H := hw
  have aq_7 : ad_8 4 = q_7 := by rw [eq_7]; exact xa_eq
  refine lv_dup hx hb d_A_init_35 rfl ?_
  refine xr_call (va_runI (As := []) (rest := [.ref q_7, .ref a]) ⟨hx, hb, hml, hown, htw⟩ (c_P_init (ad := ad_8) hw 4 5 6 7 (by omega) xu_eq (Nat.le_trans hB hS.1) q_7 aq_7) (cwI 0 htw (gC u_27) rfl rfl rfl (htw _ u_2) (htw _ u_25) (htw _ u_26) rfl hd_P_init.2 ⟨Nat.le_of_ble_eq_true rfl, Nat.le_of_ble_eq_true rfl⟩) ⟨xP_blind, xP_of hK hN⟩ rfl rfl hl.1 rfl (lv_room (Nat.le_of_ble_eq_true rfl)) d_A_init_36 ⟨by decide, by decide⟩) hS (fun v H_ locs hp hS => ?_)
  obtain ⟨rfl, ad_9, w_9, hw, y9_0, y9_1, y9_2, y9_3, z9, hfr⟩ := hp
  generalize H_ = H at hw hS ⊢
  have hfw_9 : ∀ u, u ≠ 4 → u ≠ 5 → u ≠ 6 → u ≠ 7 → w_9 u = (xu (xu (xu (xu (xu (xu (xu w 1 (.inl (K 2, 8, .inr (.inr (.inr (.inr (fun _ => none))))))) 0 (.inr (0, [.ref q_1, .int 0, .null, .int 0, .null, .int 0, .null, .int 0, .int 0, .long 0]))) 2 (.inl (K 3, 6, .inr (.inr (.inr (.inr (fun _ => none))))))) 0 (.inr (0, [.ref q_1, .int 0, .ref q_3, .int 0, .null, .int 0, .null, .int 0, .int 0, .long 0]))) 3 (.inl (K 4, 8, .inr (.inr (.inr (.inr (fun _ => none))))))) 0 (.inr (0, [.ref q_1, .int 0, .ref q_3, .int 0, .ref q_5, .int 0, .null, .int 0, .int 0, .long 0]))) 4 (.inr (4, [.null, .null, .null]))) u := fun u h0 h1 h2 h3 => (hfr u (by simp only [List.mem_cons, List.not_mem_nil, or_false, not_or]; exact ⟨h0, h1, h2, h3⟩)).1
  have hfa_9 : ∀ u, u ≠ 4 → u ≠ 5 → u ≠ 6 → u ≠ 7 → ad_9 u = ad_8 u := fun u h0 h1 h2 h3 => (hfr u (by simp only [List.mem_cons, List.not_mem_nil, or_false, not_or]; exact ⟨h0, h1, h2, h3⟩)).2
  refine W.eq (g2 := F0 m 39 ls [.ref q_7, .ref a]) rfl ?_
  refine xr_putF (ci := 0) (v := .ref q_7) (ty := .object "AshMetals$PriceTable") (C := R_A) (T := T_A) (N := 10) hx hb htw in_A ty_A tk_A nm_A hown hK hw hS 0 ((hfw_9 0 (by omega) (by omega) (by omega) (by omega)).trans ((xu_ne (by omega)).trans (xu_eq))) ((hfa_9 0 (by omega) (by omega) (by omega) (by omega)).trans ((show ad_8 0 = ad_6 0 by rw [eq_7]; exact xa_ne (by omega)).trans ((show ad_6 0 = ad_4 0 by rw [eq_5]; exact xa_ne (by omega)).trans ((show ad_4 0 = ad_2 0 by rw [eq_3]; exact xa_ne (by omega)).trans ((show ad_2 0 = ad 0 by rw [eq_1]; exact xa_ne (by omega)).trans ha))))) rfl 6 (by decide) (htw _ u_47) (fun _ h9 => h9) rfl hin rfl (by decide +kernel) rfl rfl (Nat.le_of_ble_eq_true rfl) d_A_init_39 (fun H locs hw hS => ?_)
  have hw : xw D vwCl B ad_9 (xu w_9 0 (.inr (0, [.ref q_1, .int 0, .ref q_3, .int 0, .ref q_5, .int 0, .ref q_7, .int 0, .int 0, .long 0]))) H := hw
  refine lv_aload_n hx hb d_A_init_42 rfl (lv_at hl 0 rfl) ?_
  refine lv_bipush (v := 50) hx hb d_A_init_43 (by decide) ?_
  refine xr_put (ci := 0) (v := .int 50) (ty := .int) (C := R_A) (T := T_A) (N := 10) hx hb htw in_A ty_A tk_A nm_A hown hK hw hS 0 xu_eq ((hfa_9 0 (by omega) (by omega) (by omega) (by omega)).trans ((show ad_8 0 = ad_6 0 by rw [eq_7]; exact xa_ne (by omega)).trans ((show ad_6 0 = ad_4 0 by rw [eq_5]; exact xa_ne (by omega)).trans ((show ad_4 0 = ad_2 0 by rw [eq_3]; exact xa_ne (by omega)).trans ((show ad_2 0 = ad 0 by rw [eq_1]; exact xa_ne (by omega)).trans ha))))) rfl 8 (by decide) (htw _ u_49) (fun _ h9 => h9) rfl (by decide +kernel) rfl rfl (Nat.le_of_ble_eq_true rfl) d_A_init_45 (fun H locs hw hS => ?_)
  have hw : xw D vwCl B ad_9 (xu (xu w_9 0 (.inr (0, [.ref q_1, .int 0, .ref q_3, .int 0, .ref q_5, .int 0, .ref q_7, .int 0, .int 0, .long 0]))) 0 (.inr (0, [.ref q_1, .int 0, .ref q_3, .int 0, .ref q_5, .int 0, .ref q_7, .int 0, .int 50, .long 0]))) H := hw
  have hRep : RepX K s_0 ad_9 (xu (xu w_9 0 (.inr (0, [.ref q_1, .int 0, .ref q_3, .int 0, .ref q_5, .int 0, .ref q_7, .int 0, .int 0, .long 0]))) 0 (.inr (0, [.ref q_1, .int 0, .ref q_3, .int 0, .ref q_5, .int 0, .ref q_7, .int 0, .int 50, .long 0]))) := by
    refine ⟨?_, ?_, ?_, ?_, ?_, ?_, ?_, ?_, ?_, ?_, ?_, ?_, ?_, ?_, ?_⟩
    · simp (disch := omega) [pN, pI, pL, pZ, row_eq, row_ne, xu_eq, xu_ne, xa_eq, xa_ne, pk_us, pk_un, pk_uLs, pk_uLn, eq_1, eq_3, eq_5, eq_7, hfw_9, hfa_9, z9, y9_0, y9_1, y9_2, y9_3, s_0, nI_0]
    · simp (disch := omega) [pN, pI, pL, pZ, row_eq, row_ne, xu_eq, xu_ne, xa_eq, xa_ne, pk_us, pk_un, pk_uLs, pk_uLn, eq_1, eq_3, eq_5, eq_7, hfw_9, hfa_9, z9, y9_0, y9_1, y9_2, y9_3, s_0, nI_0]
    · simp (disch := omega) [pN, pI, pL, pZ, row_eq, row_ne, xu_eq, xu_ne, xa_eq, xa_ne, pk_us, pk_un, pk_uLs, pk_uLn, eq_1, eq_3, eq_5, eq_7, hfw_9, hfa_9, z9, y9_0, y9_1, y9_2, y9_3, s_0, nI_0]
    · simp (disch := omega) [pN, pI, pL, pZ, row_eq, row_ne, xu_eq, xu_ne, xa_eq, xa_ne, pk_us, pk_un, pk_uLs, pk_uLn, eq_1, eq_3, eq_5, eq_7, hfw_9, hfa_9, z9, y9_0, y9_1, y9_2, y9_3, s_0, nI_0]
    · simp (disch := omega) [pN, pI, pL, pZ, row_eq, row_ne, xu_eq, xu_ne, xa_eq, xa_ne, pk_us, pk_un, pk_uLs, pk_uLn, eq_1, eq_3, eq_5, eq_7, hfw_9, hfa_9, z9, y9_0, y9_1, y9_2, y9_3, s_0, nI_0]
    · simp (disch := omega) [pN, pI, pL, pZ, row_eq, row_ne, xu_eq, xu_ne, xa_eq, xa_ne, pk_us, pk_un, pk_uLs, pk_uLn, eq_1, eq_3, eq_5, eq_7, hfw_9, hfa_9, z9, y9_0, y9_1, y9_2, y9_3, s_0, nI_0]
    · simp (disch := omega) [pN, pI, pL, pZ, row_eq, row_ne, xu_eq, xu_ne, xa_eq, xa_ne, pk_us, pk_un, pk_uLs, pk_uLn, eq_1, eq_3, eq_5, eq_7, hfw_9, hfa_9, z9, y9_0, y9_1, y9_2, y9_3, s_0, nI_0]
    · simp (disch := omega) [pN, pI, pL, pZ, row_eq, row_ne, xu_eq, xu_ne, xa_eq, xa_ne, pk_us, pk_un, pk_uLs, pk_uLn, eq_1, eq_3, eq_5, eq_7, hfw_9, hfa_9, z9, y9_0, y9_1, y9_2, y9_3, s_0, nI_0]
    · intro jj hj; exact absurd hj (Nat.not_lt_zero jj)
    · intro jj hj; exact absurd hj (Nat.not_lt_zero jj)
    · intro jj hj; exact absurd hj (Nat.not_lt_zero jj)
    · intro jj hj; exact absurd hj (Nat.not_lt_zero jj)
    · intro jj hj; exact absurd hj (Nat.not_lt_zero jj)
    · intro jj hj; exact absurd hj (Nat.not_lt_zero jj)
    · intro jj hj; exact absurd hj (Nat.not_lt_zero jj)
  exact W.vret hx hb hr (fun t ht _ => ⟨_, rfl, by rw [ht]; exact ⟨rfl, _, _, hw, hRep, by simp (disch := omega) only [xu_ne, xa_ne, eq_1, eq_3, eq_5, eq_7, hfw_9, hfa_9, z9, y9_0, y9_1, y9_2, y9_3], fun t h2 => ⟨by simp (disch := omega) only [xu_ne, xa_ne, eq_1, eq_3, eq_5, eq_7, hfw_9, hfa_9, z9, y9_0, y9_1, y9_2, y9_3], by simp (disch := omega) only [xu_ne, xa_ne, eq_1, eq_3, eq_5, eq_7, hfw_9, hfa_9, z9, y9_0, y9_1, y9_2, y9_3]⟩⟩, hS.F ht⟩) hS.2.2 d_A_init_48
end
section
/-- behind a call that changes the reference -/
def PM (D : va_G) (K : Nat → ClassId) (B : Nat) (ad : Nat → Nat) (w : Nat → Option va_E) (σ : xS) (H1 : Heap) : Prop :=
  ∃ w1 : Nat → Option va_E, xw D vwCl B ad w1 H1 ∧ RepM K σ ad w1 ∧ ∀ t, t < 200 → w1 t = w t
theorem PM_same {D : va_G} {K : Nat → ClassId} {B : Nat} {ad : Nat → Nat} {w : Nat → Option va_E} {σ : xS} {H : Heap} (hw : xw D vwCl B ad w H) (hR : RepM K σ ad w) : PM D K B ad w σ H := ⟨w, hw, hR, fun _ _ => rfl⟩
/-- rows that lie in one array -/
theorem relA {F : Nat → Int64} {G : Nat → Nat → Int64} {c n i k : Nat} {v : Int64} (h : ∀ b q, b < n → q < 4 → F (4 * b + q) = G (c + b) q) (hk : k < 4) : ∀ b q, b < n → q < 4 → vp_updL F (4 * i + k) v (4 * b + q) = row G (c + i) (vp_updL (G (c + i)) k v) (c + b) q := by
  intro b q hb hq
  by_cases e : b = i
  · subst e
    rw [row_eq]
    by_cases e2 : q = k
    · subst e2; rw [pk_uLs, pk_uLs]
    · rw [pk_uLn (by omega), pk_uLn e2]; exact h b q hb hq
  · rw [row_ne (by omega), pk_uLn (by omega)]; exact h b q hb hq
theorem relT {F : Nat → Int64} {G : Nat → Nat → Int64} {c n i k : Nat} {v : Int64} (h : ∀ b q, b < n → q < 24 → F (24 * b + q) = G (c + b) q) (hk : k < 24) : ∀ b q, b < n → q < 24 → vp_updL F (24 * i + k) v (24 * b + q) = row G (c + i) (vp_updL (G (c + i)) k v) (c + b) q := by
  intro b q hb hq
  by_cases e : b = i
  · subst e
    rw [row_eq]
    by_cases e2 : q = k
    · subst e2; rw [pk_uLs, pk_uLs]
    · rw [pk_uLn (by omega), pk_uLn e2]; exact h b q hb hq
  · rw [row_ne (by omega), pk_uLn (by omega)]; exact h b q hb hq
theorem relO {F : Nat → Int32} {G : Nat → Nat → Int32} {c n i k : Nat} {v : Int32} (h : ∀ b q, b < n → q < 12 → F (12 * b + q) = G (c + b) q) (hk : k < 12) : ∀ b q, b < n → q < 12 → upd F (12 * i + k) v (12 * b + q) = row G (c + i) (upd (G (c + i)) k v) (c + b) q := by
  intro b q hb hq
  by_cases e : b = i
  · subst e
    rw [row_eq]
    by_cases e2 : q = k
    · subst e2; rw [pk_us, pk_us]
    · rw [pk_un (by omega), pk_un e2]; exact h b q hb hq
  · rw [row_ne (by omega), pk_un (by omega)]; exact h b q hb hq
/-- the first s labs' words of batch m are -1 -/
def relN (F : Nat → Int32) (G : Nat → Nat → Int32) (m s : Nat) : Prop := ∀ b q, b < 8 → q < 12 → F (12 * b + q) = if b = m ∧ q < s then -1 else G (20 + b) q
theorem relN_0 {F : Nat → Int32} {G : Nat → Nat → Int32} {m : Nat} (h : ∀ b q, b < 8 → q < 12 → F (12 * b + q) = G (20 + b) q) : relN F G m 0 := fun b q hb hq => by rw [if_neg (by omega)]; exact h b q hb hq
theorem relN_s {F : Nat → Int32} {G : Nat → Nat → Int32} {m s : Nat} (h : relN F G m s) (hs : s < 12) : relN (upd F (12 * m + s) (-1)) G m (s + 1) := fun b q hb hq => by
  by_cases e : b = m ∧ q = s
  · obtain ⟨rfl, rfl⟩ := e
    rw [pk_us, if_pos (by omega)]
  · rw [pk_un (by omega), h b q hb hq]
    by_cases e2 : b = m ∧ q < s
    · rw [if_pos e2, if_pos (by omega)]
    · rw [if_neg e2, if_neg (by omega)]
theorem relN_12 {F : Nat → Int32} {G : Nat → Nat → Int32} {m : Nat} (h : relN F G m 12) : ∀ b q, b < 8 → q < 12 → F (12 * b + q) = row G (20 + m) (fun _ => -1) (20 + b) q := fun b q hb hq => by
  rw [h b q hb hq]
  by_cases e : b = m
  · subst e; rw [if_pos (by omega), row_eq]
  · rw [if_neg (by omega), row_ne (by omega)]
theorem fz_up {f : Nat → Bool} {k : Nat} {b : Bool} {x : Int32} (hx : x = bI b) : upd (fun j => bI (f j)) k x = fun j => bI (row f k b j) := by
  funext j
  by_cases h : j = k
  · subst h; rw [pk_us, row_eq, hx]
  · rw [pk_un h, row_ne h]
theorem row_same {α : Type} {f : Nat → α} {k : Nat} {v : α} (h : f k = v) : row f k v = f := by
  funext j
  by_cases e : j = k
  · subst e; rw [row_eq, h]
  · rw [row_ne e]
theorem row_row {α : Type} {f : Nat → α} {k : Nat} {u v : α} : row (row f k u) k v = row f k v := by
  funext j
  by_cases e : j = k
  · subst e; rw [row_eq, row_eq]
  · rw [row_ne e, row_ne e, row_ne e]
/-- two roads that meet -/
theorem xjoin {p : Program} {l : Launch} {e : Env} {R : Room} {s : State} {m : MethodId} {args : Array Value} {below : List Frame} {meth : Method} {c : Code} {H : Heap} {locs : List Loc} {cells slots : Nat} {Q : State → Prop} {pc : Nat} {ls : Array Slot} {st : List Value} (pcj : Nat) (stj : List Value) (hj : W p l e R s m args below meth c H locs cells slots Q (F0 m pcj ls stj)) (hb : W p l e R s m args below meth c H locs cells slots Q (F0 m pcj ls stj) → W p l e R s m args below meth c H locs cells slots Q (F0 m pc ls st)) : W p l e R s m args below meth c H locs cells slots Q (F0 m pc ls st) := hb hj
def lst (x y : Int32) : Int32 := if x < y then x else y
def grt (x y : Int32) : Int32 := if y < x then x else y
theorem opt_c {α : Type} {o : Option Nat} {d : α} : opt o d (fun _ => d) = d := by cases o <;> rfl
/-- the reference's words on three labs' words -/
def tlo (T : Nat → Int32) (k : Nat) : Int32 := lst (T (k * 3)) (lst (T (k * 3 + 1)) (T (k * 3 + 2)))
def thi (T : Nat → Int32) (k : Nat) : Int32 := grt (T (k * 3)) (grt (T (k * 3 + 1)) (T (k * 3 + 2)))
def tld (T : Nat → Int32) (k : Nat) (x : Int32) : Int32 := if allT T k then (if x = 0 then tlo T k else if x = 2 then thi T k else T (k * 3) + T (k * 3 + 1) + T (k * 3 + 2) - tlo T k - thi T k) else -1
def okT (T : Nat → Int32) (k : Nat) : Prop := (T (k * 3) = -1 ∨ 0 ≤ T (k * 3)) ∧ (T (k * 3 + 1) = -1 ∨ 0 ≤ T (k * 3 + 1)) ∧ (T (k * 3 + 2) = -1 ∨ 0 ≤ T (k * 3 + 2))
theorem i32_m1 : (-1 : Int32).toInt = -1 := by decide
theorem ok_neg {x : Int32} (h : x = -1 ∨ 0 ≤ x) : x < 0 ↔ x = -1 := by
  constructor
  · intro hx
    rcases h with h | h
    · exact h
    · rw [Int32.lt_iff_toInt_lt] at hx; rw [Int32.le_iff_toInt_le] at h; omega
  · rintro rfl; decide
theorem ok_n1 {x : Int32} (h : x = -1 ∨ 0 ≤ x) (hx : ¬ x < 0) : ¬ x = -1 := fun e => hx ((ok_neg h).mpr e)
theorem i32_tri {x y z l h : Int32} (e : (l = x ∧ h = y) ∨ (l = x ∧ h = z) ∨ (l = y ∧ h = x) ∨ (l = y ∧ h = z) ∨ (l = z ∧ h = x) ∨ (l = z ∧ h = y) ) : (l = x ∧ h = y → x + y + z - l - h = z) ∧ (l = x ∧ h = z → x + y + z - l - h = y) ∧ (l = y ∧ h = x → x + y + z - l - h = z) ∧ (l = y ∧ h = z → x + y + z - l - h = x) ∧ (l = z ∧ h = x → x + y + z - l - h = y) ∧ (l = z ∧ h = y → x + y + z - l - h = x) := by
  have key : ∀ a b c : Int32, a + b + c - a - b = c ∧ a + b + c - a - c = b ∧ a + b + c - b - a = c ∧ a + b + c - b - c = a ∧ a + b + c - c - a = b ∧ a + b + c - c - b = a := by
    intro a b c
    refine ⟨?_, ?_, ?_, ?_, ?_, ?_⟩ <;> (apply Int32.toBitVec_inj.mp; simp only [Int32.toBitVec_add, Int32.toBitVec_sub]; generalize a.toBitVec = a; generalize b.toBitVec = b; generalize c.toBitVec = c; first | (apply BitVec.eq_of_toNat_eq; simp only [BitVec.toNat_add, BitVec.toNat_sub]; omega))
  obtain ⟨k1, k2, k3, k4, k5, k6⟩ := key x y z
  refine ⟨?_, ?_, ?_, ?_, ?_, ?_⟩ <;> (rintro ⟨rfl, rfl⟩; assumption)
end
section
theorem i32_tr (a b : Int32) : (a < b ∧ ¬ b < a ∧ a.toInt < b.toInt ∧ True) ∨ (¬ a < b ∧ ¬ b < a ∧ a.toInt = b.toInt ∧ a = b) ∨ (¬ a < b ∧ b < a ∧ b.toInt < a.toInt ∧ True) := by
  simp only [Int32.lt_iff_toInt_lt]
  rcases Int.lt_trichotomy a.toInt b.toInt with h | h | h
  · exact Or.inl ⟨h, by omega, h, trivial⟩
  · exact Or.inr (Or.inl ⟨by omega, by omega, h, Int32.toInt_inj.mp h⟩)
  · exact Or.inr (Or.inr ⟨by omega, h, h, trivial⟩)
theorem i32_irr (a : Int32) : ¬ a < a := fun h => by rw [Int32.lt_iff_toInt_lt] at h; omega
theorem i32_trans {a b c : Int32} (h1 : a < b) (h2 : b < c) : a < c := by rw [Int32.lt_iff_toInt_lt] at *; omega
theorem i32_ring (a b c : Int32) : a + b + c - a - b = c ∧ a + b + c - a - c = b ∧ a + b + c - b - a = c ∧ a + b + c - b - c = a ∧ a + b + c - c - a = b ∧ a + b + c - c - b = a := by
  refine ⟨?_, ?_, ?_, ?_, ?_, ?_⟩ <;> (apply Int32.toBitVec_inj.mp; simp only [Int32.toBitVec_add, Int32.toBitVec_sub]; generalize a.toBitVec = a; generalize b.toBitVec = b; generalize c.toBitVec = c; apply BitVec.eq_of_toNat_eq; simp only [BitVec.toNat_add, BitVec.toNat_sub]; omega)
theorem mid3 (a b c : Int32) : a + b + c - lst a (lst b c) - grt a (grt b c) = mx (mn a b) (mn (mx a b) c) := by
  obtain ⟨r1, r2, r3, r4, r5, r6⟩ := i32_ring a b c
  unfold lst grt mx mn
  rcases i32_tr a b with ⟨h1, h2, h3, h4⟩ | ⟨h1, h2, h3, h4⟩ | ⟨h1, h2, h3, h4⟩ <;> rcases i32_tr b c with ⟨k1, k2, k3, k4⟩ | ⟨k1, k2, k3, k4⟩ | ⟨k1, k2, k3, k4⟩ <;> rcases i32_tr a c with ⟨l1, l2, l3, l4⟩ | ⟨l1, l2, l3, l4⟩ | ⟨l1, l2, l3, l4⟩ <;>
    first
      | (exfalso; omega)
      | (simp only [h1, h2, k1, k2, l1, l2, i32_irr, if_true, if_false]; first | assumption | (simp only [h4] at *; first | assumption | simp_all) | (simp only [k4] at *; first | assumption | simp_all) | (simp only [l4] at *; first | assumption | simp_all) | simp_all)
theorem spr3 (a b c : Int32) : grt a (grt b c) = mx (mx a b) c ∧ lst a (lst b c) = mn (mn a b) c := by
  unfold lst grt mx mn
  rcases i32_tr a b with ⟨h1, h2, h3, h4⟩ | ⟨h1, h2, h3, h4⟩ | ⟨h1, h2, h3, h4⟩ <;> rcases i32_tr b c with ⟨k1, k2, k3, k4⟩ | ⟨k1, k2, k3, k4⟩ | ⟨k1, k2, k3, k4⟩ <;> rcases i32_tr a c with ⟨l1, l2, l3, l4⟩ | ⟨l1, l2, l3, l4⟩ | ⟨l1, l2, l3, l4⟩ <;>
    first
      | (exfalso; omega)
      | (simp only [h1, h2, k1, k2, l1, l2, i32_irr, if_true, if_false, and_self]; done)
      | (simp only [h1, h2, k1, k2, l1, l2, i32_irr, if_true, if_false]; simp_all)
theorem tld_mid (T : Nat → Int32) (k : Nat) : tld T k 1 = mid T k := by
  unfold tld mid tlo thi
  rw [if_neg (show ¬ (1 : Int32) = 0 by decide), if_neg (show ¬ (1 : Int32) = 2 by decide), mid3]
theorem tld_spr (T : Nat → Int32) (k : Nat) {x : Int32} (hx : 0 ≤ x) : tld T k 2 - tld T k 0 ≤ x ↔ spr T k ≤ x := by
  unfold tld spr tlo thi
  rw [if_neg (show ¬ (2 : Int32) = 0 by decide), if_pos (show (2 : Int32) = 2 by decide), if_pos (show (0 : Int32) = 0 by decide), (spr3 _ _ _).1, (spr3 _ _ _).2]
  by_cases h : allT T k = true
  · rw [if_pos h, if_pos h, if_pos h]
  · rw [if_neg h, if_neg h, if_neg h]
    rw [show (-1 : Int32) - -1 = 0 by decide]
    refine ⟨fun _ => ?_, fun _ => hx⟩
    rw [Int32.le_iff_toInt_le] at *
    rw [i32_m1]
    rw [show (0 : Int32).toInt = 0 by decide] at hx
    omega
theorem mx_ok {a b : Int32} (ha : 0 ≤ a) (hb : 0 ≤ b) : 0 ≤ mx a b := by unfold mx; split <;> assumption
theorem mn_ok {a b : Int32} (ha : 0 ≤ a) (hb : 0 ≤ b) : 0 ≤ mn a b := by unfold mn; split <;> assumption
theorem mid_ok {T : Nat → Int32} {k : Nat} (h : okT T k) : mid T k = -1 ∨ 0 ≤ mid T k := by
  unfold mid
  by_cases ha : allT T k = true
  · rw [if_pos ha]
    simp only [allT, Bool.and_eq_true, Bool.not_eq_true', decide_eq_false_iff_not] at ha
    obtain ⟨h0, h1, h2⟩ := h
    have g0 := h0.resolve_left ha.1
    have g1 := h1.resolve_left ha.2.1
    have g2 := h2.resolve_left ha.2.2
    exact Or.inr (mx_ok (mn_ok g0 g1) (mn_ok (mx_ok g0 g1) g2))
  · rw [if_neg ha]; exact Or.inl rfl
end
