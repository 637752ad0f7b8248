-- ===== PART A: goes FIRST, ahead of the names: the tables' words, and 'selects' of the private methods out of them =====
/-- a private method of a class that the tables say can be made, by its rows of tables_1 -/
def lw_okq (q : MethodName × Nat) : Prop := (q.1.cls ≠ "java/lang/invoke/MethodHandle" ∧ q.1.cls ≠ "java/lang/invoke/VarHandle") ∧ Cond.instantiable q.1.cls q.2 ∈ tables_1 ∧ Cond.privateMethod q.1 ∈ tables_1 ∧ Cond.instanceMethod q.1 ∈ tables_1
theorem lw_p0 : lw_okq (⟨"AshMetals", "keepBatch", "(LAshMetals$Batch;)I"⟩, 10) := ⟨⟨by decide +kernel, by decide +kernel⟩, List.mem_of_getElem? (i := 10) (by decide +kernel), List.mem_of_getElem? (i := 124) (by decide +kernel), List.mem_of_getElem? (i := 125) (by decide +kernel)⟩
theorem lw_p1 : lw_okq (⟨"AshMetals", "batchAt", "(I)LAshMetals$Batch;"⟩, 10) := ⟨⟨by decide +kernel, by decide +kernel⟩, List.mem_of_getElem? (i := 10) (by decide +kernel), List.mem_of_getElem? (i := 132) (by decide +kernel), List.mem_of_getElem? (i := 133) (by decide +kernel)⟩
theorem lw_p2 : lw_okq (⟨"AshMetals", "passThrough", "(LAshMetals$Batch;I)V"⟩, 10) := ⟨⟨by decide +kernel, by decide +kernel⟩, List.mem_of_getElem? (i := 10) (by decide +kernel), List.mem_of_getElem? (i := 173) (by decide +kernel), List.mem_of_getElem? (i := 174) (by decide +kernel)⟩
theorem lw_p3 : lw_okq (⟨"AshMetals", "stageAt", "(I)LAshMetals$Stage;"⟩, 10) := ⟨⟨by decide +kernel, by decide +kernel⟩, List.mem_of_getElem? (i := 10) (by decide +kernel), List.mem_of_getElem? (i := 177) (by decide +kernel), List.mem_of_getElem? (i := 178) (by decide +kernel)⟩
theorem lw_p4 : lw_okq (⟨"AshMetals$PriceTable", "countOf", "(I)I"⟩, 3) := ⟨⟨by decide +kernel, by decide +kernel⟩, List.mem_of_getElem? (i := 24) (by decide +kernel), List.mem_of_getElem? (i := 213) (by decide +kernel), List.mem_of_getElem? (i := 214) (by decide +kernel)⟩
theorem lw_p5 : lw_okq (⟨"AshMetals$PriceTable", "centsOn", "(II)J"⟩, 3) := ⟨⟨by decide +kernel, by decide +kernel⟩, List.mem_of_getElem? (i := 24) (by decide +kernel), List.mem_of_getElem? (i := 226) (by decide +kernel), List.mem_of_getElem? (i := 227) (by decide +kernel)⟩
theorem lw_p6 : lw_okq (⟨"AshMetals$Batch", "allTold", "(I)Z"⟩, 9) := ⟨⟨by decide +kernel, by decide +kernel⟩, List.mem_of_getElem? (i := 80) (by decide +kernel), List.mem_of_getElem? (i := 255) (by decide +kernel), List.mem_of_getElem? (i := 256) (by decide +kernel)⟩
theorem lw_p7 : lw_okq (⟨"AshMetalsModel", "add", "(JI)I"⟩, 26) := ⟨⟨by decide +kernel, by decide +kernel⟩, List.mem_of_getElem? (i := 329) (by decide +kernel), List.mem_of_getElem? (i := 423) (by decide +kernel), List.mem_of_getElem? (i := 424) (by decide +kernel)⟩
theorem lw_p8 : lw_okq (⟨"AshMetalsModel", "isBatch", "(I)Z"⟩, 26) := ⟨⟨by decide +kernel, by decide +kernel⟩, List.mem_of_getElem? (i := 329) (by decide +kernel), List.mem_of_getElem? (i := 431) (by decide +kernel), List.mem_of_getElem? (i := 432) (by decide +kernel)⟩
theorem lw_p9 : lw_okq (⟨"AshMetalsModel", "isStage", "(I)Z"⟩, 26) := ⟨⟨by decide +kernel, by decide +kernel⟩, List.mem_of_getElem? (i := 329) (by decide +kernel), List.mem_of_getElem? (i := 470) (by decide +kernel), List.mem_of_getElem? (i := 471) (by decide +kernel)⟩
theorem lw_p10 : lw_okq (⟨"AshMetalsModel", "worthOf", "([JII)J"⟩, 26) := ⟨⟨by decide +kernel, by decide +kernel⟩, List.mem_of_getElem? (i := 329) (by decide +kernel), List.mem_of_getElem? (i := 482) (by decide +kernel), List.mem_of_getElem? (i := 483) (by decide +kernel)⟩
theorem lw_p11 : lw_okq (⟨"AshMetalsModel", "priceOn", "(II)J"⟩, 26) := ⟨⟨by decide +kernel, by decide +kernel⟩, List.mem_of_getElem? (i := 329) (by decide +kernel), List.mem_of_getElem? (i := 486) (by decide +kernel), List.mem_of_getElem? (i := 487) (by decide +kernel)⟩
theorem lw_p12 : lw_okq (⟨"AshMetalsModel", "told", "(III)I"⟩, 26) := ⟨⟨by decide +kernel, by decide +kernel⟩, List.mem_of_getElem? (i := 329) (by decide +kernel), List.mem_of_getElem? (i := 507) (by decide +kernel), List.mem_of_getElem? (i := 508) (by decide +kernel)⟩
def lw_privs_1 : List (MethodName × Nat) := [(⟨"AshMetals", "keepBatch", "(LAshMetals$Batch;)I"⟩, 10), (⟨"AshMetals", "batchAt", "(I)LAshMetals$Batch;"⟩, 10), (⟨"AshMetals", "passThrough", "(LAshMetals$Batch;I)V"⟩, 10), (⟨"AshMetals", "stageAt", "(I)LAshMetals$Stage;"⟩, 10), (⟨"AshMetals$PriceTable", "countOf", "(I)I"⟩, 3), (⟨"AshMetals$PriceTable", "centsOn", "(II)J"⟩, 3), (⟨"AshMetals$Batch", "allTold", "(I)Z"⟩, 9), (⟨"AshMetalsModel", "add", "(JI)I"⟩, 26), (⟨"AshMetalsModel", "isBatch", "(I)Z"⟩, 26), (⟨"AshMetalsModel", "isStage", "(I)Z"⟩, 26), (⟨"AshMetalsModel", "worthOf", "([JII)J"⟩, 26), (⟨"AshMetalsModel", "priceOn", "(II)J"⟩, 26), (⟨"AshMetalsModel", "told", "(III)I"⟩, 26)]
theorem lw_r1 : ∀ q ∈ lw_privs_1, lw_okq q := List.forall_mem_cons.mpr ⟨lw_p0, List.forall_mem_cons.mpr ⟨lw_p1, List.forall_mem_cons.mpr ⟨lw_p2, List.forall_mem_cons.mpr ⟨lw_p3, List.forall_mem_cons.mpr ⟨lw_p4, List.forall_mem_cons.mpr ⟨lw_p5, List.forall_mem_cons.mpr ⟨lw_p6, List.forall_mem_cons.mpr ⟨lw_p7, List.forall_mem_cons.mpr ⟨lw_p8, List.forall_mem_cons.mpr ⟨lw_p9, List.forall_mem_cons.mpr ⟨lw_p10, List.forall_mem_cons.mpr ⟨lw_p11, List.forall_mem_cons.mpr ⟨lw_p12, fun _ h => absurd h List.not_mem_nil⟩⟩⟩⟩⟩⟩⟩⟩⟩⟩⟩⟩⟩
def lw_privs : List (MethodName × Nat) := lw_privs_1
def lw_tbl : List Cond := k2_sels lw_privs ++ tables_1
theorem lw_privs_ok : ∀ q ∈ lw_privs, lw_okq q := lw_r1

/-- the words that every method gets: all good ones of the tables -/
def xW0 : List Cond := lw_tbl.filter goodWord
theorem mW {w : Cond} (i : Nat) (h : lw_tbl[i]? = some w) (g : goodWord w = true) : w ∈ xW0 := List.mem_filter.mpr ⟨List.mem_of_getElem? h, g⟩
theorem gAll {big ws : List Cond} (hb : ∀ w ∈ xW0, w ∈ big) (h : ∀ w ∈ ws, w ∈ xW0) : GoodIn big ws := fun w hw => ⟨hb w (h w hw), good_of_word (List.mem_filter.mp (h w hw)).2⟩
theorem xW0_tbl : ∀ w ∈ xW0, w ∈ lw_tbl := fun _ h => (List.mem_filter.mp h).1
abbrev R_A : String := "AshMetals"
abbrev R_B : String := "AshMetals$Batch"
abbrev R_S : String := "AshMetals$Stage"
abbrev R_R : String := "AshMetals$Rule"
abbrev R_P : String := "AshMetals$PriceTable"
abbrev R_M : String := "AshMetalsModel"
abbrev R_L : String := "AshMetalsLaw"
abbrev R_J : String := "java/util/Arrays"
abbrev R_Q : String := "java/lang/Math"
abbrev R_O : String := "java/lang/Object"
def T_A : u_T := fun k => match k with
  | 0 => ("AshMetals", "batches", "[LAshMetals$Batch;", true)
  | 1 => ("AshMetals", "batchCount", "I", false)
  | 2 => ("AshMetals", "stages", "[LAshMetals$Stage;", true)
  | 3 => ("AshMetals", "stageCount", "I", false)
  | 4 => ("AshMetals", "rules", "[LAshMetals$Rule;", true)
  | 5 => ("AshMetals", "ruleCount", "I", false)
  | 6 => ("AshMetals", "prices", "LAshMetals$PriceTable;", true)
  | 7 => ("AshMetals", "currentDay", "I", false)
  | 8 => ("AshMetals", "mostSpread", "I", false)
  | _ => ("AshMetals", "income", "J", false)
def ty_A : Nat → FieldType := fun k => match k with
  | 0 => .array (.object "AshMetals$Batch")
  | 1 => .int
  | 2 => .array (.object "AshMetals$Stage")
  | 3 => .int
  | 4 => .array (.object "AshMetals$Rule")
  | 5 => .int
  | 6 => .object "AshMetals$PriceTable"
  | 7 => .int
  | 8 => .int
  | _ => .long
theorem nm_A : ∀ a, a < 10 → ∀ b, b < 10 → a ≠ b → (T_A a).2.1 ≠ (T_A b).2.1 := by decide +kernel
theorem tk_A : ∀ k, k < 10 → parseFieldDescriptor (T_A k).2.2.1 = some (ty_A k) := by decide +kernel
def T_B : u_T := fun k => match k with
  | 0 => ("AshMetals$Batch", "day", "I", true)
  | 1 => ("AshMetals$Batch", "mixed", "Z", true)
  | 2 => ("AshMetals$Batch", "amounts", "[J", true)
  | 3 => ("AshMetals$Batch", "takings", "[J", true)
  | 4 => ("AshMetals$Batch", "told", "[I", true)
  | 5 => ("AshMetals$Batch", "weight", "J", false)
  | 6 => ("AshMetals$Batch", "wasRun", "Z", false)
  | 7 => ("AshMetals$Batch", "gone", "Z", false)
  | _ => ("AshMetals$Batch", "stagesPassed", "I", false)
def ty_B : Nat → FieldType := fun k => match k with
  | 0 => .int
  | 1 => .boolean
  | 2 => .array .long
  | 3 => .array .long
  | 4 => .array .int
  | 5 => .long
  | 6 => .boolean
  | 7 => .boolean
  | _ => .int
theorem nm_B : ∀ a, a < 9 → ∀ b, b < 9 → a ≠ b → (T_B a).2.1 ≠ (T_B b).2.1 := by decide +kernel
theorem tk_B : ∀ k, k < 9 → parseFieldDescriptor (T_B k).2.2.1 = some (ty_B k) := by decide +kernel
def T_S : u_T := fun k => match k with
  | 0 => ("AshMetals$Stage", "own", "I", true)
  | 1 => ("AshMetals$Stage", "ownThousandths", "I", true)
  | 2 => ("AshMetals$Stage", "otherThousandths", "I", true)
  | _ => ("AshMetals$Stage", "store", "[J", true)
def ty_S : Nat → FieldType := fun k => match k with
  | 0 => .int
  | 1 => .int
  | 2 => .int
  | _ => .array .long
theorem nm_S : ∀ a, a < 4 → ∀ b, b < 4 → a ≠ b → (T_S a).2.1 ≠ (T_S b).2.1 := by decide +kernel
theorem tk_S : ∀ k, k < 4 → parseFieldDescriptor (T_S k).2.2.1 = some (ty_S k) := by decide +kernel
def T_R : u_T := fun k => match k with
  | 0 => ("AshMetals$Rule", "givenClass", "I", true)
  | 1 => ("AshMetals$Rule", "metal", "I", true)
  | 2 => ("AshMetals$Rule", "limit", "I", true)
  | _ => ("AshMetals$Rule", "leastAge", "I", true)
def ty_R : Nat → FieldType := fun k => match k with
  | 0 => .int
  | 1 => .int
  | 2 => .int
  | _ => .int
theorem nm_R : ∀ a, a < 4 → ∀ b, b < 4 → a ≠ b → (T_R a).2.1 ≠ (T_R b).2.1 := by decide +kernel
theorem tk_R : ∀ k, k < 4 → parseFieldDescriptor (T_R k).2.2.1 = some (ty_R k) := by decide +kernel
def T_P : u_T := fun k => match k with
  | 0 => ("AshMetals$PriceTable", "counts", "[I", true)
  | 1 => ("AshMetals$PriceTable", "days", "[I", true)
  | _ => ("AshMetals$PriceTable", "cents", "[J", true)
def ty_P : Nat → FieldType := fun k => match k with
  | 0 => .array .int
  | 1 => .array .int
  | _ => .array .long
theorem nm_P : ∀ a, a < 3 → ∀ b, b < 3 → a ≠ b → (T_P a).2.1 ≠ (T_P b).2.1 := by decide +kernel
theorem tk_P : ∀ k, k < 3 → parseFieldDescriptor (T_P k).2.2.1 = some (ty_P k) := by decide +kernel
def T_M : u_T := fun k => match k with
  | 0 => ("AshMetalsModel", "today", "I", false)
  | 1 => ("AshMetalsModel", "batches", "I", false)
  | 2 => ("AshMetalsModel", "weights", "[J", true)
  | 3 => ("AshMetalsModel", "days", "[I", true)
  | 4 => ("AshMetalsModel", "gone", "[Z", true)
  | 5 => ("AshMetalsModel", "mixed", "[Z", true)
  | 6 => ("AshMetalsModel", "wasRun", "[Z", true)
  | 7 => ("AshMetalsModel", "runStages", "[I", true)
  | 8 => ("AshMetalsModel", "amounts", "[J", true)
  | 9 => ("AshMetalsModel", "takes", "[J", true)
  | 10 => ("AshMetalsModel", "stages", "I", false)
  | 11 => ("AshMetalsModel", "owns", "[I", true)
  | 12 => ("AshMetalsModel", "thousandths", "[I", true)
  | 13 => ("AshMetalsModel", "drags", "[I", true)
  | 14 => ("AshMetalsModel", "stocks", "[J", true)
  | 15 => ("AshMetalsModel", "priceCounts", "[I", true)
  | 16 => ("AshMetalsModel", "priceDays", "[I", true)
  | 17 => ("AshMetalsModel", "cents", "[J", true)
  | 18 => ("AshMetalsModel", "money", "J", false)
  | 19 => ("AshMetalsModel", "assays", "[I", true)
  | 20 => ("AshMetalsModel", "tolerance", "I", false)
  | 21 => ("AshMetalsModel", "rules", "I", false)
  | 22 => ("AshMetalsModel", "ruleClasses", "[I", true)
  | 23 => ("AshMetalsModel", "ruleMetals", "[I", true)
  | 24 => ("AshMetalsModel", "ruleLimits", "[I", true)
  | _ => ("AshMetalsModel", "ruleAges", "[I", true)
def ty_M : Nat → FieldType := fun k => match k with
  | 0 => .int
  | 1 => .int
  | 2 => .array .long
  | 3 => .array .int
  | 4 => .array .boolean
  | 5 => .array .boolean
  | 6 => .array .boolean
  | 7 => .array .int
  | 8 => .array .long
  | 9 => .array .long
  | 10 => .int
  | 11 => .array .int
  | 12 => .array .int
  | 13 => .array .int
  | 14 => .array .long
  | 15 => .array .int
  | 16 => .array .int
  | 17 => .array .long
  | 18 => .long
  | 19 => .array .int
  | 20 => .int
  | 21 => .int
  | 22 => .array .int
  | 23 => .array .int
  | 24 => .array .int
  | _ => .array .int
theorem nm_M : ∀ a, a < 26 → ∀ b, b < 26 → a ≠ b → (T_M a).2.1 ≠ (T_M b).2.1 := by decide +kernel
theorem tk_M : ∀ k, k < 26 → parseFieldDescriptor (T_M k).2.2.1 = some (ty_M k) := by decide +kernel
abbrev vwCl : List vw_C := [(R_A, T_A, 10), (R_B, T_B, 9), (R_S, T_S, 4), (R_R, T_R, 4), (R_P, T_P, 3), (R_M, T_M, 26)]
def y_A_init : MethodName := ⟨R_A, "<init>", "()V"⟩
abbrev b_A_init : ByteArray := prog_1_method_1_code
abbrev y_O_init : MethodName := objectInit
def y_P_init : MethodName := ⟨R_P, "<init>", "()V"⟩
abbrev b_P_init : ByteArray := prog_3_method_1_code
def y_A_batch : MethodName := ⟨R_A, "batch", "(J)I"⟩
abbrev b_A_batch : ByteArray := prog_1_method_2_code
def y_A_isWithin : MethodName := ⟨R_A, "isWithin", "(JJJ)Z"⟩
abbrev b_A_isWithin : ByteArray := prog_1_method_23_code
def y_B_init : MethodName := ⟨R_B, "<init>", "(JIZ)V"⟩
abbrev b_B_init : ByteArray := prog_2_method_1_code
def y_J_fillI : MethodName := ⟨R_J, "fill", "([II)V"⟩
abbrev b_J_fillI : ByteArray := prog_9_method_103_code
def y_A_keepBatch : MethodName := ⟨R_A, "keepBatch", "(LAshMetals$Batch;)I"⟩
abbrev b_A_keepBatch : ByteArray := prog_1_method_27_code
def y_A_parts : MethodName := ⟨R_A, "parts", "(III)Z"⟩
abbrev b_A_parts : ByteArray := prog_1_method_3_code
def y_A_batchAt : MethodName := ⟨R_A, "batchAt", "(I)LAshMetals$Batch;"⟩
abbrev b_A_batchAt : ByteArray := prog_1_method_25_code
def y_A_isMetal : MethodName := ⟨R_A, "isMetal", "(I)Z"⟩
abbrev b_A_isMetal : ByteArray := prog_1_method_24_code
def y_A_today : MethodName := ⟨R_A, "today", "(I)Z"⟩
abbrev b_A_today : ByteArray := prog_1_method_4_code
def y_A_stage : MethodName := ⟨R_A, "stage", "(III)I"⟩
abbrev b_A_stage : ByteArray := prog_1_method_5_code
def y_S_init : MethodName := ⟨R_S, "<init>", "(III)V"⟩
abbrev b_S_init : ByteArray := prog_5_method_1_code
def y_A_run : MethodName := ⟨R_A, "run", "(I)I"⟩
abbrev b_A_run : ByteArray := prog_1_method_6_code
def y_A_passThrough : MethodName := ⟨R_A, "passThrough", "(LAshMetals$Batch;I)V"⟩
abbrev b_A_passThrough : ByteArray := prog_1_method_28_code
def y_A_stageAt : MethodName := ⟨R_A, "stageAt", "(I)LAshMetals$Stage;"⟩
abbrev b_A_stageAt : ByteArray := prog_1_method_26_code
def y_S_thousandthsOf : MethodName := ⟨R_S, "thousandthsOf", "(I)I"⟩
abbrev b_S_thousandthsOf : ByteArray := prog_5_method_2_code
abbrev y_Q_maxJ : MethodName := Lib.MathLoose.max_long.x
abbrev b_Q_maxJ : ByteArray := Lib.MathLoose.max_long.code
def y_A_taken : MethodName := ⟨R_A, "taken", "(III)J"⟩
abbrev b_A_taken : ByteArray := prog_1_method_7_code
def y_A_left : MethodName := ⟨R_A, "left", "(II)J"⟩
abbrev b_A_left : ByteArray := prog_1_method_8_code
def y_A_grams : MethodName := ⟨R_A, "grams", "(I)J"⟩
abbrev b_A_grams : ByteArray := prog_1_method_9_code
def y_A_stock : MethodName := ⟨R_A, "stock", "(II)J"⟩
abbrev b_A_stock : ByteArray := prog_1_method_10_code
def y_A_price : MethodName := ⟨R_A, "price", "(IIJ)Z"⟩
abbrev b_A_price : ByteArray := prog_1_method_11_code
def y_P_append : MethodName := ⟨R_P, "append", "(IIJ)Z"⟩
abbrev b_P_append : ByteArray := prog_3_method_2_code
def y_P_countOf : MethodName := ⟨R_P, "countOf", "(I)I"⟩
abbrev b_P_countOf : ByteArray := prog_3_method_5_code
def y_A_worth : MethodName := ⟨R_A, "worth", "(II)J"⟩
abbrev b_A_worth : ByteArray := prog_1_method_12_code
def y_P_centsFor : MethodName := ⟨R_P, "centsFor", "([JI)J"⟩
abbrev b_P_centsFor : ByteArray := prog_3_method_3_code
def y_P_centsOn : MethodName := ⟨R_P, "centsOn", "(II)J"⟩
abbrev b_P_centsOn : ByteArray := prog_3_method_4_code
def y_A_sell : MethodName := ⟨R_A, "sell", "(I)J"⟩
abbrev b_A_sell : ByteArray := prog_1_method_13_code
def y_J_fillJ : MethodName := ⟨R_J, "fill", "([JJ)V"⟩
abbrev b_J_fillJ : ByteArray := prog_9_method_101_code
def y_A_money : MethodName := ⟨R_A, "money", "()J"⟩
abbrev b_A_money : ByteArray := prog_1_method_14_code
def y_A_assay : MethodName := ⟨R_A, "assay", "(IIII)Z"⟩
abbrev b_A_assay : ByteArray := prog_1_method_15_code
def y_A_settled : MethodName := ⟨R_A, "settled", "(II)I"⟩
abbrev b_A_settled : ByteArray := prog_1_method_16_code
def y_B_middleOf : MethodName := ⟨R_B, "middleOf", "(I)I"⟩
abbrev b_B_middleOf : ByteArray := prog_2_method_2_code
def y_B_allTold : MethodName := ⟨R_B, "allTold", "(I)Z"⟩
abbrev b_B_allTold : ByteArray := prog_2_method_5_code
abbrev y_Q_minI : MethodName := Lib.Math.min.name
abbrev b_Q_minI : ByteArray := Lib.Math.min.code
abbrev y_Q_maxI : MethodName := Lib.Math.max.name
abbrev b_Q_maxI : ByteArray := Lib.Math.max.code
def y_A_disputed : MethodName := ⟨R_A, "disputed", "(II)Z"⟩
abbrev b_A_disputed : ByteArray := prog_1_method_17_code
def y_B_spreadOf : MethodName := ⟨R_B, "spreadOf", "(I)I"⟩
abbrev b_B_spreadOf : ByteArray := prog_2_method_3_code
def y_A_tolerance : MethodName := ⟨R_A, "tolerance", "(I)Z"⟩
abbrev b_A_tolerance : ByteArray := prog_1_method_18_code
def y_A_rule : MethodName := ⟨R_A, "rule", "(IIII)I"⟩
abbrev b_A_rule : ByteArray := prog_1_method_19_code
def y_R_init : MethodName := ⟨R_R, "<init>", "(IIII)V"⟩
abbrev b_R_init : ByteArray := prog_4_method_1_code
def y_A_cls : MethodName := ⟨R_A, "cls", "(I)I"⟩
abbrev b_A_cls : ByteArray := prog_1_method_20_code
def y_R_fits : MethodName := ⟨R_R, "fits", "(LAshMetals$Batch;II)Z"⟩
abbrev b_R_fits : ByteArray := prog_4_method_2_code
def y_A_mix : MethodName := ⟨R_A, "mix", "(II)I"⟩
abbrev b_A_mix : ByteArray := prog_1_method_21_code
def y_A_mixtureOf : MethodName := ⟨R_A, "mixtureOf", "(LAshMetals$Batch;LAshMetals$Batch;)LAshMetals$Batch;"⟩
abbrev b_A_mixtureOf : ByteArray := prog_1_method_29_code
def y_A_dispute : MethodName := ⟨R_A, "dispute", "(I)I"⟩
abbrev b_A_dispute : ByteArray := prog_1_method_22_code
def y_B_hasSpreadAbove : MethodName := ⟨R_B, "hasSpreadAbove", "(I)Z"⟩
abbrev b_B_hasSpreadAbove : ByteArray := prog_2_method_4_code
def y_M_init : MethodName := ⟨R_M, "<init>", "()V"⟩
abbrev b_M_init : ByteArray := prog_7_method_1_code
def y_M_batch : MethodName := ⟨R_M, "batch", "(J)I"⟩
abbrev b_M_batch : ByteArray := prog_7_method_8_code
def y_M_isIn : MethodName := ⟨R_M, "isIn", "(JJJ)Z"⟩
abbrev b_M_isIn : ByteArray := prog_7_method_3_code
def y_M_add : MethodName := ⟨R_M, "add", "(JI)I"⟩
abbrev b_M_add : ByteArray := prog_7_method_7_code
def y_M_parts : MethodName := ⟨R_M, "parts", "(III)Z"⟩
abbrev b_M_parts : ByteArray := prog_7_method_9_code
def y_M_isBatch : MethodName := ⟨R_M, "isBatch", "(I)Z"⟩
abbrev b_M_isBatch : ByteArray := prog_7_method_4_code
def y_M_isMetal : MethodName := ⟨R_M, "isMetal", "(I)Z"⟩
abbrev b_M_isMetal : ByteArray := prog_7_method_6_code
def y_M_today : MethodName := ⟨R_M, "today", "(I)Z"⟩
abbrev b_M_today : ByteArray := prog_7_method_10_code
def y_M_left : MethodName := ⟨R_M, "left", "(II)J"⟩
abbrev b_M_left : ByteArray := prog_7_method_11_code
def y_M_grams : MethodName := ⟨R_M, "grams", "(I)J"⟩
abbrev b_M_grams : ByteArray := prog_7_method_12_code
def y_M_stage : MethodName := ⟨R_M, "stage", "(III)I"⟩
abbrev b_M_stage : ByteArray := prog_7_method_13_code
def y_M_run : MethodName := ⟨R_M, "run", "(I)I"⟩
abbrev b_M_run : ByteArray := prog_7_method_14_code
def y_M_taken : MethodName := ⟨R_M, "taken", "(III)J"⟩
abbrev b_M_taken : ByteArray := prog_7_method_15_code
def y_M_stock : MethodName := ⟨R_M, "stock", "(II)J"⟩
abbrev b_M_stock : ByteArray := prog_7_method_16_code
def y_M_isStage : MethodName := ⟨R_M, "isStage", "(I)Z"⟩
abbrev b_M_isStage : ByteArray := prog_7_method_5_code
def y_M_price : MethodName := ⟨R_M, "price", "(IIJ)Z"⟩
abbrev b_M_price : ByteArray := prog_7_method_17_code
def y_M_worth : MethodName := ⟨R_M, "worth", "(II)J"⟩
abbrev b_M_worth : ByteArray := prog_7_method_20_code
def y_M_worthOf : MethodName := ⟨R_M, "worthOf", "([JII)J"⟩
abbrev b_M_worthOf : ByteArray := prog_7_method_19_code
def y_M_priceOn : MethodName := ⟨R_M, "priceOn", "(II)J"⟩
abbrev b_M_priceOn : ByteArray := prog_7_method_18_code
def y_M_sell : MethodName := ⟨R_M, "sell", "(I)J"⟩
abbrev b_M_sell : ByteArray := prog_7_method_21_code
def y_M_money : MethodName := ⟨R_M, "money", "()J"⟩
abbrev b_M_money : ByteArray := prog_7_method_22_code
def y_M_assay : MethodName := ⟨R_M, "assay", "(IIII)Z"⟩
abbrev b_M_assay : ByteArray := prog_7_method_23_code
def y_M_settled : MethodName := ⟨R_M, "settled", "(II)I"⟩
abbrev b_M_settled : ByteArray := prog_7_method_27_code
def y_M_told : MethodName := ⟨R_M, "told", "(III)I"⟩
abbrev b_M_told : ByteArray := prog_7_method_26_code
def y_M_least : MethodName := ⟨R_M, "least", "(II)I"⟩
abbrev b_M_least : ByteArray := prog_7_method_24_code
def y_M_greatest : MethodName := ⟨R_M, "greatest", "(II)I"⟩
abbrev b_M_greatest : ByteArray := prog_7_method_25_code
def y_M_disputed : MethodName := ⟨R_M, "disputed", "(II)Z"⟩
abbrev b_M_disputed : ByteArray := prog_7_method_28_code
def y_M_tolerance : MethodName := ⟨R_M, "tolerance", "(I)Z"⟩
abbrev b_M_tolerance : ByteArray := prog_7_method_29_code
def y_M_rule : MethodName := ⟨R_M, "rule", "(IIII)I"⟩
abbrev b_M_rule : ByteArray := prog_7_method_30_code
def y_M_cls : MethodName := ⟨R_M, "cls", "(I)I"⟩
abbrev b_M_cls : ByteArray := prog_7_method_31_code
def y_M_mix : MethodName := ⟨R_M, "mix", "(II)I"⟩
abbrev b_M_mix : ByteArray := prog_7_method_32_code
def y_M_dispute : MethodName := ⟨R_M, "dispute", "(I)I"⟩
abbrev b_M_dispute : ByteArray := prog_7_method_33_code
def y_L_law : MethodName := ⟨R_L, "law", "([I)Z"⟩
abbrev b_L_law : ByteArray := code
