/-! ===== BEGIN words of one list among another's, by their places ===== -/
theorem goodIn_r {big : List Cond} (ws : List Cond) (ps : List Nat) (hp : ws = ps.filterMap (fun i => big[i]?)) (h : ws.all goodWord = true) : GoodIn big ws := by
  intro w hw
  have h1 := List.all_eq_true.mp h w hw
  rw [hp] at hw
  obtain ⟨i, -, hi⟩ := List.mem_filterMap.mp hw
  have hm : w ∈ big := by first | exact List.mem_of_getElem? hi | exact List.getElem?_mem hi
  exact ⟨hm, good_of_word h1⟩
theorem goodIn_app {big a b : List Cond} (ha : GoodIn big a) (hb : GoodIn big b) : GoodIn big (a ++ b) := fun w h => (List.mem_append.mp h).elim (ha w) (hb w)
theorem goodIn_ca {big a b : List Cond} {c : Cond} (ha : GoodIn big (c :: a)) (hb : GoodIn big b) : GoodIn big (c :: (a ++ b)) := fun w h => (List.mem_cons.mp h).elim (fun e => ha w (List.mem_cons.mpr (Or.inl e))) (fun h => (List.mem_append.mp h).elim (fun h => ha w (List.mem_cons.mpr (Or.inr h))) (hb w))
theorem goodIn_sub {big ws : List Cond} (hm : ∀ w ∈ ws, w ∈ big) (h : ws.all goodWord = true) : GoodIn big ws := fun w hw => ⟨hm w hw, good_of_word (List.all_eq_true.mp h w hw)⟩
/-! ===== END ===== -/

/-! ===== BEGIN printed: names, fields, word lists, decode rows ===== -/
def RX0 : String := "GameCore$Memory"
def TX0 : u_T := fun k => match k with
  | 0 => ("GameCore$Memory", "bytes", "[B", true)
  | _ => ("GameCore$Memory", "counter", "I", false)
def tyX0 : Nat → FieldType := fun k => match k with
  | 0 => .array .byte
  | _ => .int
abbrev wsX00 : List Cond := u_ws RX0 TX0 2
theorem nmX0 : ∀ a, a < 2 → ∀ b, b < 2 → a ≠ b → (TX0 a).2.1 ≠ (TX0 b).2.1 := by decide +kernel
theorem tyX0_ok : ∀ k, k < 2 → parseFieldDescriptor (TX0 k).2.2.1 = some (tyX0 k) := by decide +kernel
abbrev cX0_init : ByteArray := prog_2_method_1_code
def yX0_init : MethodName := ⟨RX0, "<init>", "()V"⟩
abbrev cX0_at : ByteArray := prog_2_method_2_code
def yX0_at : MethodName := ⟨RX0, "at", "(I)I"⟩
abbrev cX0_store : ByteArray := prog_2_method_3_code
def yX0_store : MethodName := ⟨RX0, "store", "(II)V"⟩
abbrev cX0_storeNumber : ByteArray := prog_2_method_4_code
def yX0_storeNumber : MethodName := ⟨RX0, "storeNumber", "(II)V"⟩
abbrev cX0_write : ByteArray := prog_2_method_5_code
def yX0_write : MethodName := ⟨RX0, "write", "(II)V"⟩
abbrev cX0_pending : ByteArray := prog_2_method_6_code
def yX0_pending : MethodName := ⟨RX0, "pending", "()I"⟩
abbrev cX0_raiseInterrupts : ByteArray := prog_2_method_7_code
def yX0_raiseInterrupts : MethodName := ⟨RX0, "raiseInterrupts", "(I)V"⟩
abbrev cX0_clearInterrupt : ByteArray := prog_2_method_8_code
def yX0_clearInterrupt : MethodName := ⟨RX0, "clearInterrupt", "(I)V"⟩
abbrev cX0_tick : ByteArray := prog_2_method_9_code
def yX0_tick : MethodName := ⟨RX0, "tick", "()V"⟩
abbrev cX0_countTimer : ByteArray := prog_2_method_10_code
def yX0_countTimer : MethodName := ⟨RX0, "countTimer", "()V"⟩
def RX1 : String := "GameCore$Registers"
def TX1 : u_T := fun k => match k with
  | _ => ("GameCore$Registers", "words", "[I", true)
def tyX1 : Nat → FieldType := fun k => match k with
  | _ => .array .int
abbrev wsX10 : List Cond := u_ws RX1 TX1 1
theorem nmX1 : ∀ a, a < 1 → ∀ b, b < 1 → a ≠ b → (TX1 a).2.1 ≠ (TX1 b).2.1 := by decide +kernel
theorem tyX1_ok : ∀ k, k < 1 → parseFieldDescriptor (TX1 k).2.2.1 = some (tyX1 k) := by decide +kernel
abbrev cX1_init : ByteArray := prog_3_method_1_code
def yX1_init : MethodName := ⟨RX1, "<init>", "()V"⟩
abbrev cX1_word : ByteArray := prog_3_method_2_code
def yX1_word : MethodName := ⟨RX1, "word", "(I)I"⟩
abbrev cX1_setWord : ByteArray := prog_3_method_3_code
def yX1_setWord : MethodName := ⟨RX1, "setWord", "(II)Z"⟩
abbrev cX1_half : ByteArray := prog_3_method_4_code
def yX1_half : MethodName := ⟨RX1, "half", "(I)I"⟩
abbrev cX1_setHalf : ByteArray := prog_3_method_5_code
def yX1_setHalf : MethodName := ⟨RX1, "setHalf", "(II)V"⟩
abbrev cX1_a : ByteArray := prog_3_method_6_code
def yX1_a : MethodName := ⟨RX1, "a", "()I"⟩
abbrev cX1_setA : ByteArray := prog_3_method_7_code
def yX1_setA : MethodName := ⟨RX1, "setA", "(I)V"⟩
abbrev cX1_flag : ByteArray := prog_3_method_8_code
def yX1_flag : MethodName := ⟨RX1, "flag", "(I)Z"⟩
abbrev cX1_setFlags : ByteArray := prog_3_method_9_code
def yX1_setFlags : MethodName := ⟨RX1, "setFlags", "(ZZZZ)V"⟩
abbrev cX1_pairOf : ByteArray := prog_3_method_10_code
def yX1_pairOf : MethodName := ⟨RX1, "pairOf", "(I)I"⟩
abbrev cX1_isHigh : ByteArray := prog_3_method_11_code
def yX1_isHigh : MethodName := ⟨RX1, "isHigh", "(I)Z"⟩
def RX2 : String := "GameCore$Sums"
def TX2 : u_T := fun k => match k with
  | _ => ("GameCore$Sums", "registers", "LGameCore$Registers;", true)
def tyX2 : Nat → FieldType := fun k => match k with
  | _ => .object "GameCore$Registers"
abbrev wsX20 : List Cond := u_ws RX2 TX2 1
theorem nmX2 : ∀ a, a < 1 → ∀ b, b < 1 → a ≠ b → (TX2 a).2.1 ≠ (TX2 b).2.1 := by decide +kernel
theorem tyX2_ok : ∀ k, k < 1 → parseFieldDescriptor (TX2 k).2.2.1 = some (tyX2 k) := by decide +kernel
abbrev cX2_init : ByteArray := prog_4_method_1_code
def yX2_init : MethodName := ⟨RX2, "<init>", "()V"⟩
abbrev cX2_apply : ByteArray := prog_4_method_2_code
def yX2_apply : MethodName := ⟨RX2, "apply", "(II)V"⟩
abbrev cX2_add : ByteArray := prog_4_method_3_code
def yX2_add : MethodName := ⟨RX2, "add", "(II)V"⟩
abbrev cX2_subtract : ByteArray := prog_4_method_4_code
def yX2_subtract : MethodName := ⟨RX2, "subtract", "(IIZ)V"⟩
abbrev cX2_putLogic : ByteArray := prog_4_method_5_code
def yX2_putLogic : MethodName := ⟨RX2, "putLogic", "(IZ)V"⟩
abbrev cX2_increment : ByteArray := prog_4_method_6_code
def yX2_increment : MethodName := ⟨RX2, "increment", "(I)I"⟩
abbrev cX2_decrement : ByteArray := prog_4_method_7_code
def yX2_decrement : MethodName := ⟨RX2, "decrement", "(I)I"⟩
abbrev cX2_addToHl : ByteArray := prog_4_method_8_code
def yX2_addToHl : MethodName := ⟨RX2, "addToHl", "(I)V"⟩
abbrev cX2_spPlus : ByteArray := prog_4_method_9_code
def yX2_spPlus : MethodName := ⟨RX2, "spPlus", "(I)I"⟩
abbrev cX2_changeA : ByteArray := prog_4_method_10_code
def yX2_changeA : MethodName := ⟨RX2, "changeA", "(I)V"⟩
abbrev cX2_adjustDecimal : ByteArray := prog_4_method_11_code
def yX2_adjustDecimal : MethodName := ⟨RX2, "adjustDecimal", "()V"⟩
abbrev cX2_shift : ByteArray := prog_4_method_12_code
def yX2_shift : MethodName := ⟨RX2, "shift", "(II)I"⟩
abbrev cX2_carryOfShift : ByteArray := prog_4_method_13_code
def yX2_carryOfShift : MethodName := ⟨RX2, "carryOfShift", "(II)Z"⟩
abbrev cX2_testBit : ByteArray := prog_4_method_14_code
def yX2_testBit : MethodName := ⟨RX2, "testBit", "(II)V"⟩
def RX3 : String := "GameCore"
def TX3 : u_T := fun k => match k with
  | 0 => ("GameCore", "memory", "LGameCore$Memory;", true)
  | 1 => ("GameCore", "registers", "LGameCore$Registers;", true)
  | 2 => ("GameCore", "sums", "LGameCore$Sums;", true)
  | 3 => ("GameCore", "ime", "Z", false)
  | 4 => ("GameCore", "eiWaits", "Z", false)
  | 5 => ("GameCore", "halted", "Z", false)
  | 6 => ("GameCore", "haltBug", "Z", false)
  | _ => ("GameCore", "cycles", "I", false)
def tyX3 : Nat → FieldType := fun k => match k with
  | 0 => .object "GameCore$Memory"
  | 1 => .object "GameCore$Registers"
  | 2 => .object "GameCore$Sums"
  | 3 => .boolean
  | 4 => .boolean
  | 5 => .boolean
  | 6 => .boolean
  | _ => .int
abbrev wsX30 : List Cond := u_ws RX3 TX3 8
theorem nmX3 : ∀ a, a < 8 → ∀ b, b < 8 → a ≠ b → (TX3 a).2.1 ≠ (TX3 b).2.1 := by decide +kernel
theorem tyX3_ok : ∀ k, k < 8 → parseFieldDescriptor (TX3 k).2.2.1 = some (tyX3 k) := by decide +kernel
abbrev cX3_init : ByteArray := prog_1_method_1_code
def yX3_init : MethodName := ⟨RX3, "<init>", "()V"⟩
abbrev cX3_poke : ByteArray := prog_1_method_2_code
def yX3_poke : MethodName := ⟨RX3, "poke", "(II)Z"⟩
abbrev cX3_feed : ByteArray := prog_1_method_3_code
def yX3_feed : MethodName := ⟨RX3, "feed", "(IIIII)Z"⟩
abbrev cX3_peek : ByteArray := prog_1_method_4_code
def yX3_peek : MethodName := ⟨RX3, "peek", "(I)I"⟩
abbrev cX3_step : ByteArray := prog_1_method_5_code
def yX3_step : MethodName := ⟨RX3, "step", "()I"⟩
abbrev cX3_run : ByteArray := prog_1_method_6_code
def yX3_run : MethodName := ⟨RX3, "run", "(I)I"⟩
abbrev cX3_request : ByteArray := prog_1_method_7_code
def yX3_request : MethodName := ⟨RX3, "request", "(I)Z"⟩
abbrev cX3_reg : ByteArray := prog_1_method_8_code
def yX3_reg : MethodName := ⟨RX3, "reg", "(I)I"⟩
abbrev cX3_set : ByteArray := prog_1_method_9_code
def yX3_set : MethodName := ⟨RX3, "set", "(II)Z"⟩
abbrev cX3_look : ByteArray := prog_1_method_10_code
def yX3_look : MethodName := ⟨RX3, "look", "(I)I"⟩
abbrev cX3_mcycles : ByteArray := prog_1_method_11_code
def yX3_mcycles : MethodName := ⟨RX3, "mcycles", "()I"⟩
abbrev cX3_takeStep : ByteArray := prog_1_method_12_code
def yX3_takeStep : MethodName := ⟨RX3, "takeStep", "()I"⟩
abbrev cX3_dispatch : ByteArray := prog_1_method_13_code
def yX3_dispatch : MethodName := ⟨RX3, "dispatch", "(I)V"⟩
abbrev cX3_pass : ByteArray := prog_1_method_14_code
def yX3_pass : MethodName := ⟨RX3, "pass", "(I)V"⟩
abbrev cX3_leaveOpcode : ByteArray := prog_1_method_15_code
def yX3_leaveOpcode : MethodName := ⟨RX3, "leaveOpcode", "()V"⟩
abbrev cX3_execute : ByteArray := prog_1_method_16_code
def yX3_execute : MethodName := ⟨RX3, "execute", "(I)I"⟩
abbrev cX3_executeFirstQuarter : ByteArray := prog_1_method_17_code
def yX3_executeFirstQuarter : MethodName := ⟨RX3, "executeFirstQuarter", "(II)I"⟩
abbrev cX3_executeLastQuarter : ByteArray := prog_1_method_18_code
def yX3_executeLastQuarter : MethodName := ⟨RX3, "executeLastQuarter", "(II)I"⟩
abbrev cX3_storeSp : ByteArray := prog_1_method_19_code
def yX3_storeSp : MethodName := ⟨RX3, "storeSp", "()V"⟩
abbrev cX3_loadOrAddWord : ByteArray := prog_1_method_20_code
def yX3_loadOrAddWord : MethodName := ⟨RX3, "loadOrAddWord", "(I)V"⟩
abbrev cX3_loadByPair : ByteArray := prog_1_method_21_code
def yX3_loadByPair : MethodName := ⟨RX3, "loadByPair", "(I)V"⟩
abbrev cX3_stepPair : ByteArray := prog_1_method_22_code
def yX3_stepPair : MethodName := ⟨RX3, "stepPair", "(I)V"⟩
abbrev cX3_executeWithByte : ByteArray := prog_1_method_23_code
def yX3_executeWithByte : MethodName := ⟨RX3, "executeWithByte", "(I)I"⟩
abbrev cX3_popOrMove : ByteArray := prog_1_method_24_code
def yX3_popOrMove : MethodName := ⟨RX3, "popOrMove", "(I)V"⟩
abbrev cX3_loadFar : ByteArray := prog_1_method_25_code
def yX3_loadFar : MethodName := ⟨RX3, "loadFar", "(I)I"⟩
abbrev cX3_switchInterrupts : ByteArray := prog_1_method_26_code
def yX3_switchInterrupts : MethodName := ⟨RX3, "switchInterrupts", "(Z)I"⟩
abbrev cX3_pushPair : ByteArray := prog_1_method_27_code
def yX3_pushPair : MethodName := ⟨RX3, "pushPair", "(I)I"⟩
abbrev cX3_executeBitPage : ByteArray := prog_1_method_28_code
def yX3_executeBitPage : MethodName := ⟨RX3, "executeBitPage", "()I"⟩
abbrev cX3_halt : ByteArray := prog_1_method_29_code
def yX3_halt : MethodName := ⟨RX3, "halt", "()V"⟩
abbrev cX3_jumpRelativeIf : ByteArray := prog_1_method_30_code
def yX3_jumpRelativeIf : MethodName := ⟨RX3, "jumpRelativeIf", "(Z)I"⟩
abbrev cX3_jumpIf : ByteArray := prog_1_method_31_code
def yX3_jumpIf : MethodName := ⟨RX3, "jumpIf", "(Z)I"⟩
abbrev cX3_callIf : ByteArray := prog_1_method_32_code
def yX3_callIf : MethodName := ⟨RX3, "callIf", "(Z)I"⟩
abbrev cX3_returnIf : ByteArray := prog_1_method_33_code
def yX3_returnIf : MethodName := ⟨RX3, "returnIf", "(Z)I"⟩
abbrev cX3_holds : ByteArray := prog_1_method_34_code
def yX3_holds : MethodName := ⟨RX3, "holds", "(I)Z"⟩
abbrev cX3_stackPair : ByteArray := prog_1_method_35_code
def yX3_stackPair : MethodName := ⟨RX3, "stackPair", "(I)I"⟩
abbrev cX3_fetch : ByteArray := prog_1_method_36_code
def yX3_fetch : MethodName := ⟨RX3, "fetch", "()I"⟩
abbrev cX3_fetchWord : ByteArray := prog_1_method_37_code
def yX3_fetchWord : MethodName := ⟨RX3, "fetchWord", "()I"⟩
abbrev cX3_push : ByteArray := prog_1_method_38_code
def yX3_push : MethodName := ⟨RX3, "push", "(I)V"⟩
abbrev cX3_pop : ByteArray := prog_1_method_39_code
def yX3_pop : MethodName := ⟨RX3, "pop", "()I"⟩
abbrev cX3_operand : ByteArray := prog_1_method_40_code
def yX3_operand : MethodName := ⟨RX3, "operand", "(I)I"⟩
abbrev cX3_setOperand : ByteArray := prog_1_method_41_code
def yX3_setOperand : MethodName := ⟨RX3, "setOperand", "(II)V"⟩
def RX4 : String := "GameCoreModel"
def TX4 : u_T := fun k => match k with
  | 0 => ("GameCoreModel", "memory", "[B", true)
  | 1 => ("GameCoreModel", "bytes", "[I", true)
  | 2 => ("GameCoreModel", "zero", "Z", false)
  | 3 => ("GameCoreModel", "minus", "Z", false)
  | 4 => ("GameCoreModel", "half", "Z", false)
  | 5 => ("GameCoreModel", "carry", "Z", false)
  | 6 => ("GameCoreModel", "sp", "I", false)
  | 7 => ("GameCoreModel", "pc", "I", false)
  | 8 => ("GameCoreModel", "isOn", "Z", false)
  | 9 => ("GameCoreModel", "waits", "Z", false)
  | 10 => ("GameCoreModel", "halted", "Z", false)
  | 11 => ("GameCoreModel", "bug", "Z", false)
  | 12 => ("GameCoreModel", "counter", "I", false)
  | 13 => ("GameCoreModel", "all", "I", false)
  | 14 => ("GameCoreModel", "cycles", "I", false)
  | 15 => ("GameCoreModel", "isEi", "Z", false)
  | 16 => ("GameCoreModel", "wasWaiting", "Z", false)
  | _ => ("GameCoreModel", "thrown", "I", false)
def tyX4 : Nat → FieldType := fun k => match k with
  | 0 => .array .byte
  | 1 => .array .int
  | 2 => .boolean
  | 3 => .boolean
  | 4 => .boolean
  | 5 => .boolean
  | 6 => .int
  | 7 => .int
  | 8 => .boolean
  | 9 => .boolean
  | 10 => .boolean
  | 11 => .boolean
  | 12 => .int
  | 13 => .int
  | 14 => .int
  | 15 => .boolean
  | 16 => .boolean
  | _ => .int
abbrev wsX40 : List Cond := u_ws RX4 TX4 18
theorem nmX4 : ∀ a, a < 18 → ∀ b, b < 18 → a ≠ b → (TX4 a).2.1 ≠ (TX4 b).2.1 := by decide +kernel
theorem tyX4_ok : ∀ k, k < 18 → parseFieldDescriptor (TX4 k).2.2.1 = some (tyX4 k) := by decide +kernel
abbrev cX4_init : ByteArray := prog_6_method_1_code
def yX4_init : MethodName := ⟨RX4, "<init>", "()V"⟩
abbrev cX4_at : ByteArray := prog_6_method_3_code
def yX4_at : MethodName := ⟨RX4, "at", "(I)I"⟩
abbrev cX4_puts : ByteArray := prog_6_method_4_code
def yX4_puts : MethodName := ⟨RX4, "puts", "(II)V"⟩
abbrev cX4_reads : ByteArray := prog_6_method_5_code
def yX4_reads : MethodName := ⟨RX4, "reads", "(I)I"⟩
abbrev cX4_writes : ByteArray := prog_6_method_6_code
def yX4_writes : MethodName := ⟨RX4, "writes", "(II)V"⟩
abbrev cX4_fetch : ByteArray := prog_6_method_7_code
def yX4_fetch : MethodName := ⟨RX4, "fetch", "()I"⟩
abbrev cX4_fetchWord : ByteArray := prog_6_method_8_code
def yX4_fetchWord : MethodName := ⟨RX4, "fetchWord", "()I"⟩
abbrev cX4_push : ByteArray := prog_6_method_9_code
def yX4_push : MethodName := ⟨RX4, "push", "(I)V"⟩
abbrev cX4_pop : ByteArray := prog_6_method_10_code
def yX4_pop : MethodName := ⟨RX4, "pop", "()I"⟩
abbrev cX4_hl : ByteArray := prog_6_method_11_code
def yX4_hl : MethodName := ⟨RX4, "hl", "()I"⟩
abbrev cX4_setPair : ByteArray := prog_6_method_12_code
def yX4_setPair : MethodName := ⟨RX4, "setPair", "(II)V"⟩
abbrev cX4_pair : ByteArray := prog_6_method_13_code
def yX4_pair : MethodName := ⟨RX4, "pair", "(I)I"⟩
abbrev cX4_flags : ByteArray := prog_6_method_14_code
def yX4_flags : MethodName := ⟨RX4, "flags", "()I"⟩
abbrev cX4_setFlags : ByteArray := prog_6_method_15_code
def yX4_setFlags : MethodName := ⟨RX4, "setFlags", "(I)V"⟩
abbrev cX4_flagsAre : ByteArray := prog_6_method_16_code
def yX4_flagsAre : MethodName := ⟨RX4, "flagsAre", "(ZZZZ)V"⟩
abbrev cX4_operand : ByteArray := prog_6_method_17_code
def yX4_operand : MethodName := ⟨RX4, "operand", "(I)I"⟩
abbrev cX4_setOperand : ByteArray := prog_6_method_18_code
def yX4_setOperand : MethodName := ⟨RX4, "setOperand", "(II)V"⟩
abbrev cX4_adds : ByteArray := prog_6_method_19_code
def yX4_adds : MethodName := ⟨RX4, "adds", "(II)V"⟩
abbrev cX4_less : ByteArray := prog_6_method_20_code
def yX4_less : MethodName := ⟨RX4, "less", "(II)I"⟩
abbrev cX4_sums : ByteArray := prog_6_method_21_code
def yX4_sums : MethodName := ⟨RX4, "sums", "(II)V"⟩
abbrev cX4_increased : ByteArray := prog_6_method_22_code
def yX4_increased : MethodName := ⟨RX4, "increased", "(I)I"⟩
abbrev cX4_decreased : ByteArray := prog_6_method_23_code
def yX4_decreased : MethodName := ⟨RX4, "decreased", "(I)I"⟩
abbrev cX4_turned : ByteArray := prog_6_method_24_code
def yX4_turned : MethodName := ⟨RX4, "turned", "(II)I"⟩
abbrev cX4_adjusts : ByteArray := prog_6_method_25_code
def yX4_adjusts : MethodName := ⟨RX4, "adjusts", "()V"⟩
abbrev cX4_moved : ByteArray := prog_6_method_26_code
def yX4_moved : MethodName := ⟨RX4, "moved", "(I)I"⟩
abbrev cX4_holds : ByteArray := prog_6_method_27_code
def yX4_holds : MethodName := ⟨RX4, "holds", "(I)Z"⟩
abbrev cX4_isNone : ByteArray := prog_6_method_28_code
def yX4_isNone : MethodName := ⟨RX4, "isNone", "(I)Z"⟩
abbrev cX4_instruction : ByteArray := prog_6_method_29_code
def yX4_instruction : MethodName := ⟨RX4, "instruction", "()V"⟩
abbrev cX4_halts : ByteArray := prog_6_method_30_code
def yX4_halts : MethodName := ⟨RX4, "halts", "(I)V"⟩
abbrev cX4_first : ByteArray := prog_6_method_31_code
def yX4_first : MethodName := ⟨RX4, "first", "(II)V"⟩
abbrev cX4_wide : ByteArray := prog_6_method_32_code
def yX4_wide : MethodName := ⟨RX4, "wide", "(I)I"⟩
abbrev cX4_setWide : ByteArray := prog_6_method_33_code
def yX4_setWide : MethodName := ⟨RX4, "setWide", "(II)V"⟩
abbrev cX4_jumpsNear : ByteArray := prog_6_method_34_code
def yX4_jumpsNear : MethodName := ⟨RX4, "jumpsNear", "(I)V"⟩
abbrev cX4_addsPair : ByteArray := prog_6_method_35_code
def yX4_addsPair : MethodName := ⟨RX4, "addsPair", "(I)V"⟩
abbrev cX4_byPair : ByteArray := prog_6_method_36_code
def yX4_byPair : MethodName := ⟨RX4, "byPair", "(IZ)V"⟩
abbrev cX4_onA : ByteArray := prog_6_method_37_code
def yX4_onA : MethodName := ⟨RX4, "onA", "(I)V"⟩
abbrev cX4_last : ByteArray := prog_6_method_38_code
def yX4_last : MethodName := ⟨RX4, "last", "(II)V"⟩
abbrev cX4_calls : ByteArray := prog_6_method_39_code
def yX4_calls : MethodName := ⟨RX4, "calls", "(I)V"⟩
abbrev cX4_callsIf : ByteArray := prog_6_method_40_code
def yX4_callsIf : MethodName := ⟨RX4, "callsIf", "(I)V"⟩
abbrev cX4_returnsIf : ByteArray := prog_6_method_41_code
def yX4_returnsIf : MethodName := ⟨RX4, "returnsIf", "(I)V"⟩
abbrev cX4_jumpsIf : ByteArray := prog_6_method_42_code
def yX4_jumpsIf : MethodName := ⟨RX4, "jumpsIf", "(I)V"⟩
abbrev cX4_high : ByteArray := prog_6_method_43_code
def yX4_high : MethodName := ⟨RX4, "high", "(I)V"⟩
abbrev cX4_popsOr : ByteArray := prog_6_method_44_code
def yX4_popsOr : MethodName := ⟨RX4, "popsOr", "(I)V"⟩
abbrev cX4_far : ByteArray := prog_6_method_45_code
def yX4_far : MethodName := ⟨RX4, "far", "(I)V"⟩
abbrev cX4_others : ByteArray := prog_6_method_46_code
def yX4_others : MethodName := ⟨RX4, "others", "(I)V"⟩
abbrev cX4_extended : ByteArray := prog_6_method_47_code
def yX4_extended : MethodName := ⟨RX4, "extended", "(I)V"⟩
abbrev cX4_dispatch : ByteArray := prog_6_method_48_code
def yX4_dispatch : MethodName := ⟨RX4, "dispatch", "(I)V"⟩
abbrev cX4_time : ByteArray := prog_6_method_49_code
def yX4_time : MethodName := ⟨RX4, "time", "()V"⟩
abbrev cX4_step : ByteArray := prog_6_method_50_code
def yX4_step : MethodName := ⟨RX4, "step", "()I"⟩
abbrev cX4_run : ByteArray := prog_6_method_51_code
def yX4_run : MethodName := ⟨RX4, "run", "(I)I"⟩
abbrev cX4_poke : ByteArray := prog_6_method_52_code
def yX4_poke : MethodName := ⟨RX4, "poke", "(II)Z"⟩
abbrev cX4_feed : ByteArray := prog_6_method_53_code
def yX4_feed : MethodName := ⟨RX4, "feed", "(IIIII)Z"⟩
abbrev cX4_peek : ByteArray := prog_6_method_54_code
def yX4_peek : MethodName := ⟨RX4, "peek", "(I)I"⟩
abbrev cX4_request : ByteArray := prog_6_method_55_code
def yX4_request : MethodName := ⟨RX4, "request", "(I)Z"⟩
abbrev cX4_reg : ByteArray := prog_6_method_56_code
def yX4_reg : MethodName := ⟨RX4, "reg", "(I)I"⟩
abbrev cX4_set : ByteArray := prog_6_method_57_code
def yX4_set : MethodName := ⟨RX4, "set", "(II)Z"⟩
abbrev cX4_look : ByteArray := prog_6_method_58_code
def yX4_look : MethodName := ⟨RX4, "look", "(I)I"⟩
abbrev cX4_mcycles : ByteArray := prog_6_method_59_code
def yX4_mcycles : MethodName := ⟨RX4, "mcycles", "()I"⟩
def RJ9 : String := "java/lang/Math"
def TJ9 : u_T := fun k => match k with
  | _ => ("", "", "", false)
def tyJ9 : Nat → FieldType := fun k => match k with
  | _ => .int
abbrev wsJ90 : List Cond := u_ws RJ9 TJ9 0
theorem nmJ9 : ∀ a, a < 0 → ∀ b, b < 0 → a ≠ b → (TJ9 a).2.1 ≠ (TJ9 b).2.1 := by decide +kernel
theorem tyJ9_ok : ∀ k, k < 0 → parseFieldDescriptor (TJ9 k).2.2.1 = some (tyJ9 k) := by decide +kernel
abbrev cJ9_min_7cf53 : ByteArray := prog_7_method_69_code
def yJ9_min_7cf53 : MethodName := ⟨RJ9, "min", "(II)I"⟩
def RL : String := "GameCoreLaw"
abbrev cL_law : ByteArray := code
def yL_law : MethodName := ⟨RL, "law", "([I)Z"⟩
def wsL_law_r1 : List Cond := [Cond.classLink RL 7 RX3, Cond.instantiable RX3 8, Cond.initialized RX3, Cond.classLink RL 10 RX4, Cond.instantiable RX4 18, Cond.initialized RX4, Cond.methodLink RL 9 yX3_init, Cond.instanceMethod yX3_init, Cond.code yX3_init cX3_init 1 none, Cond.methodLink RX3 1 objectInit, Cond.instanceMethod objectInit, Cond.code objectInit ⟨#[0xb1]⟩ 1 none, Cond.classLink RX3 7 RX0, Cond.instantiable RX0 2, Cond.initialized RX0, Cond.fieldLink RX3 10 "GameCore" "memory" "LGameCore$Memory;", Cond.classLink RX3 16 RX2, Cond.instantiable RX2 1, Cond.initialized RX2, Cond.fieldLink RX3 19 "GameCore" "sums" "LGameCore$Sums;", Cond.fieldLink RX3 27 "GameCore" "registers" "LGameCore$Registers;", Cond.instanceMethod yX0_init, Cond.code yX0_init cX0_init 1 none, Cond.methodLink RX0 3 objectInit]
def wsL_law_r2 : List Cond := [Cond.constant RX0 9 (65536), Cond.arrayClass .byte, Cond.fieldLink RX0 10 "GameCore$Memory" "bytes" "[B", Cond.instanceMethod yX2_init, Cond.code yX2_init cX2_init 1 none, Cond.methodLink RX2 3 objectInit, Cond.classLink RX2 9 RX1, Cond.instantiable RX1 1, Cond.initialized RX1, Cond.fieldLink RX2 12 "GameCore$Sums" "registers" "LGameCore$Registers;", Cond.instanceMethod yX1_init, Cond.code yX1_init cX1_init 1 none, Cond.methodLink RX1 3 objectInit, Cond.arrayClass .int, Cond.fieldLink RX1 9 "GameCore$Registers" "words" "[I", Cond.methodLink RL 12 yX4_init, Cond.instanceMethod yX4_init, Cond.code yX4_init cX4_init 1 none, Cond.methodLink RX4 1 objectInit, Cond.constant RX4 7 (65536), Cond.fieldLink RX4 8 "GameCoreModel" "memory" "[B", Cond.fieldLink RX4 14 "GameCoreModel" "bytes" "[I", Cond.methodLink RL 13 yX3_poke, Cond.instanceMethod yX3_poke]
def wsL_law_r3 : List Cond := [Cond.selects RX3 yX3_poke yX3_poke, Cond.code yX3_poke cX3_poke 3 (some .boolean), Cond.constant RX3 28 (65535), Cond.methodLink RX3 29 yX0_store, Cond.instanceMethod yX0_store, Cond.selects RX0 yX0_store yX0_store, Cond.code yX0_store cX0_store 3 none, Cond.constant RX0 16 (65535), Cond.methodLink RL 17 yX4_poke, Cond.instanceMethod yX4_poke, Cond.selects RX4 yX4_poke yX4_poke, Cond.code yX4_poke cX4_poke 3 (some .boolean), Cond.fieldLink RX4 18 "GameCoreModel" "thrown" "I", Cond.constant RX4 22 (65535), Cond.methodLink RX4 31 yX4_puts, Cond.instanceMethod yX4_puts, Cond.selects RX4 yX4_puts yX4_puts, Cond.code yX4_puts cX4_puts 3 none, Cond.methodLink RL 18 yX3_feed, Cond.instanceMethod yX3_feed, Cond.selects RX3 yX3_feed yX3_feed, Cond.code yX3_feed cX3_feed 6 (some .boolean), Cond.constant RX3 33 (65520), Cond.methodLink RX3 34 yX0_storeNumber]
def wsL_law_r4 : List Cond := [Cond.instanceMethod yX0_storeNumber, Cond.selects RX0 yX0_storeNumber yX0_storeNumber, Cond.code yX0_storeNumber cX0_storeNumber 4 none, Cond.methodLink RX0 17 yX0_store, Cond.methodLink RL 22 yX4_feed, Cond.instanceMethod yX4_feed, Cond.selects RX4 yX4_feed yX4_feed, Cond.code yX4_feed cX4_feed 8 (some .boolean), Cond.constant RX4 228 (65520), Cond.methodLink RL 23 yX3_peek, Cond.instanceMethod yX3_peek, Cond.selects RX3 yX3_peek yX3_peek, Cond.code yX3_peek cX3_peek 2 (some .int), Cond.methodLink RX3 37 yX0_at, Cond.instanceMethod yX0_at, Cond.selects RX0 yX0_at yX0_at, Cond.code yX0_at cX0_at 2 (some .int), Cond.methodLink RL 27 yX4_peek, Cond.instanceMethod yX4_peek, Cond.selects RX4 yX4_peek yX4_peek, Cond.code yX4_peek cX4_peek 2 (some .int), Cond.methodLink RX4 26 yX4_at, Cond.instanceMethod yX4_at, Cond.selects RX4 yX4_at yX4_at]
def wsL_law_r5 : List Cond := [Cond.code yX4_at cX4_at 2 (some .int), Cond.methodLink RL 28 yX3_step, Cond.instanceMethod yX3_step, Cond.selects RX3 yX3_step yX3_step, Cond.code yX3_step cX3_step 1 (some .int), Cond.methodLink RX3 41 yX3_takeStep, Cond.instanceMethod yX3_takeStep, Cond.selects RX3 yX3_takeStep yX3_takeStep, Cond.code yX3_takeStep cX3_takeStep 6 (some .int), Cond.fieldLink RX3 58 "GameCore" "ime" "Z", Cond.fieldLink RX3 65 "GameCore" "halted" "Z", Cond.fieldLink RX3 87 "GameCore" "BASE_CYCLES" "[I", Cond.fieldLink RX3 62 "GameCore" "eiWaits" "Z", Cond.methodLink RX3 78 yX0_pending, Cond.instanceMethod yX0_pending, Cond.selects RX0 yX0_pending yX0_pending, Cond.code yX0_pending cX0_pending 1 (some .int), Cond.constant RX0 30 (65295), Cond.methodLink RX0 26 yX0_at, Cond.methodLink RX3 81 yX3_dispatch, Cond.instanceMethod yX3_dispatch, Cond.selects RX3 yX3_dispatch yX3_dispatch, Cond.code yX3_dispatch cX3_dispatch 3 none, Cond.methodLink RX3 97 yX0_clearInterrupt]
def wsL_law_r6 : List Cond := [Cond.instanceMethod yX0_clearInterrupt, Cond.selects RX0 yX0_clearInterrupt yX0_clearInterrupt, Cond.code yX0_clearInterrupt cX0_clearInterrupt 2 none, Cond.methodLink RX3 49 yX1_word, Cond.instanceMethod yX1_word, Cond.selects RX1 yX1_word yX1_word, Cond.code yX1_word cX1_word 2 (some .int), Cond.methodLink RX3 100 yX3_push, Cond.instanceMethod yX3_push, Cond.selects RX3 yX3_push yX3_push, Cond.code yX3_push cX3_push 3 none, Cond.methodLink RX3 188 yX0_write, Cond.instanceMethod yX0_write, Cond.selects RX0 yX0_write yX0_write, Cond.code yX0_write cX0_write 3 none, Cond.constant RX0 21 (65284), Cond.fieldLink RX0 22 "GameCore$Memory" "counter" "I", Cond.methodLink RX3 54 yX1_setWord, Cond.instanceMethod yX1_setWord, Cond.selects RX1 yX1_setWord yX1_setWord, Cond.code yX1_setWord cX1_setWord 3 (some .boolean), Cond.constant RX1 15 (65520), Cond.constant RX1 16 (65535), Cond.methodLink RX3 84 yX3_pass]
def wsL_law_r7 : List Cond := [Cond.instanceMethod yX3_pass, Cond.selects RX3 yX3_pass yX3_pass, Cond.code yX3_pass cX3_pass 3 none, Cond.fieldLink RX3 75 "GameCore" "cycles" "I", Cond.constant RX3 103 (1073741823), Cond.methodLink RX3 104 yX0_tick, Cond.instanceMethod yX0_tick, Cond.selects RX0 yX0_tick yX0_tick, Cond.code yX0_tick cX0_tick 2 none, Cond.constant RX0 31 (65287), Cond.methodLink RX0 36 yX0_countTimer, Cond.instanceMethod yX0_countTimer, Cond.selects RX0 yX0_countTimer yX0_countTimer, Cond.code yX0_countTimer cX0_countTimer 1 none, Cond.constant RX0 39 (65285), Cond.constant RX0 40 (65286), Cond.methodLink RX0 41 yX0_raiseInterrupts, Cond.instanceMethod yX0_raiseInterrupts, Cond.selects RX0 yX0_raiseInterrupts yX0_raiseInterrupts, Cond.code yX0_raiseInterrupts cX0_raiseInterrupts 2 none, Cond.methodLink RX3 91 yX3_leaveOpcode, Cond.instanceMethod yX3_leaveOpcode, Cond.selects RX3 yX3_leaveOpcode yX3_leaveOpcode, Cond.code yX3_leaveOpcode cX3_leaveOpcode 1 none]
def wsL_law_r8 : List Cond := [Cond.fieldLink RX3 68 "GameCore" "haltBug" "Z", Cond.methodLink RX3 94 yX3_execute, Cond.instanceMethod yX3_execute, Cond.selects RX3 yX3_execute yX3_execute, Cond.code yX3_execute cX3_execute 4 (some .int), Cond.methodLink RX3 107 yX3_halt, Cond.instanceMethod yX3_halt, Cond.selects RX3 yX3_halt yX3_halt, Cond.code yX3_halt cX3_halt 1 none, Cond.methodLink RX3 110 yX3_executeBitPage, Cond.instanceMethod yX3_executeBitPage, Cond.selects RX3 yX3_executeBitPage yX3_executeBitPage, Cond.code yX3_executeBitPage cX3_executeBitPage 5 (some .int), Cond.methodLink RX3 155 yX3_fetch, Cond.instanceMethod yX3_fetch, Cond.selects RX3 yX3_fetch yX3_fetch, Cond.code yX3_fetch cX3_fetch 2 (some .int), Cond.methodLink RX3 117 yX3_operand, Cond.instanceMethod yX3_operand, Cond.selects RX3 yX3_operand yX3_operand, Cond.code yX3_operand cX3_operand 2 (some .int), Cond.methodLink RX3 215 yX1_half, Cond.instanceMethod yX1_half, Cond.selects RX1 yX1_half yX1_half]
def wsL_law_r9 : List Cond := [Cond.code yX1_half cX1_half 3 (some .int), Cond.methodLink RX1 17 yX1_pairOf, Cond.static yX1_pairOf, Cond.code yX1_pairOf cX1_pairOf 1 (some .int), Cond.methodLink RX1 21 yX1_isHigh, Cond.static yX1_isHigh, Cond.code yX1_isHigh cX1_isHigh 1 (some .boolean), Cond.methodLink RX3 218 yX2_shift, Cond.instanceMethod yX2_shift, Cond.selects RX2 yX2_shift yX2_shift, Cond.code yX2_shift cX2_shift 5 (some .int), Cond.methodLink RX2 18 yX1_flag, Cond.instanceMethod yX1_flag, Cond.selects RX1 yX1_flag yX1_flag, Cond.code yX1_flag cX1_flag 2 (some .boolean), Cond.methodLink RX2 62 yX2_carryOfShift, Cond.static yX2_carryOfShift, Cond.code yX2_carryOfShift cX2_carryOfShift 2 (some .boolean), Cond.methodLink RX2 42 yX1_setFlags, Cond.instanceMethod yX1_setFlags, Cond.selects RX1 yX1_setFlags yX1_setFlags, Cond.code yX1_setFlags cX1_setFlags 6 none, Cond.constant RX1 25 (65280), Cond.methodLink RX3 120 yX3_setOperand]
def wsL_law_r10 : List Cond := [Cond.instanceMethod yX3_setOperand, Cond.selects RX3 yX3_setOperand yX3_setOperand, Cond.code yX3_setOperand cX3_setOperand 3 none, Cond.methodLink RX3 227 yX1_setHalf, Cond.instanceMethod yX1_setHalf, Cond.selects RX1 yX1_setHalf yX1_setHalf, Cond.code yX1_setHalf cX1_setHalf 5 none, Cond.methodLink RX3 221 yX2_testBit, Cond.instanceMethod yX2_testBit, Cond.selects RX2 yX2_testBit yX2_testBit, Cond.code yX2_testBit cX2_testBit 3 none, Cond.methodLink RX3 113 yX3_executeFirstQuarter, Cond.instanceMethod yX3_executeFirstQuarter, Cond.selects RX3 yX3_executeFirstQuarter yX3_executeFirstQuarter, Cond.code yX3_executeFirstQuarter cX3_executeFirstQuarter 3 (some .int), Cond.methodLink RX3 129 yX3_storeSp, Cond.instanceMethod yX3_storeSp, Cond.selects RX3 yX3_storeSp yX3_storeSp, Cond.code yX3_storeSp cX3_storeSp 3 none, Cond.methodLink RX3 185 yX3_fetchWord, Cond.instanceMethod yX3_fetchWord, Cond.selects RX3 yX3_fetchWord yX3_fetchWord, Cond.code yX3_fetchWord cX3_fetchWord 2 (some .int), Cond.methodLink RX3 132 yX3_holds]
def wsL_law_r11 : List Cond := [Cond.instanceMethod yX3_holds, Cond.selects RX3 yX3_holds yX3_holds, Cond.code yX3_holds cX3_holds 3 (some .boolean), Cond.methodLink RX3 224 yX1_flag, Cond.methodLink RX3 136 yX3_jumpRelativeIf, Cond.instanceMethod yX3_jumpRelativeIf, Cond.selects RX3 yX3_jumpRelativeIf yX3_jumpRelativeIf, Cond.code yX3_jumpRelativeIf cX3_jumpRelativeIf 3 (some .int), Cond.methodLink RX3 140 yX3_loadOrAddWord, Cond.instanceMethod yX3_loadOrAddWord, Cond.selects RX3 yX3_loadOrAddWord yX3_loadOrAddWord, Cond.code yX3_loadOrAddWord cX3_loadOrAddWord 3 none, Cond.methodLink RX3 191 yX2_addToHl, Cond.instanceMethod yX2_addToHl, Cond.selects RX2 yX2_addToHl yX2_addToHl, Cond.code yX2_addToHl cX2_addToHl 4 none, Cond.constant RX2 54 (65535), Cond.methodLink RX2 46 yX1_word, Cond.methodLink RX2 50 yX1_setWord, Cond.methodLink RX3 143 yX3_loadByPair, Cond.instanceMethod yX3_loadByPair, Cond.selects RX3 yX3_loadByPair yX3_loadByPair, Cond.code yX3_loadByPair cX3_loadByPair 4 none, Cond.methodLink RX3 194 Lib.Math.min.name]
def wsL_law_r12 : List Cond := [Cond.static Lib.Math.min.name, Cond.initialized "java/lang/Math", Cond.code Lib.Math.min.name Lib.Math.min.code 2 (some .int), Cond.methodLink RX3 199 yX1_a, Cond.instanceMethod yX1_a, Cond.selects RX1 yX1_a yX1_a, Cond.code yX1_a cX1_a 1 (some .int), Cond.methodLink RX3 202 yX1_setA, Cond.instanceMethod yX1_setA, Cond.selects RX1 yX1_setA yX1_setA, Cond.code yX1_setA cX1_setA 2 none, Cond.methodLink RX3 146 yX3_stepPair, Cond.instanceMethod yX3_stepPair, Cond.selects RX3 yX3_stepPair yX3_stepPair, Cond.code yX3_stepPair cX3_stepPair 4 none, Cond.methodLink RX3 149 yX2_increment, Cond.instanceMethod yX2_increment, Cond.selects RX2 yX2_increment yX2_increment, Cond.code yX2_increment cX2_increment 3 (some .int), Cond.methodLink RX3 152 yX2_decrement, Cond.instanceMethod yX2_decrement, Cond.selects RX2 yX2_decrement yX2_decrement, Cond.code yX2_decrement cX2_decrement 3 (some .int), Cond.methodLink RX3 158 yX2_changeA]
def wsL_law_r13 : List Cond := [Cond.instanceMethod yX2_changeA, Cond.selects RX2 yX2_changeA yX2_changeA, Cond.code yX2_changeA cX2_changeA 3 none, Cond.methodLink RX2 55 yX2_adjustDecimal, Cond.instanceMethod yX2_adjustDecimal, Cond.selects RX2 yX2_adjustDecimal yX2_adjustDecimal, Cond.code yX2_adjustDecimal cX2_adjustDecimal 6 none, Cond.methodLink RX2 30 yX1_a, Cond.methodLink RX2 38 yX1_setA, Cond.methodLink RX2 58 yX2_shift, Cond.methodLink RX3 123 yX2_apply, Cond.instanceMethod yX2_apply, Cond.selects RX2 yX2_apply yX2_apply, Cond.code yX2_apply cX2_apply 4 none, Cond.methodLink RX2 22 yX2_add, Cond.instanceMethod yX2_add, Cond.selects RX2 yX2_add yX2_add, Cond.code yX2_add cX2_add 5 none, Cond.methodLink RX2 26 yX2_subtract, Cond.instanceMethod yX2_subtract, Cond.selects RX2 yX2_subtract yX2_subtract, Cond.code yX2_subtract cX2_subtract 6 none, Cond.methodLink RX2 34 yX2_putLogic, Cond.instanceMethod yX2_putLogic]
def wsL_law_r14 : List Cond := [Cond.selects RX2 yX2_putLogic yX2_putLogic, Cond.code yX2_putLogic cX2_putLogic 3 none, Cond.methodLink RX3 126 yX3_executeLastQuarter, Cond.instanceMethod yX3_executeLastQuarter, Cond.selects RX3 yX3_executeLastQuarter yX3_executeLastQuarter, Cond.code yX3_executeLastQuarter cX3_executeLastQuarter 3 (some .int), Cond.methodLink RX3 161 yX3_returnIf, Cond.instanceMethod yX3_returnIf, Cond.selects RX3 yX3_returnIf yX3_returnIf, Cond.code yX3_returnIf cX3_returnIf 2 (some .int), Cond.methodLink RX3 209 yX3_pop, Cond.instanceMethod yX3_pop, Cond.selects RX3 yX3_pop yX3_pop, Cond.code yX3_pop cX3_pop 2 (some .int), Cond.methodLink RX3 164 yX3_executeWithByte, Cond.instanceMethod yX3_executeWithByte, Cond.selects RX3 yX3_executeWithByte yX3_executeWithByte, Cond.code yX3_executeWithByte cX3_executeWithByte 3 (some .int), Cond.constant RX3 205 (65280), Cond.methodLink RX3 206 yX2_spPlus, Cond.instanceMethod yX2_spPlus, Cond.selects RX2 yX2_spPlus yX2_spPlus, Cond.code yX2_spPlus cX2_spPlus 3 (some .int), Cond.methodLink RX3 167 yX3_popOrMove]
def wsL_law_r15 : List Cond := [Cond.instanceMethod yX3_popOrMove, Cond.selects RX3 yX3_popOrMove yX3_popOrMove, Cond.code yX3_popOrMove cX3_popOrMove 2 none, Cond.methodLink RX3 212 yX3_stackPair, Cond.static yX3_stackPair, Cond.code yX3_stackPair cX3_stackPair 1 (some .int), Cond.methodLink RX3 170 yX3_jumpIf, Cond.instanceMethod yX3_jumpIf, Cond.selects RX3 yX3_jumpIf yX3_jumpIf, Cond.code yX3_jumpIf cX3_jumpIf 3 (some .int), Cond.methodLink RX3 173 yX3_loadFar, Cond.instanceMethod yX3_loadFar, Cond.selects RX3 yX3_loadFar yX3_loadFar, Cond.code yX3_loadFar cX3_loadFar 3 (some .int), Cond.methodLink RX3 176 yX3_switchInterrupts, Cond.instanceMethod yX3_switchInterrupts, Cond.selects RX3 yX3_switchInterrupts yX3_switchInterrupts, Cond.code yX3_switchInterrupts cX3_switchInterrupts 2 (some .int), Cond.methodLink RX3 179 yX3_callIf, Cond.instanceMethod yX3_callIf, Cond.selects RX3 yX3_callIf yX3_callIf, Cond.code yX3_callIf cX3_callIf 3 (some .int), Cond.methodLink RX3 182 yX3_pushPair, Cond.instanceMethod yX3_pushPair]
def wsL_law_r16 : List Cond := [Cond.selects RX3 yX3_pushPair yX3_pushPair, Cond.code yX3_pushPair cX3_pushPair 2 (some .int), Cond.methodLink RL 32 yX4_step, Cond.instanceMethod yX4_step, Cond.selects RX4 yX4_step yX4_step, Cond.code yX4_step cX4_step 2 (some .int), Cond.constant RX4 103 (65295), Cond.fieldLink RX4 23 "GameCoreModel" "cycles" "I", Cond.fieldLink RX4 104 "GameCoreModel" "isOn" "Z", Cond.fieldLink RX4 107 "GameCoreModel" "halted" "Z", Cond.fieldLink RX4 38 "GameCoreModel" "pc" "I", Cond.fieldLink RX4 197 "GameCoreModel" "waits" "Z", Cond.fieldLink RX4 110 "GameCoreModel" "wasWaiting" "Z", Cond.fieldLink RX4 203 "GameCoreModel" "isEi" "Z", Cond.methodLink RX4 213 yX4_dispatch, Cond.instanceMethod yX4_dispatch, Cond.selects RX4 yX4_dispatch yX4_dispatch, Cond.code yX4_dispatch cX4_dispatch 3 none, Cond.methodLink RX4 181 yX4_push, Cond.instanceMethod yX4_push, Cond.selects RX4 yX4_push yX4_push, Cond.code yX4_push cX4_push 2 none, Cond.fieldLink RX4 48 "GameCoreModel" "sp" "I", Cond.methodLink RX4 51 yX4_writes]
def wsL_law_r17 : List Cond := [Cond.instanceMethod yX4_writes, Cond.selects RX4 yX4_writes yX4_writes, Cond.code yX4_writes cX4_writes 3 none, Cond.constant RX4 30 (65284), Cond.fieldLink RX4 35 "GameCoreModel" "counter" "I", Cond.methodLink RX4 216 yX4_time, Cond.instanceMethod yX4_time, Cond.selects RX4 yX4_time yX4_time, Cond.code yX4_time cX4_time 4 none, Cond.constant RX4 206 (65287), Cond.constant RX4 207 (65285), Cond.constant RX4 208 (65286), Cond.fieldLink RX4 209 "GameCoreModel" "all" "I", Cond.constant RX4 212 (1073741823), Cond.methodLink RX4 219 yX4_isNone, Cond.static yX4_isNone, Cond.code yX4_isNone cX4_isNone 1 (some .boolean), Cond.methodLink RX4 222 yX4_instruction, Cond.instanceMethod yX4_instruction, Cond.selects RX4 yX4_instruction yX4_instruction, Cond.code yX4_instruction cX4_instruction 5 none, Cond.fieldLink RX4 81 "GameCoreModel" "bug" "Z", Cond.methodLink RX4 41 yX4_reads, Cond.instanceMethod yX4_reads]
def wsL_law_r18 : List Cond := [Cond.selects RX4 yX4_reads yX4_reads, Cond.code yX4_reads cX4_reads 2 (some .int), Cond.methodLink RX4 84 yX4_first, Cond.instanceMethod yX4_first, Cond.selects RX4 yX4_first yX4_first, Cond.code yX4_first cX4_first 5 none, Cond.methodLink RX4 113 yX4_jumpsNear, Cond.instanceMethod yX4_jumpsNear, Cond.selects RX4 yX4_jumpsNear yX4_jumpsNear, Cond.code yX4_jumpsNear cX4_jumpsNear 3 none, Cond.methodLink RX4 119 yX4_fetchWord, Cond.instanceMethod yX4_fetchWord, Cond.selects RX4 yX4_fetchWord yX4_fetchWord, Cond.code yX4_fetchWord cX4_fetchWord 2 (some .int), Cond.methodLink RX4 44 yX4_fetch, Cond.instanceMethod yX4_fetch, Cond.selects RX4 yX4_fetch yX4_fetch, Cond.code yX4_fetch cX4_fetch 2 (some .int), Cond.methodLink RX4 147 yX4_holds, Cond.instanceMethod yX4_holds, Cond.selects RX4 yX4_holds yX4_holds, Cond.code yX4_holds cX4_holds 2 (some .boolean), Cond.fieldLink RX4 54 "GameCoreModel" "zero" "Z", Cond.fieldLink RX4 64 "GameCoreModel" "carry" "Z"]
def wsL_law_r19 : List Cond := [Cond.methodLink RX4 116 yX4_addsPair, Cond.instanceMethod yX4_addsPair, Cond.selects RX4 yX4_addsPair yX4_addsPair, Cond.code yX4_addsPair cX4_addsPair 4 none, Cond.methodLink RX4 67 yX4_hl, Cond.instanceMethod yX4_hl, Cond.selects RX4 yX4_hl yX4_hl, Cond.code yX4_hl cX4_hl 1 (some .int), Cond.methodLink RX4 129 yX4_wide, Cond.instanceMethod yX4_wide, Cond.selects RX4 yX4_wide yX4_wide, Cond.code yX4_wide cX4_wide 2 (some .int), Cond.methodLink RX4 141 yX4_pair, Cond.instanceMethod yX4_pair, Cond.selects RX4 yX4_pair yX4_pair, Cond.code yX4_pair cX4_pair 2 (some .int), Cond.methodLink RX4 70 yX4_flagsAre, Cond.instanceMethod yX4_flagsAre, Cond.selects RX4 yX4_flagsAre yX4_flagsAre, Cond.code yX4_flagsAre cX4_flagsAre 5 none, Cond.fieldLink RX4 58 "GameCoreModel" "minus" "Z", Cond.fieldLink RX4 61 "GameCoreModel" "half" "Z", Cond.methodLink RX4 144 yX4_setPair, Cond.instanceMethod yX4_setPair]
def wsL_law_r20 : List Cond := [Cond.selects RX4 yX4_setPair yX4_setPair, Cond.code yX4_setPair cX4_setPair 3 none, Cond.methodLink RX4 122 yX4_setWide, Cond.instanceMethod yX4_setWide, Cond.selects RX4 yX4_setWide yX4_setWide, Cond.code yX4_setWide cX4_setWide 3 none, Cond.methodLink RX4 125 yX4_byPair, Cond.instanceMethod yX4_byPair, Cond.selects RX4 yX4_byPair yX4_byPair, Cond.code yX4_byPair cX4_byPair 4 none, Cond.methodLink RX4 91 yX4_operand, Cond.instanceMethod yX4_operand, Cond.selects RX4 yX4_operand yX4_operand, Cond.code yX4_operand cX4_operand 2 (some .int), Cond.methodLink RX4 132 yX4_increased, Cond.instanceMethod yX4_increased, Cond.selects RX4 yX4_increased yX4_increased, Cond.code yX4_increased cX4_increased 3 (some .int), Cond.methodLink RX4 94 yX4_setOperand, Cond.instanceMethod yX4_setOperand, Cond.selects RX4 yX4_setOperand yX4_setOperand, Cond.code yX4_setOperand cX4_setOperand 3 none, Cond.methodLink RX4 135 yX4_decreased, Cond.instanceMethod yX4_decreased]
def wsL_law_r21 : List Cond := [Cond.selects RX4 yX4_decreased yX4_decreased, Cond.code yX4_decreased cX4_decreased 3 (some .int), Cond.methodLink RX4 138 yX4_onA, Cond.instanceMethod yX4_onA, Cond.selects RX4 yX4_onA yX4_onA, Cond.code yX4_onA cX4_onA 2 none, Cond.methodLink RX4 151 yX4_turned, Cond.instanceMethod yX4_turned, Cond.selects RX4 yX4_turned yX4_turned, Cond.code yX4_turned cX4_turned 6 (some .int), Cond.methodLink RX4 154 yX4_adjusts, Cond.instanceMethod yX4_adjusts, Cond.selects RX4 yX4_adjusts yX4_adjusts, Cond.code yX4_adjusts cX4_adjusts 4 none, Cond.methodLink RX4 87 yX4_halts, Cond.instanceMethod yX4_halts, Cond.selects RX4 yX4_halts yX4_halts, Cond.code yX4_halts cX4_halts 2 none, Cond.methodLink RX4 97 yX4_sums, Cond.instanceMethod yX4_sums, Cond.selects RX4 yX4_sums yX4_sums, Cond.code yX4_sums cX4_sums 5 none, Cond.methodLink RX4 74 yX4_adds, Cond.instanceMethod yX4_adds]
def wsL_law_r22 : List Cond := [Cond.selects RX4 yX4_adds yX4_adds, Cond.code yX4_adds cX4_adds 5 none, Cond.methodLink RX4 77 yX4_less, Cond.instanceMethod yX4_less, Cond.selects RX4 yX4_less yX4_less, Cond.code yX4_less cX4_less 5 (some .int), Cond.methodLink RX4 100 yX4_last, Cond.instanceMethod yX4_last, Cond.selects RX4 yX4_last yX4_last, Cond.code yX4_last cX4_last 3 none, Cond.methodLink RX4 157 yX4_returnsIf, Cond.instanceMethod yX4_returnsIf, Cond.selects RX4 yX4_returnsIf yX4_returnsIf, Cond.code yX4_returnsIf cX4_returnsIf 2 none, Cond.methodLink RX4 187 yX4_pop, Cond.instanceMethod yX4_pop, Cond.selects RX4 yX4_pop yX4_pop, Cond.code yX4_pop cX4_pop 3 (some .int), Cond.methodLink RX4 160 yX4_high, Cond.instanceMethod yX4_high, Cond.selects RX4 yX4_high yX4_high, Cond.code yX4_high cX4_high 3 none, Cond.constant RX4 190 (65280), Cond.methodLink RX4 191 yX4_moved]
def wsL_law_r23 : List Cond := [Cond.instanceMethod yX4_moved, Cond.selects RX4 yX4_moved yX4_moved, Cond.code yX4_moved cX4_moved 3 (some .int), Cond.methodLink RX4 163 yX4_popsOr, Cond.instanceMethod yX4_popsOr, Cond.selects RX4 yX4_popsOr yX4_popsOr, Cond.code yX4_popsOr cX4_popsOr 3 none, Cond.methodLink RX4 194 yX4_setFlags, Cond.instanceMethod yX4_setFlags, Cond.selects RX4 yX4_setFlags yX4_setFlags, Cond.code yX4_setFlags cX4_setFlags 2 none, Cond.methodLink RX4 166 yX4_jumpsIf, Cond.instanceMethod yX4_jumpsIf, Cond.selects RX4 yX4_jumpsIf yX4_jumpsIf, Cond.code yX4_jumpsIf cX4_jumpsIf 3 none, Cond.methodLink RX4 169 yX4_far, Cond.instanceMethod yX4_far, Cond.selects RX4 yX4_far yX4_far, Cond.code yX4_far cX4_far 3 none, Cond.methodLink RX4 172 yX4_others, Cond.instanceMethod yX4_others, Cond.selects RX4 yX4_others yX4_others, Cond.code yX4_others cX4_others 2 none, Cond.methodLink RX4 200 yX4_extended]
def wsL_law_r24 : List Cond := [Cond.instanceMethod yX4_extended, Cond.selects RX4 yX4_extended yX4_extended, Cond.code yX4_extended cX4_extended 5 none, Cond.methodLink RX4 175 yX4_callsIf, Cond.instanceMethod yX4_callsIf, Cond.selects RX4 yX4_callsIf yX4_callsIf, Cond.code yX4_callsIf cX4_callsIf 3 none, Cond.methodLink RX4 184 yX4_calls, Cond.instanceMethod yX4_calls, Cond.selects RX4 yX4_calls yX4_calls, Cond.code yX4_calls cX4_calls 2 none, Cond.methodLink RX4 178 yX4_flags, Cond.instanceMethod yX4_flags, Cond.selects RX4 yX4_flags yX4_flags, Cond.code yX4_flags cX4_flags 1 (some .int), Cond.methodLink RL 33 yX3_run, Cond.instanceMethod yX3_run, Cond.selects RX3 yX3_run yX3_run, Cond.code yX3_run cX3_run 3 (some .int), Cond.methodLink RL 36 yX4_run, Cond.instanceMethod yX4_run, Cond.selects RX4 yX4_run yX4_run, Cond.code yX4_run cX4_run 3 (some .int), Cond.methodLink RX4 225 yX4_step]
def wsL_law_r25 : List Cond := [Cond.methodLink RL 37 yX3_request, Cond.instanceMethod yX3_request, Cond.selects RX3 yX3_request yX3_request, Cond.code yX3_request cX3_request 2 (some .boolean), Cond.methodLink RX3 45 yX0_raiseInterrupts, Cond.methodLink RL 41 yX4_request, Cond.instanceMethod yX4_request, Cond.selects RX4 yX4_request yX4_request, Cond.code yX4_request cX4_request 2 (some .boolean), Cond.methodLink RL 42 yX3_reg, Cond.instanceMethod yX3_reg, Cond.selects RX3 yX3_reg yX3_reg, Cond.code yX3_reg cX3_reg 2 (some .int), Cond.methodLink RL 45 yX4_reg, Cond.instanceMethod yX4_reg, Cond.selects RX4 yX4_reg yX4_reg, Cond.code yX4_reg cX4_reg 2 (some .int), Cond.methodLink RL 46 yX3_set, Cond.instanceMethod yX3_set, Cond.selects RX3 yX3_set yX3_set, Cond.code yX3_set cX3_set 3 (some .boolean), Cond.methodLink RL 49 yX4_set, Cond.instanceMethod yX4_set, Cond.selects RX4 yX4_set yX4_set]
def wsL_law_r26 : List Cond := [Cond.code yX4_set cX4_set 3 (some .boolean), Cond.methodLink RL 50 yX3_look, Cond.instanceMethod yX3_look, Cond.selects RX3 yX3_look yX3_look, Cond.code yX3_look cX3_look 2 (some .int), Cond.methodLink RL 53 yX4_look, Cond.instanceMethod yX4_look, Cond.selects RX4 yX4_look yX4_look, Cond.code yX4_look cX4_look 2 (some .int), Cond.methodLink RL 54 yX3_mcycles, Cond.instanceMethod yX3_mcycles, Cond.selects RX3 yX3_mcycles yX3_mcycles, Cond.code yX3_mcycles cX3_mcycles 1 (some .int), Cond.methodLink RL 57 yX4_mcycles, Cond.instanceMethod yX4_mcycles, Cond.selects RX4 yX4_mcycles yX4_mcycles, Cond.code yX4_mcycles cX4_mcycles 1 (some .int)]
def wsL_law : List Cond := (wsL_law_r1 ++ (wsL_law_r2 ++ (wsL_law_r3 ++ (wsL_law_r4 ++ (wsL_law_r5 ++ (wsL_law_r6 ++ (wsL_law_r7 ++ (wsL_law_r8 ++ (wsL_law_r9 ++ (wsL_law_r10 ++ (wsL_law_r11 ++ (wsL_law_r12 ++ (wsL_law_r13 ++ (wsL_law_r14 ++ (wsL_law_r15 ++ (wsL_law_r16 ++ (wsL_law_r17 ++ (wsL_law_r18 ++ (wsL_law_r19 ++ (wsL_law_r20 ++ (wsL_law_r21 ++ (wsL_law_r22 ++ (wsL_law_r23 ++ (wsL_law_r24 ++ (wsL_law_r25 ++ wsL_law_r26))))))))))))))))))))))))) ++ wsX30 ++ wsX40 ++ wsX00 ++ wsX20 ++ wsX10 ++ ([] : List Cond)
theorem inlX0 : ∀ w ∈ wsX00, w ∈ wsL_law := fun _ h => List.mem_append_left _ (List.mem_append_left _ (List.mem_append_left _ (List.mem_append_right _ h)))
theorem inlX1 : ∀ w ∈ wsX10, w ∈ wsL_law := fun _ h => List.mem_append_left _ (List.mem_append_right _ h)
theorem inlX2 : ∀ w ∈ wsX20, w ∈ wsL_law := fun _ h => List.mem_append_left _ (List.mem_append_left _ (List.mem_append_right _ h))
theorem inlX3 : ∀ w ∈ wsX30, w ∈ wsL_law := fun _ h => List.mem_append_left _ (List.mem_append_left _ (List.mem_append_left _ (List.mem_append_left _ (List.mem_append_left _ (List.mem_append_right _ h)))))
theorem inlX4 : ∀ w ∈ wsX40, w ∈ wsL_law := fun _ h => List.mem_append_left _ (List.mem_append_left _ (List.mem_append_left _ (List.mem_append_left _ (List.mem_append_right _ h))))
abbrev vwCl : List vw_C := [(RX0, TX0, 2), (RX1, TX1, 1), (RX2, TX2, 1), (RX3, TX3, 8), (RX4, TX4, 18)]
theorem inR_1 : ∀ w ∈ wsL_law_r1, w ∈ wsL_law := fun _ h => List.mem_append_left _ (List.mem_append_left _ (List.mem_append_left _ (List.mem_append_left _ (List.mem_append_left _ (List.mem_append_left _ (List.mem_append_left _ h))))))
theorem inR_2 : ∀ w ∈ wsL_law_r2, w ∈ wsL_law := fun _ h => List.mem_append_left _ (List.mem_append_left _ (List.mem_append_left _ (List.mem_append_left _ (List.mem_append_left _ (List.mem_append_left _ (List.mem_append_right _ (List.mem_append_left _ h)))))))
theorem inR_3 : ∀ w ∈ wsL_law_r3, w ∈ wsL_law := fun _ h => List.mem_append_left _ (List.mem_append_left _ (List.mem_append_left _ (List.mem_append_left _ (List.mem_append_left _ (List.mem_append_left _ (List.mem_append_right _ (List.mem_append_right _ (List.mem_append_left _ h))))))))
theorem inR_4 : ∀ w ∈ wsL_law_r4, w ∈ wsL_law := fun _ h => List.mem_append_left _ (List.mem_append_left _ (List.mem_append_left _ (List.mem_append_left _ (List.mem_append_left _ (List.mem_append_left _ (List.mem_append_right _ (List.mem_append_right _ (List.mem_append_right _ (List.mem_append_left _ h)))))))))
theorem inR_5 : ∀ w ∈ wsL_law_r5, w ∈ wsL_law := fun _ h => List.mem_append_left _ (List.mem_append_left _ (List.mem_append_left _ (List.mem_append_left _ (List.mem_append_left _ (List.mem_append_left _ (List.mem_append_right _ (List.mem_append_right _ (List.mem_append_right _ (List.mem_append_right _ (List.mem_append_left _ h))))))))))
theorem inR_6 : ∀ w ∈ wsL_law_r6, w ∈ wsL_law := fun _ h => List.mem_append_left _ (List.mem_append_left _ (List.mem_append_left _ (List.mem_append_left _ (List.mem_append_left _ (List.mem_append_left _ (List.mem_append_right _ (List.mem_append_right _ (List.mem_append_right _ (List.mem_append_right _ (List.mem_append_right _ (List.mem_append_left _ h)))))))))))
theorem inR_7 : ∀ w ∈ wsL_law_r7, w ∈ wsL_law := fun _ h => List.mem_append_left _ (List.mem_append_left _ (List.mem_append_left _ (List.mem_append_left _ (List.mem_append_left _ (List.mem_append_left _ (List.mem_append_right _ (List.mem_append_right _ (List.mem_append_right _ (List.mem_append_right _ (List.mem_append_right _ (List.mem_append_right _ (List.mem_append_left _ h))))))))))))
theorem inR_8 : ∀ w ∈ wsL_law_r8, w ∈ wsL_law := fun _ h => List.mem_append_left _ (List.mem_append_left _ (List.mem_append_left _ (List.mem_append_left _ (List.mem_append_left _ (List.mem_append_left _ (List.mem_append_right _ (List.mem_append_right _ (List.mem_append_right _ (List.mem_append_right _ (List.mem_append_right _ (List.mem_append_right _ (List.mem_append_right _ (List.mem_append_left _ h)))))))))))))
theorem inR_9 : ∀ w ∈ wsL_law_r9, w ∈ wsL_law := fun _ h => List.mem_append_left _ (List.mem_append_left _ (List.mem_append_left _ (List.mem_append_left _ (List.mem_append_left _ (List.mem_append_left _ (List.mem_append_right _ (List.mem_append_right _ (List.mem_append_right _ (List.mem_append_right _ (List.mem_append_right _ (List.mem_append_right _ (List.mem_append_right _ (List.mem_append_right _ (List.mem_append_left _ h))))))))))))))
theorem inR_10 : ∀ w ∈ wsL_law_r10, w ∈ wsL_law := fun _ h => List.mem_append_left _ (List.mem_append_left _ (List.mem_append_left _ (List.mem_append_left _ (List.mem_append_left _ (List.mem_append_left _ (List.mem_append_right _ (List.mem_append_right _ (List.mem_append_right _ (List.mem_append_right _ (List.mem_append_right _ (List.mem_append_right _ (List.mem_append_right _ (List.mem_append_right _ (List.mem_append_right _ (List.mem_append_left _ h)))))))))))))))
theorem inR_11 : ∀ w ∈ wsL_law_r11, w ∈ wsL_law := fun _ h => List.mem_append_left _ (List.mem_append_left _ (List.mem_append_left _ (List.mem_append_left _ (List.mem_append_left _ (List.mem_append_left _ (List.mem_append_right _ (List.mem_append_right _ (List.mem_append_right _ (List.mem_append_right _ (List.mem_append_right _ (List.mem_append_right _ (List.mem_append_right _ (List.mem_append_right _ (List.mem_append_right _ (List.mem_append_right _ (List.mem_append_left _ h))))))))))))))))
theorem inR_12 : ∀ w ∈ wsL_law_r12, w ∈ wsL_law := fun _ h => List.mem_append_left _ (List.mem_append_left _ (List.mem_append_left _ (List.mem_append_left _ (List.mem_append_left _ (List.mem_append_left _ (List.mem_append_right _ (List.mem_append_right _ (List.mem_append_right _ (List.mem_append_right _ (List.mem_append_right _ (List.mem_append_right _ (List.mem_append_right _ (List.mem_append_right _ (List.mem_append_right _ (List.mem_append_right _ (List.mem_append_right _ (List.mem_append_left _ h)))))))))))))))))
theorem inR_13 : ∀ w ∈ wsL_law_r13, w ∈ wsL_law := fun _ h => List.mem_append_left _ (List.mem_append_left _ (List.mem_append_left _ (List.mem_append_left _ (List.mem_append_left _ (List.mem_append_left _ (List.mem_append_right _ (List.mem_append_right _ (List.mem_append_right _ (List.mem_append_right _ (List.mem_append_right _ (List.mem_append_right _ (List.mem_append_right _ (List.mem_append_right _ (List.mem_append_right _ (List.mem_append_right _ (List.mem_append_right _ (List.mem_append_right _ (List.mem_append_left _ h))))))))))))))))))
theorem inR_14 : ∀ w ∈ wsL_law_r14, w ∈ wsL_law := fun _ h => List.mem_append_left _ (List.mem_append_left _ (List.mem_append_left _ (List.mem_append_left _ (List.mem_append_left _ (List.mem_append_left _ (List.mem_append_right _ (List.mem_append_right _ (List.mem_append_right _ (List.mem_append_right _ (List.mem_append_right _ (List.mem_append_right _ (List.mem_append_right _ (List.mem_append_right _ (List.mem_append_right _ (List.mem_append_right _ (List.mem_append_right _ (List.mem_append_right _ (List.mem_append_right _ (List.mem_append_left _ h)))))))))))))))))))
theorem inR_15 : ∀ w ∈ wsL_law_r15, w ∈ wsL_law := fun _ h => List.mem_append_left _ (List.mem_append_left _ (List.mem_append_left _ (List.mem_append_left _ (List.mem_append_left _ (List.mem_append_left _ (List.mem_append_right _ (List.mem_append_right _ (List.mem_append_right _ (List.mem_append_right _ (List.mem_append_right _ (List.mem_append_right _ (List.mem_append_right _ (List.mem_append_right _ (List.mem_append_right _ (List.mem_append_right _ (List.mem_append_right _ (List.mem_append_right _ (List.mem_append_right _ (List.mem_append_right _ (List.mem_append_left _ h))))))))))))))))))))
theorem inR_16 : ∀ w ∈ wsL_law_r16, w ∈ wsL_law := fun _ h => List.mem_append_left _ (List.mem_append_left _ (List.mem_append_left _ (List.mem_append_left _ (List.mem_append_left _ (List.mem_append_left _ (List.mem_append_right _ (List.mem_append_right _ (List.mem_append_right _ (List.mem_append_right _ (List.mem_append_right _ (List.mem_append_right _ (List.mem_append_right _ (List.mem_append_right _ (List.mem_append_right _ (List.mem_append_right _ (List.mem_append_right _ (List.mem_append_right _ (List.mem_append_right _ (List.mem_append_right _ (List.mem_append_right _ (List.mem_append_left _ h)))))))))))))))))))))
theorem inR_17 : ∀ w ∈ wsL_law_r17, w ∈ wsL_law := fun _ h => List.mem_append_left _ (List.mem_append_left _ (List.mem_append_left _ (List.mem_append_left _ (List.mem_append_left _ (List.mem_append_left _ (List.mem_append_right _ (List.mem_append_right _ (List.mem_append_right _ (List.mem_append_right _ (List.mem_append_right _ (List.mem_append_right _ (List.mem_append_right _ (List.mem_append_right _ (List.mem_append_right _ (List.mem_append_right _ (List.mem_append_right _ (List.mem_append_right _ (List.mem_append_right _ (List.mem_append_right _ (List.mem_append_right _ (List.mem_append_right _ (List.mem_append_left _ h))))))))))))))))))))))
theorem inR_18 : ∀ w ∈ wsL_law_r18, w ∈ wsL_law := fun _ h => List.mem_append_left _ (List.mem_append_left _ (List.mem_append_left _ (List.mem_append_left _ (List.mem_append_left _ (List.mem_append_left _ (List.mem_append_right _ (List.mem_append_right _ (List.mem_append_right _ (List.mem_append_right _ (List.mem_append_right _ (List.mem_append_right _ (List.mem_append_right _ (List.mem_append_right _ (List.mem_append_right _ (List.mem_append_right _ (List.mem_append_right _ (List.mem_append_right _ (List.mem_append_right _ (List.mem_append_right _ (List.mem_append_right _ (List.mem_append_right _ (List.mem_append_right _ (List.mem_append_left _ h)))))))))))))))))))))))
theorem inR_19 : ∀ w ∈ wsL_law_r19, w ∈ wsL_law := fun _ h => List.mem_append_left _ (List.mem_append_left _ (List.mem_append_left _ (List.mem_append_left _ (List.mem_append_left _ (List.mem_append_left _ (List.mem_append_right _ (List.mem_append_right _ (List.mem_append_right _ (List.mem_append_right _ (List.mem_append_right _ (List.mem_append_right _ (List.mem_append_right _ (List.mem_append_right _ (List.mem_append_right _ (List.mem_append_right _ (List.mem_append_right _ (List.mem_append_right _ (List.mem_append_right _ (List.mem_append_right _ (List.mem_append_right _ (List.mem_append_right _ (List.mem_append_right _ (List.mem_append_right _ (List.mem_append_left _ h))))))))))))))))))))))))
theorem inR_20 : ∀ w ∈ wsL_law_r20, w ∈ wsL_law := fun _ h => List.mem_append_left _ (List.mem_append_left _ (List.mem_append_left _ (List.mem_append_left _ (List.mem_append_left _ (List.mem_append_left _ (List.mem_append_right _ (List.mem_append_right _ (List.mem_append_right _ (List.mem_append_right _ (List.mem_append_right _ (List.mem_append_right _ (List.mem_append_right _ (List.mem_append_right _ (List.mem_append_right _ (List.mem_append_right _ (List.mem_append_right _ (List.mem_append_right _ (List.mem_append_right _ (List.mem_append_right _ (List.mem_append_right _ (List.mem_append_right _ (List.mem_append_right _ (List.mem_append_right _ (List.mem_append_right _ (List.mem_append_left _ h)))))))))))))))))))))))))
theorem inR_21 : ∀ w ∈ wsL_law_r21, w ∈ wsL_law := fun _ h => List.mem_append_left _ (List.mem_append_left _ (List.mem_append_left _ (List.mem_append_left _ (List.mem_append_left _ (List.mem_append_left _ (List.mem_append_right _ (List.mem_append_right _ (List.mem_append_right _ (List.mem_append_right _ (List.mem_append_right _ (List.mem_append_right _ (List.mem_append_right _ (List.mem_append_right _ (List.mem_append_right _ (List.mem_append_right _ (List.mem_append_right _ (List.mem_append_right _ (List.mem_append_right _ (List.mem_append_right _ (List.mem_append_right _ (List.mem_append_right _ (List.mem_append_right _ (List.mem_append_right _ (List.mem_append_right _ (List.mem_append_right _ (List.mem_append_left _ h))))))))))))))))))))))))))
theorem inR_22 : ∀ w ∈ wsL_law_r22, w ∈ wsL_law := fun _ h => List.mem_append_left _ (List.mem_append_left _ (List.mem_append_left _ (List.mem_append_left _ (List.mem_append_left _ (List.mem_append_left _ (List.mem_append_right _ (List.mem_append_right _ (List.mem_append_right _ (List.mem_append_right _ (List.mem_append_right _ (List.mem_append_right _ (List.mem_append_right _ (List.mem_append_right _ (List.mem_append_right _ (List.mem_append_right _ (List.mem_append_right _ (List.mem_append_right _ (List.mem_append_right _ (List.mem_append_right _ (List.mem_append_right _ (List.mem_append_right _ (List.mem_append_right _ (List.mem_append_right _ (List.mem_append_right _ (List.mem_append_right _ (List.mem_append_right _ (List.mem_append_left _ h)))))))))))))))))))))))))))
theorem inR_23 : ∀ w ∈ wsL_law_r23, w ∈ wsL_law := fun _ h => List.mem_append_left _ (List.mem_append_left _ (List.mem_append_left _ (List.mem_append_left _ (List.mem_append_left _ (List.mem_append_left _ (List.mem_append_right _ (List.mem_append_right _ (List.mem_append_right _ (List.mem_append_right _ (List.mem_append_right _ (List.mem_append_right _ (List.mem_append_right _ (List.mem_append_right _ (List.mem_append_right _ (List.mem_append_right _ (List.mem_append_right _ (List.mem_append_right _ (List.mem_append_right _ (List.mem_append_right _ (List.mem_append_right _ (List.mem_append_right _ (List.mem_append_right _ (List.mem_append_right _ (List.mem_append_right _ (List.mem_append_right _ (List.mem_append_right _ (List.mem_append_right _ (List.mem_append_left _ h))))))))))))))))))))))))))))
theorem inR_24 : ∀ w ∈ wsL_law_r24, w ∈ wsL_law := fun _ h => List.mem_append_left _ (List.mem_append_left _ (List.mem_append_left _ (List.mem_append_left _ (List.mem_append_left _ (List.mem_append_left _ (List.mem_append_right _ (List.mem_append_right _ (List.mem_append_right _ (List.mem_append_right _ (List.mem_append_right _ (List.mem_append_right _ (List.mem_append_right _ (List.mem_append_right _ (List.mem_append_right _ (List.mem_append_right _ (List.mem_append_right _ (List.mem_append_right _ (List.mem_append_right _ (List.mem_append_right _ (List.mem_append_right _ (List.mem_append_right _ (List.mem_append_right _ (List.mem_append_right _ (List.mem_append_right _ (List.mem_append_right _ (List.mem_append_right _ (List.mem_append_right _ (List.mem_append_right _ (List.mem_append_left _ h)))))))))))))))))))))))))))))
theorem inR_25 : ∀ w ∈ wsL_law_r25, w ∈ wsL_law := fun _ h => List.mem_append_left _ (List.mem_append_left _ (List.mem_append_left _ (List.mem_append_left _ (List.mem_append_left _ (List.mem_append_left _ (List.mem_append_right _ (List.mem_append_right _ (List.mem_append_right _ (List.mem_append_right _ (List.mem_append_right _ (List.mem_append_right _ (List.mem_append_right _ (List.mem_append_right _ (List.mem_append_right _ (List.mem_append_right _ (List.mem_append_right _ (List.mem_append_right _ (List.mem_append_right _ (List.mem_append_right _ (List.mem_append_right _ (List.mem_append_right _ (List.mem_append_right _ (List.mem_append_right _ (List.mem_append_right _ (List.mem_append_right _ (List.mem_append_right _ (List.mem_append_right _ (List.mem_append_right _ (List.mem_append_right _ (List.mem_append_left _ h))))))))))))))))))))))))))))))
theorem inR_26 : ∀ w ∈ wsL_law_r26, w ∈ wsL_law := fun _ h => List.mem_append_left _ (List.mem_append_left _ (List.mem_append_left _ (List.mem_append_left _ (List.mem_append_left _ (List.mem_append_left _ (List.mem_append_right _ (List.mem_append_right _ (List.mem_append_right _ (List.mem_append_right _ (List.mem_append_right _ (List.mem_append_right _ (List.mem_append_right _ (List.mem_append_right _ (List.mem_append_right _ (List.mem_append_right _ (List.mem_append_right _ (List.mem_append_right _ (List.mem_append_right _ (List.mem_append_right _ (List.mem_append_right _ (List.mem_append_right _ (List.mem_append_right _ (List.mem_append_right _ (List.mem_append_right _ (List.mem_append_right _ (List.mem_append_right _ (List.mem_append_right _ (List.mem_append_right _ (List.mem_append_right _ (List.mem_append_right _ (h)))))))))))))))))))))))))))))))
theorem mw_0 : Cond.classLink RL 7 RX3 ∈ wsL_law := inR_1 _ (List.mem_of_getElem? (i := 0) rfl)
theorem mw_1 : Cond.instantiable RX3 8 ∈ wsL_law := inR_1 _ (List.mem_of_getElem? (i := 1) rfl)
theorem mw_2 : Cond.initialized RX3 ∈ wsL_law := inR_1 _ (List.mem_of_getElem? (i := 2) rfl)
theorem mw_3 : Cond.classLink RL 10 RX4 ∈ wsL_law := inR_1 _ (List.mem_of_getElem? (i := 3) rfl)
theorem mw_4 : Cond.instantiable RX4 18 ∈ wsL_law := inR_1 _ (List.mem_of_getElem? (i := 4) rfl)
theorem mw_5 : Cond.initialized RX4 ∈ wsL_law := inR_1 _ (List.mem_of_getElem? (i := 5) rfl)
theorem mw_6 : Cond.methodLink RL 9 yX3_init ∈ wsL_law := inR_1 _ (List.mem_of_getElem? (i := 6) rfl)
theorem mw_7 : Cond.instanceMethod yX3_init ∈ wsL_law := inR_1 _ (List.mem_of_getElem? (i := 7) rfl)
theorem mw_8 : Cond.code yX3_init cX3_init 1 none ∈ wsL_law := inR_1 _ (List.mem_of_getElem? (i := 8) rfl)
theorem mw_9 : Cond.methodLink RX3 1 objectInit ∈ wsL_law := inR_1 _ (List.mem_of_getElem? (i := 9) rfl)
theorem mw_10 : Cond.instanceMethod objectInit ∈ wsL_law := inR_1 _ (List.mem_of_getElem? (i := 10) rfl)
theorem mw_11 : Cond.code objectInit ⟨#[0xb1]⟩ 1 none ∈ wsL_law := inR_1 _ (List.mem_of_getElem? (i := 11) rfl)
theorem mw_12 : Cond.classLink RX3 7 RX0 ∈ wsL_law := inR_1 _ (List.mem_of_getElem? (i := 12) rfl)
theorem mw_13 : Cond.instantiable RX0 2 ∈ wsL_law := inR_1 _ (List.mem_of_getElem? (i := 13) rfl)
theorem mw_14 : Cond.initialized RX0 ∈ wsL_law := inR_1 _ (List.mem_of_getElem? (i := 14) rfl)
theorem mw_15 : Cond.fieldLink RX3 10 "GameCore" "memory" "LGameCore$Memory;" ∈ wsL_law := inR_1 _ (List.mem_of_getElem? (i := 15) rfl)
theorem mw_16 : Cond.classLink RX3 16 RX2 ∈ wsL_law := inR_1 _ (List.mem_of_getElem? (i := 16) rfl)
theorem mw_17 : Cond.instantiable RX2 1 ∈ wsL_law := inR_1 _ (List.mem_of_getElem? (i := 17) rfl)
theorem mw_18 : Cond.initialized RX2 ∈ wsL_law := inR_1 _ (List.mem_of_getElem? (i := 18) rfl)
theorem mw_19 : Cond.fieldLink RX3 19 "GameCore" "sums" "LGameCore$Sums;" ∈ wsL_law := inR_1 _ (List.mem_of_getElem? (i := 19) rfl)
theorem mw_20 : Cond.fieldLink RX3 27 "GameCore" "registers" "LGameCore$Registers;" ∈ wsL_law := inR_1 _ (List.mem_of_getElem? (i := 20) rfl)
theorem mw_21 : Cond.instanceMethod yX0_init ∈ wsL_law := inR_1 _ (List.mem_of_getElem? (i := 21) rfl)
theorem mw_22 : Cond.code yX0_init cX0_init 1 none ∈ wsL_law := inR_1 _ (List.mem_of_getElem? (i := 22) rfl)
theorem mw_23 : Cond.methodLink RX0 3 objectInit ∈ wsL_law := inR_1 _ (List.mem_of_getElem? (i := 23) rfl)
theorem mw_24 : Cond.constant RX0 9 (65536) ∈ wsL_law := inR_2 _ (List.mem_of_getElem? (i := 0) rfl)
theorem mw_25 : Cond.arrayClass .byte ∈ wsL_law := inR_2 _ (List.mem_of_getElem? (i := 1) rfl)
theorem mw_26 : Cond.fieldLink RX0 10 "GameCore$Memory" "bytes" "[B" ∈ wsL_law := inR_2 _ (List.mem_of_getElem? (i := 2) rfl)
theorem mw_27 : Cond.instanceMethod yX2_init ∈ wsL_law := inR_2 _ (List.mem_of_getElem? (i := 3) rfl)
theorem mw_28 : Cond.code yX2_init cX2_init 1 none ∈ wsL_law := inR_2 _ (List.mem_of_getElem? (i := 4) rfl)
theorem mw_29 : Cond.methodLink RX2 3 objectInit ∈ wsL_law := inR_2 _ (List.mem_of_getElem? (i := 5) rfl)
theorem mw_30 : Cond.classLink RX2 9 RX1 ∈ wsL_law := inR_2 _ (List.mem_of_getElem? (i := 6) rfl)
theorem mw_31 : Cond.instantiable RX1 1 ∈ wsL_law := inR_2 _ (List.mem_of_getElem? (i := 7) rfl)
theorem mw_32 : Cond.initialized RX1 ∈ wsL_law := inR_2 _ (List.mem_of_getElem? (i := 8) rfl)
theorem mw_33 : Cond.fieldLink RX2 12 "GameCore$Sums" "registers" "LGameCore$Registers;" ∈ wsL_law := inR_2 _ (List.mem_of_getElem? (i := 9) rfl)
theorem mw_34 : Cond.instanceMethod yX1_init ∈ wsL_law := inR_2 _ (List.mem_of_getElem? (i := 10) rfl)
theorem mw_35 : Cond.code yX1_init cX1_init 1 none ∈ wsL_law := inR_2 _ (List.mem_of_getElem? (i := 11) rfl)
theorem mw_36 : Cond.methodLink RX1 3 objectInit ∈ wsL_law := inR_2 _ (List.mem_of_getElem? (i := 12) rfl)
theorem mw_37 : Cond.arrayClass .int ∈ wsL_law := inR_2 _ (List.mem_of_getElem? (i := 13) rfl)
theorem mw_38 : Cond.fieldLink RX1 9 "GameCore$Registers" "words" "[I" ∈ wsL_law := inR_2 _ (List.mem_of_getElem? (i := 14) rfl)
theorem mw_39 : Cond.methodLink RL 12 yX4_init ∈ wsL_law := inR_2 _ (List.mem_of_getElem? (i := 15) rfl)
theorem mw_40 : Cond.instanceMethod yX4_init ∈ wsL_law := inR_2 _ (List.mem_of_getElem? (i := 16) rfl)
theorem mw_41 : Cond.code yX4_init cX4_init 1 none ∈ wsL_law := inR_2 _ (List.mem_of_getElem? (i := 17) rfl)
theorem mw_42 : Cond.methodLink RX4 1 objectInit ∈ wsL_law := inR_2 _ (List.mem_of_getElem? (i := 18) rfl)
theorem mw_43 : Cond.constant RX4 7 (65536) ∈ wsL_law := inR_2 _ (List.mem_of_getElem? (i := 19) rfl)
theorem mw_44 : Cond.fieldLink RX4 8 "GameCoreModel" "memory" "[B" ∈ wsL_law := inR_2 _ (List.mem_of_getElem? (i := 20) rfl)
theorem mw_45 : Cond.fieldLink RX4 14 "GameCoreModel" "bytes" "[I" ∈ wsL_law := inR_2 _ (List.mem_of_getElem? (i := 21) rfl)
theorem mw_46 : Cond.methodLink RL 13 yX3_poke ∈ wsL_law := inR_2 _ (List.mem_of_getElem? (i := 22) rfl)
theorem mw_47 : Cond.instanceMethod yX3_poke ∈ wsL_law := inR_2 _ (List.mem_of_getElem? (i := 23) rfl)
theorem mw_48 : Cond.selects RX3 yX3_poke yX3_poke ∈ wsL_law := inR_3 _ (List.mem_of_getElem? (i := 0) rfl)
theorem mw_49 : Cond.code yX3_poke cX3_poke 3 (some .boolean) ∈ wsL_law := inR_3 _ (List.mem_of_getElem? (i := 1) rfl)
theorem mw_50 : Cond.constant RX3 28 (65535) ∈ wsL_law := inR_3 _ (List.mem_of_getElem? (i := 2) rfl)
theorem mw_51 : Cond.methodLink RX3 29 yX0_store ∈ wsL_law := inR_3 _ (List.mem_of_getElem? (i := 3) rfl)
theorem mw_52 : Cond.instanceMethod yX0_store ∈ wsL_law := inR_3 _ (List.mem_of_getElem? (i := 4) rfl)
theorem mw_53 : Cond.selects RX0 yX0_store yX0_store ∈ wsL_law := inR_3 _ (List.mem_of_getElem? (i := 5) rfl)
theorem mw_54 : Cond.code yX0_store cX0_store 3 none ∈ wsL_law := inR_3 _ (List.mem_of_getElem? (i := 6) rfl)
theorem mw_55 : Cond.constant RX0 16 (65535) ∈ wsL_law := inR_3 _ (List.mem_of_getElem? (i := 7) rfl)
theorem mw_56 : Cond.methodLink RL 17 yX4_poke ∈ wsL_law := inR_3 _ (List.mem_of_getElem? (i := 8) rfl)
theorem mw_57 : Cond.instanceMethod yX4_poke ∈ wsL_law := inR_3 _ (List.mem_of_getElem? (i := 9) rfl)
theorem mw_58 : Cond.selects RX4 yX4_poke yX4_poke ∈ wsL_law := inR_3 _ (List.mem_of_getElem? (i := 10) rfl)
theorem mw_59 : Cond.code yX4_poke cX4_poke 3 (some .boolean) ∈ wsL_law := inR_3 _ (List.mem_of_getElem? (i := 11) rfl)
theorem mw_60 : Cond.fieldLink RX4 18 "GameCoreModel" "thrown" "I" ∈ wsL_law := inR_3 _ (List.mem_of_getElem? (i := 12) rfl)
theorem mw_61 : Cond.constant RX4 22 (65535) ∈ wsL_law := inR_3 _ (List.mem_of_getElem? (i := 13) rfl)
theorem mw_62 : Cond.methodLink RX4 31 yX4_puts ∈ wsL_law := inR_3 _ (List.mem_of_getElem? (i := 14) rfl)
theorem mw_63 : Cond.instanceMethod yX4_puts ∈ wsL_law := inR_3 _ (List.mem_of_getElem? (i := 15) rfl)
theorem mw_64 : Cond.selects RX4 yX4_puts yX4_puts ∈ wsL_law := inR_3 _ (List.mem_of_getElem? (i := 16) rfl)
theorem mw_65 : Cond.code yX4_puts cX4_puts 3 none ∈ wsL_law := inR_3 _ (List.mem_of_getElem? (i := 17) rfl)
theorem mw_66 : Cond.methodLink RL 18 yX3_feed ∈ wsL_law := inR_3 _ (List.mem_of_getElem? (i := 18) rfl)
theorem mw_67 : Cond.instanceMethod yX3_feed ∈ wsL_law := inR_3 _ (List.mem_of_getElem? (i := 19) rfl)
theorem mw_68 : Cond.selects RX3 yX3_feed yX3_feed ∈ wsL_law := inR_3 _ (List.mem_of_getElem? (i := 20) rfl)
theorem mw_69 : Cond.code yX3_feed cX3_feed 6 (some .boolean) ∈ wsL_law := inR_3 _ (List.mem_of_getElem? (i := 21) rfl)
theorem mw_70 : Cond.constant RX3 33 (65520) ∈ wsL_law := inR_3 _ (List.mem_of_getElem? (i := 22) rfl)
theorem mw_71 : Cond.methodLink RX3 34 yX0_storeNumber ∈ wsL_law := inR_3 _ (List.mem_of_getElem? (i := 23) rfl)
theorem mw_72 : Cond.instanceMethod yX0_storeNumber ∈ wsL_law := inR_4 _ (List.mem_of_getElem? (i := 0) rfl)
theorem mw_73 : Cond.selects RX0 yX0_storeNumber yX0_storeNumber ∈ wsL_law := inR_4 _ (List.mem_of_getElem? (i := 1) rfl)
theorem mw_74 : Cond.code yX0_storeNumber cX0_storeNumber 4 none ∈ wsL_law := inR_4 _ (List.mem_of_getElem? (i := 2) rfl)
theorem mw_75 : Cond.methodLink RX0 17 yX0_store ∈ wsL_law := inR_4 _ (List.mem_of_getElem? (i := 3) rfl)
theorem mw_76 : Cond.methodLink RL 22 yX4_feed ∈ wsL_law := inR_4 _ (List.mem_of_getElem? (i := 4) rfl)
theorem mw_77 : Cond.instanceMethod yX4_feed ∈ wsL_law := inR_4 _ (List.mem_of_getElem? (i := 5) rfl)
theorem mw_78 : Cond.selects RX4 yX4_feed yX4_feed ∈ wsL_law := inR_4 _ (List.mem_of_getElem? (i := 6) rfl)
theorem mw_79 : Cond.code yX4_feed cX4_feed 8 (some .boolean) ∈ wsL_law := inR_4 _ (List.mem_of_getElem? (i := 7) rfl)
theorem mw_80 : Cond.constant RX4 228 (65520) ∈ wsL_law := inR_4 _ (List.mem_of_getElem? (i := 8) rfl)
theorem mw_81 : Cond.methodLink RL 23 yX3_peek ∈ wsL_law := inR_4 _ (List.mem_of_getElem? (i := 9) rfl)
theorem mw_82 : Cond.instanceMethod yX3_peek ∈ wsL_law := inR_4 _ (List.mem_of_getElem? (i := 10) rfl)
theorem mw_83 : Cond.selects RX3 yX3_peek yX3_peek ∈ wsL_law := inR_4 _ (List.mem_of_getElem? (i := 11) rfl)
theorem mw_84 : Cond.code yX3_peek cX3_peek 2 (some .int) ∈ wsL_law := inR_4 _ (List.mem_of_getElem? (i := 12) rfl)
theorem mw_85 : Cond.methodLink RX3 37 yX0_at ∈ wsL_law := inR_4 _ (List.mem_of_getElem? (i := 13) rfl)
theorem mw_86 : Cond.instanceMethod yX0_at ∈ wsL_law := inR_4 _ (List.mem_of_getElem? (i := 14) rfl)
theorem mw_87 : Cond.selects RX0 yX0_at yX0_at ∈ wsL_law := inR_4 _ (List.mem_of_getElem? (i := 15) rfl)
theorem mw_88 : Cond.code yX0_at cX0_at 2 (some .int) ∈ wsL_law := inR_4 _ (List.mem_of_getElem? (i := 16) rfl)
theorem mw_89 : Cond.methodLink RL 27 yX4_peek ∈ wsL_law := inR_4 _ (List.mem_of_getElem? (i := 17) rfl)
theorem mw_90 : Cond.instanceMethod yX4_peek ∈ wsL_law := inR_4 _ (List.mem_of_getElem? (i := 18) rfl)
theorem mw_91 : Cond.selects RX4 yX4_peek yX4_peek ∈ wsL_law := inR_4 _ (List.mem_of_getElem? (i := 19) rfl)
theorem mw_92 : Cond.code yX4_peek cX4_peek 2 (some .int) ∈ wsL_law := inR_4 _ (List.mem_of_getElem? (i := 20) rfl)
theorem mw_93 : Cond.methodLink RX4 26 yX4_at ∈ wsL_law := inR_4 _ (List.mem_of_getElem? (i := 21) rfl)
theorem mw_94 : Cond.instanceMethod yX4_at ∈ wsL_law := inR_4 _ (List.mem_of_getElem? (i := 22) rfl)
theorem mw_95 : Cond.selects RX4 yX4_at yX4_at ∈ wsL_law := inR_4 _ (List.mem_of_getElem? (i := 23) rfl)
theorem mw_96 : Cond.code yX4_at cX4_at 2 (some .int) ∈ wsL_law := inR_5 _ (List.mem_of_getElem? (i := 0) rfl)
theorem mw_97 : Cond.methodLink RL 28 yX3_step ∈ wsL_law := inR_5 _ (List.mem_of_getElem? (i := 1) rfl)
theorem mw_98 : Cond.instanceMethod yX3_step ∈ wsL_law := inR_5 _ (List.mem_of_getElem? (i := 2) rfl)
theorem mw_99 : Cond.selects RX3 yX3_step yX3_step ∈ wsL_law := inR_5 _ (List.mem_of_getElem? (i := 3) rfl)
theorem mw_100 : Cond.code yX3_step cX3_step 1 (some .int) ∈ wsL_law := inR_5 _ (List.mem_of_getElem? (i := 4) rfl)
theorem mw_101 : Cond.methodLink RX3 41 yX3_takeStep ∈ wsL_law := inR_5 _ (List.mem_of_getElem? (i := 5) rfl)
theorem mw_102 : Cond.instanceMethod yX3_takeStep ∈ wsL_law := inR_5 _ (List.mem_of_getElem? (i := 6) rfl)
theorem mw_103 : Cond.selects RX3 yX3_takeStep yX3_takeStep ∈ wsL_law := inR_5 _ (List.mem_of_getElem? (i := 7) rfl)
theorem mw_104 : Cond.code yX3_takeStep cX3_takeStep 6 (some .int) ∈ wsL_law := inR_5 _ (List.mem_of_getElem? (i := 8) rfl)
theorem mw_105 : Cond.fieldLink RX3 58 "GameCore" "ime" "Z" ∈ wsL_law := inR_5 _ (List.mem_of_getElem? (i := 9) rfl)
theorem mw_106 : Cond.fieldLink RX3 65 "GameCore" "halted" "Z" ∈ wsL_law := inR_5 _ (List.mem_of_getElem? (i := 10) rfl)
theorem mw_107 : Cond.fieldLink RX3 87 "GameCore" "BASE_CYCLES" "[I" ∈ wsL_law := inR_5 _ (List.mem_of_getElem? (i := 11) rfl)
theorem mw_108 : Cond.fieldLink RX3 62 "GameCore" "eiWaits" "Z" ∈ wsL_law := inR_5 _ (List.mem_of_getElem? (i := 12) rfl)
theorem mw_109 : Cond.methodLink RX3 78 yX0_pending ∈ wsL_law := inR_5 _ (List.mem_of_getElem? (i := 13) rfl)
theorem mw_110 : Cond.instanceMethod yX0_pending ∈ wsL_law := inR_5 _ (List.mem_of_getElem? (i := 14) rfl)
theorem mw_111 : Cond.selects RX0 yX0_pending yX0_pending ∈ wsL_law := inR_5 _ (List.mem_of_getElem? (i := 15) rfl)
theorem mw_112 : Cond.code yX0_pending cX0_pending 1 (some .int) ∈ wsL_law := inR_5 _ (List.mem_of_getElem? (i := 16) rfl)
theorem mw_113 : Cond.constant RX0 30 (65295) ∈ wsL_law := inR_5 _ (List.mem_of_getElem? (i := 17) rfl)
theorem mw_114 : Cond.methodLink RX0 26 yX0_at ∈ wsL_law := inR_5 _ (List.mem_of_getElem? (i := 18) rfl)
theorem mw_115 : Cond.methodLink RX3 81 yX3_dispatch ∈ wsL_law := inR_5 _ (List.mem_of_getElem? (i := 19) rfl)
theorem mw_116 : Cond.instanceMethod yX3_dispatch ∈ wsL_law := inR_5 _ (List.mem_of_getElem? (i := 20) rfl)
theorem mw_117 : Cond.selects RX3 yX3_dispatch yX3_dispatch ∈ wsL_law := inR_5 _ (List.mem_of_getElem? (i := 21) rfl)
theorem mw_118 : Cond.code yX3_dispatch cX3_dispatch 3 none ∈ wsL_law := inR_5 _ (List.mem_of_getElem? (i := 22) rfl)
theorem mw_119 : Cond.methodLink RX3 97 yX0_clearInterrupt ∈ wsL_law := inR_5 _ (List.mem_of_getElem? (i := 23) rfl)
theorem mw_120 : Cond.instanceMethod yX0_clearInterrupt ∈ wsL_law := inR_6 _ (List.mem_of_getElem? (i := 0) rfl)
theorem mw_121 : Cond.selects RX0 yX0_clearInterrupt yX0_clearInterrupt ∈ wsL_law := inR_6 _ (List.mem_of_getElem? (i := 1) rfl)
theorem mw_122 : Cond.code yX0_clearInterrupt cX0_clearInterrupt 2 none ∈ wsL_law := inR_6 _ (List.mem_of_getElem? (i := 2) rfl)
theorem mw_123 : Cond.methodLink RX3 49 yX1_word ∈ wsL_law := inR_6 _ (List.mem_of_getElem? (i := 3) rfl)
theorem mw_124 : Cond.instanceMethod yX1_word ∈ wsL_law := inR_6 _ (List.mem_of_getElem? (i := 4) rfl)
theorem mw_125 : Cond.selects RX1 yX1_word yX1_word ∈ wsL_law := inR_6 _ (List.mem_of_getElem? (i := 5) rfl)
theorem mw_126 : Cond.code yX1_word cX1_word 2 (some .int) ∈ wsL_law := inR_6 _ (List.mem_of_getElem? (i := 6) rfl)
theorem mw_127 : Cond.methodLink RX3 100 yX3_push ∈ wsL_law := inR_6 _ (List.mem_of_getElem? (i := 7) rfl)
theorem mw_128 : Cond.instanceMethod yX3_push ∈ wsL_law := inR_6 _ (List.mem_of_getElem? (i := 8) rfl)
theorem mw_129 : Cond.selects RX3 yX3_push yX3_push ∈ wsL_law := inR_6 _ (List.mem_of_getElem? (i := 9) rfl)
theorem mw_130 : Cond.code yX3_push cX3_push 3 none ∈ wsL_law := inR_6 _ (List.mem_of_getElem? (i := 10) rfl)
theorem mw_131 : Cond.methodLink RX3 188 yX0_write ∈ wsL_law := inR_6 _ (List.mem_of_getElem? (i := 11) rfl)
theorem mw_132 : Cond.instanceMethod yX0_write ∈ wsL_law := inR_6 _ (List.mem_of_getElem? (i := 12) rfl)
theorem mw_133 : Cond.selects RX0 yX0_write yX0_write ∈ wsL_law := inR_6 _ (List.mem_of_getElem? (i := 13) rfl)
theorem mw_134 : Cond.code yX0_write cX0_write 3 none ∈ wsL_law := inR_6 _ (List.mem_of_getElem? (i := 14) rfl)
theorem mw_135 : Cond.constant RX0 21 (65284) ∈ wsL_law := inR_6 _ (List.mem_of_getElem? (i := 15) rfl)
theorem mw_136 : Cond.fieldLink RX0 22 "GameCore$Memory" "counter" "I" ∈ wsL_law := inR_6 _ (List.mem_of_getElem? (i := 16) rfl)
theorem mw_137 : Cond.methodLink RX3 54 yX1_setWord ∈ wsL_law := inR_6 _ (List.mem_of_getElem? (i := 17) rfl)
theorem mw_138 : Cond.instanceMethod yX1_setWord ∈ wsL_law := inR_6 _ (List.mem_of_getElem? (i := 18) rfl)
theorem mw_139 : Cond.selects RX1 yX1_setWord yX1_setWord ∈ wsL_law := inR_6 _ (List.mem_of_getElem? (i := 19) rfl)
theorem mw_140 : Cond.code yX1_setWord cX1_setWord 3 (some .boolean) ∈ wsL_law := inR_6 _ (List.mem_of_getElem? (i := 20) rfl)
theorem mw_141 : Cond.constant RX1 15 (65520) ∈ wsL_law := inR_6 _ (List.mem_of_getElem? (i := 21) rfl)
theorem mw_142 : Cond.constant RX1 16 (65535) ∈ wsL_law := inR_6 _ (List.mem_of_getElem? (i := 22) rfl)
theorem mw_143 : Cond.methodLink RX3 84 yX3_pass ∈ wsL_law := inR_6 _ (List.mem_of_getElem? (i := 23) rfl)
theorem mw_144 : Cond.instanceMethod yX3_pass ∈ wsL_law := inR_7 _ (List.mem_of_getElem? (i := 0) rfl)
theorem mw_145 : Cond.selects RX3 yX3_pass yX3_pass ∈ wsL_law := inR_7 _ (List.mem_of_getElem? (i := 1) rfl)
theorem mw_146 : Cond.code yX3_pass cX3_pass 3 none ∈ wsL_law := inR_7 _ (List.mem_of_getElem? (i := 2) rfl)
theorem mw_147 : Cond.fieldLink RX3 75 "GameCore" "cycles" "I" ∈ wsL_law := inR_7 _ (List.mem_of_getElem? (i := 3) rfl)
theorem mw_148 : Cond.constant RX3 103 (1073741823) ∈ wsL_law := inR_7 _ (List.mem_of_getElem? (i := 4) rfl)
theorem mw_149 : Cond.methodLink RX3 104 yX0_tick ∈ wsL_law := inR_7 _ (List.mem_of_getElem? (i := 5) rfl)
theorem mw_150 : Cond.instanceMethod yX0_tick ∈ wsL_law := inR_7 _ (List.mem_of_getElem? (i := 6) rfl)
theorem mw_151 : Cond.selects RX0 yX0_tick yX0_tick ∈ wsL_law := inR_7 _ (List.mem_of_getElem? (i := 7) rfl)
theorem mw_152 : Cond.code yX0_tick cX0_tick 2 none ∈ wsL_law := inR_7 _ (List.mem_of_getElem? (i := 8) rfl)
theorem mw_153 : Cond.constant RX0 31 (65287) ∈ wsL_law := inR_7 _ (List.mem_of_getElem? (i := 9) rfl)
theorem mw_154 : Cond.methodLink RX0 36 yX0_countTimer ∈ wsL_law := inR_7 _ (List.mem_of_getElem? (i := 10) rfl)
theorem mw_155 : Cond.instanceMethod yX0_countTimer ∈ wsL_law := inR_7 _ (List.mem_of_getElem? (i := 11) rfl)
theorem mw_156 : Cond.selects RX0 yX0_countTimer yX0_countTimer ∈ wsL_law := inR_7 _ (List.mem_of_getElem? (i := 12) rfl)
theorem mw_157 : Cond.code yX0_countTimer cX0_countTimer 1 none ∈ wsL_law := inR_7 _ (List.mem_of_getElem? (i := 13) rfl)
theorem mw_158 : Cond.constant RX0 39 (65285) ∈ wsL_law := inR_7 _ (List.mem_of_getElem? (i := 14) rfl)
theorem mw_159 : Cond.constant RX0 40 (65286) ∈ wsL_law := inR_7 _ (List.mem_of_getElem? (i := 15) rfl)
theorem mw_160 : Cond.methodLink RX0 41 yX0_raiseInterrupts ∈ wsL_law := inR_7 _ (List.mem_of_getElem? (i := 16) rfl)
theorem mw_161 : Cond.instanceMethod yX0_raiseInterrupts ∈ wsL_law := inR_7 _ (List.mem_of_getElem? (i := 17) rfl)
theorem mw_162 : Cond.selects RX0 yX0_raiseInterrupts yX0_raiseInterrupts ∈ wsL_law := inR_7 _ (List.mem_of_getElem? (i := 18) rfl)
theorem mw_163 : Cond.code yX0_raiseInterrupts cX0_raiseInterrupts 2 none ∈ wsL_law := inR_7 _ (List.mem_of_getElem? (i := 19) rfl)
theorem mw_164 : Cond.methodLink RX3 91 yX3_leaveOpcode ∈ wsL_law := inR_7 _ (List.mem_of_getElem? (i := 20) rfl)
theorem mw_165 : Cond.instanceMethod yX3_leaveOpcode ∈ wsL_law := inR_7 _ (List.mem_of_getElem? (i := 21) rfl)
theorem mw_166 : Cond.selects RX3 yX3_leaveOpcode yX3_leaveOpcode ∈ wsL_law := inR_7 _ (List.mem_of_getElem? (i := 22) rfl)
theorem mw_167 : Cond.code yX3_leaveOpcode cX3_leaveOpcode 1 none ∈ wsL_law := inR_7 _ (List.mem_of_getElem? (i := 23) rfl)
theorem mw_168 : Cond.fieldLink RX3 68 "GameCore" "haltBug" "Z" ∈ wsL_law := inR_8 _ (List.mem_of_getElem? (i := 0) rfl)
theorem mw_169 : Cond.methodLink RX3 94 yX3_execute ∈ wsL_law := inR_8 _ (List.mem_of_getElem? (i := 1) rfl)
theorem mw_170 : Cond.instanceMethod yX3_execute ∈ wsL_law := inR_8 _ (List.mem_of_getElem? (i := 2) rfl)
theorem mw_171 : Cond.selects RX3 yX3_execute yX3_execute ∈ wsL_law := inR_8 _ (List.mem_of_getElem? (i := 3) rfl)
theorem mw_172 : Cond.code yX3_execute cX3_execute 4 (some .int) ∈ wsL_law := inR_8 _ (List.mem_of_getElem? (i := 4) rfl)
theorem mw_173 : Cond.methodLink RX3 107 yX3_halt ∈ wsL_law := inR_8 _ (List.mem_of_getElem? (i := 5) rfl)
theorem mw_174 : Cond.instanceMethod yX3_halt ∈ wsL_law := inR_8 _ (List.mem_of_getElem? (i := 6) rfl)
theorem mw_175 : Cond.selects RX3 yX3_halt yX3_halt ∈ wsL_law := inR_8 _ (List.mem_of_getElem? (i := 7) rfl)
theorem mw_176 : Cond.code yX3_halt cX3_halt 1 none ∈ wsL_law := inR_8 _ (List.mem_of_getElem? (i := 8) rfl)
theorem mw_177 : Cond.methodLink RX3 110 yX3_executeBitPage ∈ wsL_law := inR_8 _ (List.mem_of_getElem? (i := 9) rfl)
theorem mw_178 : Cond.instanceMethod yX3_executeBitPage ∈ wsL_law := inR_8 _ (List.mem_of_getElem? (i := 10) rfl)
theorem mw_179 : Cond.selects RX3 yX3_executeBitPage yX3_executeBitPage ∈ wsL_law := inR_8 _ (List.mem_of_getElem? (i := 11) rfl)
theorem mw_180 : Cond.code yX3_executeBitPage cX3_executeBitPage 5 (some .int) ∈ wsL_law := inR_8 _ (List.mem_of_getElem? (i := 12) rfl)
theorem mw_181 : Cond.methodLink RX3 155 yX3_fetch ∈ wsL_law := inR_8 _ (List.mem_of_getElem? (i := 13) rfl)
theorem mw_182 : Cond.instanceMethod yX3_fetch ∈ wsL_law := inR_8 _ (List.mem_of_getElem? (i := 14) rfl)
theorem mw_183 : Cond.selects RX3 yX3_fetch yX3_fetch ∈ wsL_law := inR_8 _ (List.mem_of_getElem? (i := 15) rfl)
theorem mw_184 : Cond.code yX3_fetch cX3_fetch 2 (some .int) ∈ wsL_law := inR_8 _ (List.mem_of_getElem? (i := 16) rfl)
theorem mw_185 : Cond.methodLink RX3 117 yX3_operand ∈ wsL_law := inR_8 _ (List.mem_of_getElem? (i := 17) rfl)
theorem mw_186 : Cond.instanceMethod yX3_operand ∈ wsL_law := inR_8 _ (List.mem_of_getElem? (i := 18) rfl)
theorem mw_187 : Cond.selects RX3 yX3_operand yX3_operand ∈ wsL_law := inR_8 _ (List.mem_of_getElem? (i := 19) rfl)
theorem mw_188 : Cond.code yX3_operand cX3_operand 2 (some .int) ∈ wsL_law := inR_8 _ (List.mem_of_getElem? (i := 20) rfl)
theorem mw_189 : Cond.methodLink RX3 215 yX1_half ∈ wsL_law := inR_8 _ (List.mem_of_getElem? (i := 21) rfl)
theorem mw_190 : Cond.instanceMethod yX1_half ∈ wsL_law := inR_8 _ (List.mem_of_getElem? (i := 22) rfl)
theorem mw_191 : Cond.selects RX1 yX1_half yX1_half ∈ wsL_law := inR_8 _ (List.mem_of_getElem? (i := 23) rfl)
theorem mw_192 : Cond.code yX1_half cX1_half 3 (some .int) ∈ wsL_law := inR_9 _ (List.mem_of_getElem? (i := 0) rfl)
theorem mw_193 : Cond.methodLink RX1 17 yX1_pairOf ∈ wsL_law := inR_9 _ (List.mem_of_getElem? (i := 1) rfl)
theorem mw_194 : Cond.static yX1_pairOf ∈ wsL_law := inR_9 _ (List.mem_of_getElem? (i := 2) rfl)
theorem mw_195 : Cond.code yX1_pairOf cX1_pairOf 1 (some .int) ∈ wsL_law := inR_9 _ (List.mem_of_getElem? (i := 3) rfl)
theorem mw_196 : Cond.methodLink RX1 21 yX1_isHigh ∈ wsL_law := inR_9 _ (List.mem_of_getElem? (i := 4) rfl)
theorem mw_197 : Cond.static yX1_isHigh ∈ wsL_law := inR_9 _ (List.mem_of_getElem? (i := 5) rfl)
theorem mw_198 : Cond.code yX1_isHigh cX1_isHigh 1 (some .boolean) ∈ wsL_law := inR_9 _ (List.mem_of_getElem? (i := 6) rfl)
theorem mw_199 : Cond.methodLink RX3 218 yX2_shift ∈ wsL_law := inR_9 _ (List.mem_of_getElem? (i := 7) rfl)
theorem mw_200 : Cond.instanceMethod yX2_shift ∈ wsL_law := inR_9 _ (List.mem_of_getElem? (i := 8) rfl)
theorem mw_201 : Cond.selects RX2 yX2_shift yX2_shift ∈ wsL_law := inR_9 _ (List.mem_of_getElem? (i := 9) rfl)
theorem mw_202 : Cond.code yX2_shift cX2_shift 5 (some .int) ∈ wsL_law := inR_9 _ (List.mem_of_getElem? (i := 10) rfl)
theorem mw_203 : Cond.methodLink RX2 18 yX1_flag ∈ wsL_law := inR_9 _ (List.mem_of_getElem? (i := 11) rfl)
theorem mw_204 : Cond.instanceMethod yX1_flag ∈ wsL_law := inR_9 _ (List.mem_of_getElem? (i := 12) rfl)
theorem mw_205 : Cond.selects RX1 yX1_flag yX1_flag ∈ wsL_law := inR_9 _ (List.mem_of_getElem? (i := 13) rfl)
theorem mw_206 : Cond.code yX1_flag cX1_flag 2 (some .boolean) ∈ wsL_law := inR_9 _ (List.mem_of_getElem? (i := 14) rfl)
theorem mw_207 : Cond.methodLink RX2 62 yX2_carryOfShift ∈ wsL_law := inR_9 _ (List.mem_of_getElem? (i := 15) rfl)
theorem mw_208 : Cond.static yX2_carryOfShift ∈ wsL_law := inR_9 _ (List.mem_of_getElem? (i := 16) rfl)
theorem mw_209 : Cond.code yX2_carryOfShift cX2_carryOfShift 2 (some .boolean) ∈ wsL_law := inR_9 _ (List.mem_of_getElem? (i := 17) rfl)
theorem mw_210 : Cond.methodLink RX2 42 yX1_setFlags ∈ wsL_law := inR_9 _ (List.mem_of_getElem? (i := 18) rfl)
theorem mw_211 : Cond.instanceMethod yX1_setFlags ∈ wsL_law := inR_9 _ (List.mem_of_getElem? (i := 19) rfl)
theorem mw_212 : Cond.selects RX1 yX1_setFlags yX1_setFlags ∈ wsL_law := inR_9 _ (List.mem_of_getElem? (i := 20) rfl)
theorem mw_213 : Cond.code yX1_setFlags cX1_setFlags 6 none ∈ wsL_law := inR_9 _ (List.mem_of_getElem? (i := 21) rfl)
theorem mw_214 : Cond.constant RX1 25 (65280) ∈ wsL_law := inR_9 _ (List.mem_of_getElem? (i := 22) rfl)
theorem mw_215 : Cond.methodLink RX3 120 yX3_setOperand ∈ wsL_law := inR_9 _ (List.mem_of_getElem? (i := 23) rfl)
theorem mw_216 : Cond.instanceMethod yX3_setOperand ∈ wsL_law := inR_10 _ (List.mem_of_getElem? (i := 0) rfl)
theorem mw_217 : Cond.selects RX3 yX3_setOperand yX3_setOperand ∈ wsL_law := inR_10 _ (List.mem_of_getElem? (i := 1) rfl)
theorem mw_218 : Cond.code yX3_setOperand cX3_setOperand 3 none ∈ wsL_law := inR_10 _ (List.mem_of_getElem? (i := 2) rfl)
theorem mw_219 : Cond.methodLink RX3 227 yX1_setHalf ∈ wsL_law := inR_10 _ (List.mem_of_getElem? (i := 3) rfl)
theorem mw_220 : Cond.instanceMethod yX1_setHalf ∈ wsL_law := inR_10 _ (List.mem_of_getElem? (i := 4) rfl)
theorem mw_221 : Cond.selects RX1 yX1_setHalf yX1_setHalf ∈ wsL_law := inR_10 _ (List.mem_of_getElem? (i := 5) rfl)
theorem mw_222 : Cond.code yX1_setHalf cX1_setHalf 5 none ∈ wsL_law := inR_10 _ (List.mem_of_getElem? (i := 6) rfl)
theorem mw_223 : Cond.methodLink RX3 221 yX2_testBit ∈ wsL_law := inR_10 _ (List.mem_of_getElem? (i := 7) rfl)
theorem mw_224 : Cond.instanceMethod yX2_testBit ∈ wsL_law := inR_10 _ (List.mem_of_getElem? (i := 8) rfl)
theorem mw_225 : Cond.selects RX2 yX2_testBit yX2_testBit ∈ wsL_law := inR_10 _ (List.mem_of_getElem? (i := 9) rfl)
theorem mw_226 : Cond.code yX2_testBit cX2_testBit 3 none ∈ wsL_law := inR_10 _ (List.mem_of_getElem? (i := 10) rfl)
theorem mw_227 : Cond.methodLink RX3 113 yX3_executeFirstQuarter ∈ wsL_law := inR_10 _ (List.mem_of_getElem? (i := 11) rfl)
theorem mw_228 : Cond.instanceMethod yX3_executeFirstQuarter ∈ wsL_law := inR_10 _ (List.mem_of_getElem? (i := 12) rfl)
theorem mw_229 : Cond.selects RX3 yX3_executeFirstQuarter yX3_executeFirstQuarter ∈ wsL_law := inR_10 _ (List.mem_of_getElem? (i := 13) rfl)
theorem mw_230 : Cond.code yX3_executeFirstQuarter cX3_executeFirstQuarter 3 (some .int) ∈ wsL_law := inR_10 _ (List.mem_of_getElem? (i := 14) rfl)
theorem mw_231 : Cond.methodLink RX3 129 yX3_storeSp ∈ wsL_law := inR_10 _ (List.mem_of_getElem? (i := 15) rfl)
theorem mw_232 : Cond.instanceMethod yX3_storeSp ∈ wsL_law := inR_10 _ (List.mem_of_getElem? (i := 16) rfl)
theorem mw_233 : Cond.selects RX3 yX3_storeSp yX3_storeSp ∈ wsL_law := inR_10 _ (List.mem_of_getElem? (i := 17) rfl)
theorem mw_234 : Cond.code yX3_storeSp cX3_storeSp 3 none ∈ wsL_law := inR_10 _ (List.mem_of_getElem? (i := 18) rfl)
theorem mw_235 : Cond.methodLink RX3 185 yX3_fetchWord ∈ wsL_law := inR_10 _ (List.mem_of_getElem? (i := 19) rfl)
theorem mw_236 : Cond.instanceMethod yX3_fetchWord ∈ wsL_law := inR_10 _ (List.mem_of_getElem? (i := 20) rfl)
theorem mw_237 : Cond.selects RX3 yX3_fetchWord yX3_fetchWord ∈ wsL_law := inR_10 _ (List.mem_of_getElem? (i := 21) rfl)
theorem mw_238 : Cond.code yX3_fetchWord cX3_fetchWord 2 (some .int) ∈ wsL_law := inR_10 _ (List.mem_of_getElem? (i := 22) rfl)
theorem mw_239 : Cond.methodLink RX3 132 yX3_holds ∈ wsL_law := inR_10 _ (List.mem_of_getElem? (i := 23) rfl)
theorem mw_240 : Cond.instanceMethod yX3_holds ∈ wsL_law := inR_11 _ (List.mem_of_getElem? (i := 0) rfl)
theorem mw_241 : Cond.selects RX3 yX3_holds yX3_holds ∈ wsL_law := inR_11 _ (List.mem_of_getElem? (i := 1) rfl)
theorem mw_242 : Cond.code yX3_holds cX3_holds 3 (some .boolean) ∈ wsL_law := inR_11 _ (List.mem_of_getElem? (i := 2) rfl)
theorem mw_243 : Cond.methodLink RX3 224 yX1_flag ∈ wsL_law := inR_11 _ (List.mem_of_getElem? (i := 3) rfl)
theorem mw_244 : Cond.methodLink RX3 136 yX3_jumpRelativeIf ∈ wsL_law := inR_11 _ (List.mem_of_getElem? (i := 4) rfl)
theorem mw_245 : Cond.instanceMethod yX3_jumpRelativeIf ∈ wsL_law := inR_11 _ (List.mem_of_getElem? (i := 5) rfl)
theorem mw_246 : Cond.selects RX3 yX3_jumpRelativeIf yX3_jumpRelativeIf ∈ wsL_law := inR_11 _ (List.mem_of_getElem? (i := 6) rfl)
theorem mw_247 : Cond.code yX3_jumpRelativeIf cX3_jumpRelativeIf 3 (some .int) ∈ wsL_law := inR_11 _ (List.mem_of_getElem? (i := 7) rfl)
theorem mw_248 : Cond.methodLink RX3 140 yX3_loadOrAddWord ∈ wsL_law := inR_11 _ (List.mem_of_getElem? (i := 8) rfl)
theorem mw_249 : Cond.instanceMethod yX3_loadOrAddWord ∈ wsL_law := inR_11 _ (List.mem_of_getElem? (i := 9) rfl)
theorem mw_250 : Cond.selects RX3 yX3_loadOrAddWord yX3_loadOrAddWord ∈ wsL_law := inR_11 _ (List.mem_of_getElem? (i := 10) rfl)
theorem mw_251 : Cond.code yX3_loadOrAddWord cX3_loadOrAddWord 3 none ∈ wsL_law := inR_11 _ (List.mem_of_getElem? (i := 11) rfl)
theorem mw_252 : Cond.methodLink RX3 191 yX2_addToHl ∈ wsL_law := inR_11 _ (List.mem_of_getElem? (i := 12) rfl)
theorem mw_253 : Cond.instanceMethod yX2_addToHl ∈ wsL_law := inR_11 _ (List.mem_of_getElem? (i := 13) rfl)
theorem mw_254 : Cond.selects RX2 yX2_addToHl yX2_addToHl ∈ wsL_law := inR_11 _ (List.mem_of_getElem? (i := 14) rfl)
theorem mw_255 : Cond.code yX2_addToHl cX2_addToHl 4 none ∈ wsL_law := inR_11 _ (List.mem_of_getElem? (i := 15) rfl)
theorem mw_256 : Cond.constant RX2 54 (65535) ∈ wsL_law := inR_11 _ (List.mem_of_getElem? (i := 16) rfl)
theorem mw_257 : Cond.methodLink RX2 46 yX1_word ∈ wsL_law := inR_11 _ (List.mem_of_getElem? (i := 17) rfl)
theorem mw_258 : Cond.methodLink RX2 50 yX1_setWord ∈ wsL_law := inR_11 _ (List.mem_of_getElem? (i := 18) rfl)
theorem mw_259 : Cond.methodLink RX3 143 yX3_loadByPair ∈ wsL_law := inR_11 _ (List.mem_of_getElem? (i := 19) rfl)
theorem mw_260 : Cond.instanceMethod yX3_loadByPair ∈ wsL_law := inR_11 _ (List.mem_of_getElem? (i := 20) rfl)
theorem mw_261 : Cond.selects RX3 yX3_loadByPair yX3_loadByPair ∈ wsL_law := inR_11 _ (List.mem_of_getElem? (i := 21) rfl)
theorem mw_262 : Cond.code yX3_loadByPair cX3_loadByPair 4 none ∈ wsL_law := inR_11 _ (List.mem_of_getElem? (i := 22) rfl)
theorem mw_263 : Cond.methodLink RX3 194 Lib.Math.min.name ∈ wsL_law := inR_11 _ (List.mem_of_getElem? (i := 23) rfl)
theorem mw_264 : Cond.static Lib.Math.min.name ∈ wsL_law := inR_12 _ (List.mem_of_getElem? (i := 0) rfl)
theorem mw_265 : Cond.initialized "java/lang/Math" ∈ wsL_law := inR_12 _ (List.mem_of_getElem? (i := 1) rfl)
theorem mw_266 : Cond.code Lib.Math.min.name Lib.Math.min.code 2 (some .int) ∈ wsL_law := inR_12 _ (List.mem_of_getElem? (i := 2) rfl)
theorem mw_267 : Cond.methodLink RX3 199 yX1_a ∈ wsL_law := inR_12 _ (List.mem_of_getElem? (i := 3) rfl)
theorem mw_268 : Cond.instanceMethod yX1_a ∈ wsL_law := inR_12 _ (List.mem_of_getElem? (i := 4) rfl)
theorem mw_269 : Cond.selects RX1 yX1_a yX1_a ∈ wsL_law := inR_12 _ (List.mem_of_getElem? (i := 5) rfl)
theorem mw_270 : Cond.code yX1_a cX1_a 1 (some .int) ∈ wsL_law := inR_12 _ (List.mem_of_getElem? (i := 6) rfl)
theorem mw_271 : Cond.methodLink RX3 202 yX1_setA ∈ wsL_law := inR_12 _ (List.mem_of_getElem? (i := 7) rfl)
theorem mw_272 : Cond.instanceMethod yX1_setA ∈ wsL_law := inR_12 _ (List.mem_of_getElem? (i := 8) rfl)
theorem mw_273 : Cond.selects RX1 yX1_setA yX1_setA ∈ wsL_law := inR_12 _ (List.mem_of_getElem? (i := 9) rfl)
theorem mw_274 : Cond.code yX1_setA cX1_setA 2 none ∈ wsL_law := inR_12 _ (List.mem_of_getElem? (i := 10) rfl)
theorem mw_275 : Cond.methodLink RX3 146 yX3_stepPair ∈ wsL_law := inR_12 _ (List.mem_of_getElem? (i := 11) rfl)
theorem mw_276 : Cond.instanceMethod yX3_stepPair ∈ wsL_law := inR_12 _ (List.mem_of_getElem? (i := 12) rfl)
theorem mw_277 : Cond.selects RX3 yX3_stepPair yX3_stepPair ∈ wsL_law := inR_12 _ (List.mem_of_getElem? (i := 13) rfl)
theorem mw_278 : Cond.code yX3_stepPair cX3_stepPair 4 none ∈ wsL_law := inR_12 _ (List.mem_of_getElem? (i := 14) rfl)
theorem mw_279 : Cond.methodLink RX3 149 yX2_increment ∈ wsL_law := inR_12 _ (List.mem_of_getElem? (i := 15) rfl)
theorem mw_280 : Cond.instanceMethod yX2_increment ∈ wsL_law := inR_12 _ (List.mem_of_getElem? (i := 16) rfl)
theorem mw_281 : Cond.selects RX2 yX2_increment yX2_increment ∈ wsL_law := inR_12 _ (List.mem_of_getElem? (i := 17) rfl)
theorem mw_282 : Cond.code yX2_increment cX2_increment 3 (some .int) ∈ wsL_law := inR_12 _ (List.mem_of_getElem? (i := 18) rfl)
theorem mw_283 : Cond.methodLink RX3 152 yX2_decrement ∈ wsL_law := inR_12 _ (List.mem_of_getElem? (i := 19) rfl)
theorem mw_284 : Cond.instanceMethod yX2_decrement ∈ wsL_law := inR_12 _ (List.mem_of_getElem? (i := 20) rfl)
theorem mw_285 : Cond.selects RX2 yX2_decrement yX2_decrement ∈ wsL_law := inR_12 _ (List.mem_of_getElem? (i := 21) rfl)
theorem mw_286 : Cond.code yX2_decrement cX2_decrement 3 (some .int) ∈ wsL_law := inR_12 _ (List.mem_of_getElem? (i := 22) rfl)
theorem mw_287 : Cond.methodLink RX3 158 yX2_changeA ∈ wsL_law := inR_12 _ (List.mem_of_getElem? (i := 23) rfl)
theorem mw_288 : Cond.instanceMethod yX2_changeA ∈ wsL_law := inR_13 _ (List.mem_of_getElem? (i := 0) rfl)
theorem mw_289 : Cond.selects RX2 yX2_changeA yX2_changeA ∈ wsL_law := inR_13 _ (List.mem_of_getElem? (i := 1) rfl)
theorem mw_290 : Cond.code yX2_changeA cX2_changeA 3 none ∈ wsL_law := inR_13 _ (List.mem_of_getElem? (i := 2) rfl)
theorem mw_291 : Cond.methodLink RX2 55 yX2_adjustDecimal ∈ wsL_law := inR_13 _ (List.mem_of_getElem? (i := 3) rfl)
theorem mw_292 : Cond.instanceMethod yX2_adjustDecimal ∈ wsL_law := inR_13 _ (List.mem_of_getElem? (i := 4) rfl)
theorem mw_293 : Cond.selects RX2 yX2_adjustDecimal yX2_adjustDecimal ∈ wsL_law := inR_13 _ (List.mem_of_getElem? (i := 5) rfl)
theorem mw_294 : Cond.code yX2_adjustDecimal cX2_adjustDecimal 6 none ∈ wsL_law := inR_13 _ (List.mem_of_getElem? (i := 6) rfl)
theorem mw_295 : Cond.methodLink RX2 30 yX1_a ∈ wsL_law := inR_13 _ (List.mem_of_getElem? (i := 7) rfl)
theorem mw_296 : Cond.methodLink RX2 38 yX1_setA ∈ wsL_law := inR_13 _ (List.mem_of_getElem? (i := 8) rfl)
theorem mw_297 : Cond.methodLink RX2 58 yX2_shift ∈ wsL_law := inR_13 _ (List.mem_of_getElem? (i := 9) rfl)
theorem mw_298 : Cond.methodLink RX3 123 yX2_apply ∈ wsL_law := inR_13 _ (List.mem_of_getElem? (i := 10) rfl)
theorem mw_299 : Cond.instanceMethod yX2_apply ∈ wsL_law := inR_13 _ (List.mem_of_getElem? (i := 11) rfl)
theorem mw_300 : Cond.selects RX2 yX2_apply yX2_apply ∈ wsL_law := inR_13 _ (List.mem_of_getElem? (i := 12) rfl)
theorem mw_301 : Cond.code yX2_apply cX2_apply 4 none ∈ wsL_law := inR_13 _ (List.mem_of_getElem? (i := 13) rfl)
theorem mw_302 : Cond.methodLink RX2 22 yX2_add ∈ wsL_law := inR_13 _ (List.mem_of_getElem? (i := 14) rfl)
theorem mw_303 : Cond.instanceMethod yX2_add ∈ wsL_law := inR_13 _ (List.mem_of_getElem? (i := 15) rfl)
theorem mw_304 : Cond.selects RX2 yX2_add yX2_add ∈ wsL_law := inR_13 _ (List.mem_of_getElem? (i := 16) rfl)
theorem mw_305 : Cond.code yX2_add cX2_add 5 none ∈ wsL_law := inR_13 _ (List.mem_of_getElem? (i := 17) rfl)
theorem mw_306 : Cond.methodLink RX2 26 yX2_subtract ∈ wsL_law := inR_13 _ (List.mem_of_getElem? (i := 18) rfl)
theorem mw_307 : Cond.instanceMethod yX2_subtract ∈ wsL_law := inR_13 _ (List.mem_of_getElem? (i := 19) rfl)
theorem mw_308 : Cond.selects RX2 yX2_subtract yX2_subtract ∈ wsL_law := inR_13 _ (List.mem_of_getElem? (i := 20) rfl)
theorem mw_309 : Cond.code yX2_subtract cX2_subtract 6 none ∈ wsL_law := inR_13 _ (List.mem_of_getElem? (i := 21) rfl)
theorem mw_310 : Cond.methodLink RX2 34 yX2_putLogic ∈ wsL_law := inR_13 _ (List.mem_of_getElem? (i := 22) rfl)
theorem mw_311 : Cond.instanceMethod yX2_putLogic ∈ wsL_law := inR_13 _ (List.mem_of_getElem? (i := 23) rfl)
theorem mw_312 : Cond.selects RX2 yX2_putLogic yX2_putLogic ∈ wsL_law := inR_14 _ (List.mem_of_getElem? (i := 0) rfl)
theorem mw_313 : Cond.code yX2_putLogic cX2_putLogic 3 none ∈ wsL_law := inR_14 _ (List.mem_of_getElem? (i := 1) rfl)
theorem mw_314 : Cond.methodLink RX3 126 yX3_executeLastQuarter ∈ wsL_law := inR_14 _ (List.mem_of_getElem? (i := 2) rfl)
theorem mw_315 : Cond.instanceMethod yX3_executeLastQuarter ∈ wsL_law := inR_14 _ (List.mem_of_getElem? (i := 3) rfl)
theorem mw_316 : Cond.selects RX3 yX3_executeLastQuarter yX3_executeLastQuarter ∈ wsL_law := inR_14 _ (List.mem_of_getElem? (i := 4) rfl)
theorem mw_317 : Cond.code yX3_executeLastQuarter cX3_executeLastQuarter 3 (some .int) ∈ wsL_law := inR_14 _ (List.mem_of_getElem? (i := 5) rfl)
theorem mw_318 : Cond.methodLink RX3 161 yX3_returnIf ∈ wsL_law := inR_14 _ (List.mem_of_getElem? (i := 6) rfl)
theorem mw_319 : Cond.instanceMethod yX3_returnIf ∈ wsL_law := inR_14 _ (List.mem_of_getElem? (i := 7) rfl)
theorem mw_320 : Cond.selects RX3 yX3_returnIf yX3_returnIf ∈ wsL_law := inR_14 _ (List.mem_of_getElem? (i := 8) rfl)
theorem mw_321 : Cond.code yX3_returnIf cX3_returnIf 2 (some .int) ∈ wsL_law := inR_14 _ (List.mem_of_getElem? (i := 9) rfl)
theorem mw_322 : Cond.methodLink RX3 209 yX3_pop ∈ wsL_law := inR_14 _ (List.mem_of_getElem? (i := 10) rfl)
theorem mw_323 : Cond.instanceMethod yX3_pop ∈ wsL_law := inR_14 _ (List.mem_of_getElem? (i := 11) rfl)
theorem mw_324 : Cond.selects RX3 yX3_pop yX3_pop ∈ wsL_law := inR_14 _ (List.mem_of_getElem? (i := 12) rfl)
theorem mw_325 : Cond.code yX3_pop cX3_pop 2 (some .int) ∈ wsL_law := inR_14 _ (List.mem_of_getElem? (i := 13) rfl)
theorem mw_326 : Cond.methodLink RX3 164 yX3_executeWithByte ∈ wsL_law := inR_14 _ (List.mem_of_getElem? (i := 14) rfl)
theorem mw_327 : Cond.instanceMethod yX3_executeWithByte ∈ wsL_law := inR_14 _ (List.mem_of_getElem? (i := 15) rfl)
theorem mw_328 : Cond.selects RX3 yX3_executeWithByte yX3_executeWithByte ∈ wsL_law := inR_14 _ (List.mem_of_getElem? (i := 16) rfl)
theorem mw_329 : Cond.code yX3_executeWithByte cX3_executeWithByte 3 (some .int) ∈ wsL_law := inR_14 _ (List.mem_of_getElem? (i := 17) rfl)
theorem mw_330 : Cond.constant RX3 205 (65280) ∈ wsL_law := inR_14 _ (List.mem_of_getElem? (i := 18) rfl)
theorem mw_331 : Cond.methodLink RX3 206 yX2_spPlus ∈ wsL_law := inR_14 _ (List.mem_of_getElem? (i := 19) rfl)
theorem mw_332 : Cond.instanceMethod yX2_spPlus ∈ wsL_law := inR_14 _ (List.mem_of_getElem? (i := 20) rfl)
theorem mw_333 : Cond.selects RX2 yX2_spPlus yX2_spPlus ∈ wsL_law := inR_14 _ (List.mem_of_getElem? (i := 21) rfl)
theorem mw_334 : Cond.code yX2_spPlus cX2_spPlus 3 (some .int) ∈ wsL_law := inR_14 _ (List.mem_of_getElem? (i := 22) rfl)
theorem mw_335 : Cond.methodLink RX3 167 yX3_popOrMove ∈ wsL_law := inR_14 _ (List.mem_of_getElem? (i := 23) rfl)
theorem mw_336 : Cond.instanceMethod yX3_popOrMove ∈ wsL_law := inR_15 _ (List.mem_of_getElem? (i := 0) rfl)
theorem mw_337 : Cond.selects RX3 yX3_popOrMove yX3_popOrMove ∈ wsL_law := inR_15 _ (List.mem_of_getElem? (i := 1) rfl)
theorem mw_338 : Cond.code yX3_popOrMove cX3_popOrMove 2 none ∈ wsL_law := inR_15 _ (List.mem_of_getElem? (i := 2) rfl)
theorem mw_339 : Cond.methodLink RX3 212 yX3_stackPair ∈ wsL_law := inR_15 _ (List.mem_of_getElem? (i := 3) rfl)
theorem mw_340 : Cond.static yX3_stackPair ∈ wsL_law := inR_15 _ (List.mem_of_getElem? (i := 4) rfl)
theorem mw_341 : Cond.code yX3_stackPair cX3_stackPair 1 (some .int) ∈ wsL_law := inR_15 _ (List.mem_of_getElem? (i := 5) rfl)
theorem mw_342 : Cond.methodLink RX3 170 yX3_jumpIf ∈ wsL_law := inR_15 _ (List.mem_of_getElem? (i := 6) rfl)
theorem mw_343 : Cond.instanceMethod yX3_jumpIf ∈ wsL_law := inR_15 _ (List.mem_of_getElem? (i := 7) rfl)
theorem mw_344 : Cond.selects RX3 yX3_jumpIf yX3_jumpIf ∈ wsL_law := inR_15 _ (List.mem_of_getElem? (i := 8) rfl)
theorem mw_345 : Cond.code yX3_jumpIf cX3_jumpIf 3 (some .int) ∈ wsL_law := inR_15 _ (List.mem_of_getElem? (i := 9) rfl)
theorem mw_346 : Cond.methodLink RX3 173 yX3_loadFar ∈ wsL_law := inR_15 _ (List.mem_of_getElem? (i := 10) rfl)
theorem mw_347 : Cond.instanceMethod yX3_loadFar ∈ wsL_law := inR_15 _ (List.mem_of_getElem? (i := 11) rfl)
theorem mw_348 : Cond.selects RX3 yX3_loadFar yX3_loadFar ∈ wsL_law := inR_15 _ (List.mem_of_getElem? (i := 12) rfl)
theorem mw_349 : Cond.code yX3_loadFar cX3_loadFar 3 (some .int) ∈ wsL_law := inR_15 _ (List.mem_of_getElem? (i := 13) rfl)
theorem mw_350 : Cond.methodLink RX3 176 yX3_switchInterrupts ∈ wsL_law := inR_15 _ (List.mem_of_getElem? (i := 14) rfl)
theorem mw_351 : Cond.instanceMethod yX3_switchInterrupts ∈ wsL_law := inR_15 _ (List.mem_of_getElem? (i := 15) rfl)
theorem mw_352 : Cond.selects RX3 yX3_switchInterrupts yX3_switchInterrupts ∈ wsL_law := inR_15 _ (List.mem_of_getElem? (i := 16) rfl)
theorem mw_353 : Cond.code yX3_switchInterrupts cX3_switchInterrupts 2 (some .int) ∈ wsL_law := inR_15 _ (List.mem_of_getElem? (i := 17) rfl)
theorem mw_354 : Cond.methodLink RX3 179 yX3_callIf ∈ wsL_law := inR_15 _ (List.mem_of_getElem? (i := 18) rfl)
theorem mw_355 : Cond.instanceMethod yX3_callIf ∈ wsL_law := inR_15 _ (List.mem_of_getElem? (i := 19) rfl)
theorem mw_356 : Cond.selects RX3 yX3_callIf yX3_callIf ∈ wsL_law := inR_15 _ (List.mem_of_getElem? (i := 20) rfl)
theorem mw_357 : Cond.code yX3_callIf cX3_callIf 3 (some .int) ∈ wsL_law := inR_15 _ (List.mem_of_getElem? (i := 21) rfl)
theorem mw_358 : Cond.methodLink RX3 182 yX3_pushPair ∈ wsL_law := inR_15 _ (List.mem_of_getElem? (i := 22) rfl)
theorem mw_359 : Cond.instanceMethod yX3_pushPair ∈ wsL_law := inR_15 _ (List.mem_of_getElem? (i := 23) rfl)
theorem mw_360 : Cond.selects RX3 yX3_pushPair yX3_pushPair ∈ wsL_law := inR_16 _ (List.mem_of_getElem? (i := 0) rfl)
theorem mw_361 : Cond.code yX3_pushPair cX3_pushPair 2 (some .int) ∈ wsL_law := inR_16 _ (List.mem_of_getElem? (i := 1) rfl)
theorem mw_362 : Cond.methodLink RL 32 yX4_step ∈ wsL_law := inR_16 _ (List.mem_of_getElem? (i := 2) rfl)
theorem mw_363 : Cond.instanceMethod yX4_step ∈ wsL_law := inR_16 _ (List.mem_of_getElem? (i := 3) rfl)
theorem mw_364 : Cond.selects RX4 yX4_step yX4_step ∈ wsL_law := inR_16 _ (List.mem_of_getElem? (i := 4) rfl)
theorem mw_365 : Cond.code yX4_step cX4_step 2 (some .int) ∈ wsL_law := inR_16 _ (List.mem_of_getElem? (i := 5) rfl)
theorem mw_366 : Cond.constant RX4 103 (65295) ∈ wsL_law := inR_16 _ (List.mem_of_getElem? (i := 6) rfl)
theorem mw_367 : Cond.fieldLink RX4 23 "GameCoreModel" "cycles" "I" ∈ wsL_law := inR_16 _ (List.mem_of_getElem? (i := 7) rfl)
theorem mw_368 : Cond.fieldLink RX4 104 "GameCoreModel" "isOn" "Z" ∈ wsL_law := inR_16 _ (List.mem_of_getElem? (i := 8) rfl)
theorem mw_369 : Cond.fieldLink RX4 107 "GameCoreModel" "halted" "Z" ∈ wsL_law := inR_16 _ (List.mem_of_getElem? (i := 9) rfl)
theorem mw_370 : Cond.fieldLink RX4 38 "GameCoreModel" "pc" "I" ∈ wsL_law := inR_16 _ (List.mem_of_getElem? (i := 10) rfl)
theorem mw_371 : Cond.fieldLink RX4 197 "GameCoreModel" "waits" "Z" ∈ wsL_law := inR_16 _ (List.mem_of_getElem? (i := 11) rfl)
theorem mw_372 : Cond.fieldLink RX4 110 "GameCoreModel" "wasWaiting" "Z" ∈ wsL_law := inR_16 _ (List.mem_of_getElem? (i := 12) rfl)
theorem mw_373 : Cond.fieldLink RX4 203 "GameCoreModel" "isEi" "Z" ∈ wsL_law := inR_16 _ (List.mem_of_getElem? (i := 13) rfl)
theorem mw_374 : Cond.methodLink RX4 213 yX4_dispatch ∈ wsL_law := inR_16 _ (List.mem_of_getElem? (i := 14) rfl)
theorem mw_375 : Cond.instanceMethod yX4_dispatch ∈ wsL_law := inR_16 _ (List.mem_of_getElem? (i := 15) rfl)
theorem mw_376 : Cond.selects RX4 yX4_dispatch yX4_dispatch ∈ wsL_law := inR_16 _ (List.mem_of_getElem? (i := 16) rfl)
theorem mw_377 : Cond.code yX4_dispatch cX4_dispatch 3 none ∈ wsL_law := inR_16 _ (List.mem_of_getElem? (i := 17) rfl)
theorem mw_378 : Cond.methodLink RX4 181 yX4_push ∈ wsL_law := inR_16 _ (List.mem_of_getElem? (i := 18) rfl)
theorem mw_379 : Cond.instanceMethod yX4_push ∈ wsL_law := inR_16 _ (List.mem_of_getElem? (i := 19) rfl)
theorem mw_380 : Cond.selects RX4 yX4_push yX4_push ∈ wsL_law := inR_16 _ (List.mem_of_getElem? (i := 20) rfl)
theorem mw_381 : Cond.code yX4_push cX4_push 2 none ∈ wsL_law := inR_16 _ (List.mem_of_getElem? (i := 21) rfl)
theorem mw_382 : Cond.fieldLink RX4 48 "GameCoreModel" "sp" "I" ∈ wsL_law := inR_16 _ (List.mem_of_getElem? (i := 22) rfl)
theorem mw_383 : Cond.methodLink RX4 51 yX4_writes ∈ wsL_law := inR_16 _ (List.mem_of_getElem? (i := 23) rfl)
theorem mw_384 : Cond.instanceMethod yX4_writes ∈ wsL_law := inR_17 _ (List.mem_of_getElem? (i := 0) rfl)
theorem mw_385 : Cond.selects RX4 yX4_writes yX4_writes ∈ wsL_law := inR_17 _ (List.mem_of_getElem? (i := 1) rfl)
theorem mw_386 : Cond.code yX4_writes cX4_writes 3 none ∈ wsL_law := inR_17 _ (List.mem_of_getElem? (i := 2) rfl)
theorem mw_387 : Cond.constant RX4 30 (65284) ∈ wsL_law := inR_17 _ (List.mem_of_getElem? (i := 3) rfl)
theorem mw_388 : Cond.fieldLink RX4 35 "GameCoreModel" "counter" "I" ∈ wsL_law := inR_17 _ (List.mem_of_getElem? (i := 4) rfl)
theorem mw_389 : Cond.methodLink RX4 216 yX4_time ∈ wsL_law := inR_17 _ (List.mem_of_getElem? (i := 5) rfl)
theorem mw_390 : Cond.instanceMethod yX4_time ∈ wsL_law := inR_17 _ (List.mem_of_getElem? (i := 6) rfl)
theorem mw_391 : Cond.selects RX4 yX4_time yX4_time ∈ wsL_law := inR_17 _ (List.mem_of_getElem? (i := 7) rfl)
theorem mw_392 : Cond.code yX4_time cX4_time 4 none ∈ wsL_law := inR_17 _ (List.mem_of_getElem? (i := 8) rfl)
theorem mw_393 : Cond.constant RX4 206 (65287) ∈ wsL_law := inR_17 _ (List.mem_of_getElem? (i := 9) rfl)
theorem mw_394 : Cond.constant RX4 207 (65285) ∈ wsL_law := inR_17 _ (List.mem_of_getElem? (i := 10) rfl)
theorem mw_395 : Cond.constant RX4 208 (65286) ∈ wsL_law := inR_17 _ (List.mem_of_getElem? (i := 11) rfl)
theorem mw_396 : Cond.fieldLink RX4 209 "GameCoreModel" "all" "I" ∈ wsL_law := inR_17 _ (List.mem_of_getElem? (i := 12) rfl)
theorem mw_397 : Cond.constant RX4 212 (1073741823) ∈ wsL_law := inR_17 _ (List.mem_of_getElem? (i := 13) rfl)
theorem mw_398 : Cond.methodLink RX4 219 yX4_isNone ∈ wsL_law := inR_17 _ (List.mem_of_getElem? (i := 14) rfl)
theorem mw_399 : Cond.static yX4_isNone ∈ wsL_law := inR_17 _ (List.mem_of_getElem? (i := 15) rfl)
theorem mw_400 : Cond.code yX4_isNone cX4_isNone 1 (some .boolean) ∈ wsL_law := inR_17 _ (List.mem_of_getElem? (i := 16) rfl)
theorem mw_401 : Cond.methodLink RX4 222 yX4_instruction ∈ wsL_law := inR_17 _ (List.mem_of_getElem? (i := 17) rfl)
theorem mw_402 : Cond.instanceMethod yX4_instruction ∈ wsL_law := inR_17 _ (List.mem_of_getElem? (i := 18) rfl)
theorem mw_403 : Cond.selects RX4 yX4_instruction yX4_instruction ∈ wsL_law := inR_17 _ (List.mem_of_getElem? (i := 19) rfl)
theorem mw_404 : Cond.code yX4_instruction cX4_instruction 5 none ∈ wsL_law := inR_17 _ (List.mem_of_getElem? (i := 20) rfl)
theorem mw_405 : Cond.fieldLink RX4 81 "GameCoreModel" "bug" "Z" ∈ wsL_law := inR_17 _ (List.mem_of_getElem? (i := 21) rfl)
theorem mw_406 : Cond.methodLink RX4 41 yX4_reads ∈ wsL_law := inR_17 _ (List.mem_of_getElem? (i := 22) rfl)
theorem mw_407 : Cond.instanceMethod yX4_reads ∈ wsL_law := inR_17 _ (List.mem_of_getElem? (i := 23) rfl)
theorem mw_408 : Cond.selects RX4 yX4_reads yX4_reads ∈ wsL_law := inR_18 _ (List.mem_of_getElem? (i := 0) rfl)
theorem mw_409 : Cond.code yX4_reads cX4_reads 2 (some .int) ∈ wsL_law := inR_18 _ (List.mem_of_getElem? (i := 1) rfl)
theorem mw_410 : Cond.methodLink RX4 84 yX4_first ∈ wsL_law := inR_18 _ (List.mem_of_getElem? (i := 2) rfl)
theorem mw_411 : Cond.instanceMethod yX4_first ∈ wsL_law := inR_18 _ (List.mem_of_getElem? (i := 3) rfl)
theorem mw_412 : Cond.selects RX4 yX4_first yX4_first ∈ wsL_law := inR_18 _ (List.mem_of_getElem? (i := 4) rfl)
theorem mw_413 : Cond.code yX4_first cX4_first 5 none ∈ wsL_law := inR_18 _ (List.mem_of_getElem? (i := 5) rfl)
theorem mw_414 : Cond.methodLink RX4 113 yX4_jumpsNear ∈ wsL_law := inR_18 _ (List.mem_of_getElem? (i := 6) rfl)
theorem mw_415 : Cond.instanceMethod yX4_jumpsNear ∈ wsL_law := inR_18 _ (List.mem_of_getElem? (i := 7) rfl)
theorem mw_416 : Cond.selects RX4 yX4_jumpsNear yX4_jumpsNear ∈ wsL_law := inR_18 _ (List.mem_of_getElem? (i := 8) rfl)
theorem mw_417 : Cond.code yX4_jumpsNear cX4_jumpsNear 3 none ∈ wsL_law := inR_18 _ (List.mem_of_getElem? (i := 9) rfl)
theorem mw_418 : Cond.methodLink RX4 119 yX4_fetchWord ∈ wsL_law := inR_18 _ (List.mem_of_getElem? (i := 10) rfl)
theorem mw_419 : Cond.instanceMethod yX4_fetchWord ∈ wsL_law := inR_18 _ (List.mem_of_getElem? (i := 11) rfl)
theorem mw_420 : Cond.selects RX4 yX4_fetchWord yX4_fetchWord ∈ wsL_law := inR_18 _ (List.mem_of_getElem? (i := 12) rfl)
theorem mw_421 : Cond.code yX4_fetchWord cX4_fetchWord 2 (some .int) ∈ wsL_law := inR_18 _ (List.mem_of_getElem? (i := 13) rfl)
theorem mw_422 : Cond.methodLink RX4 44 yX4_fetch ∈ wsL_law := inR_18 _ (List.mem_of_getElem? (i := 14) rfl)
theorem mw_423 : Cond.instanceMethod yX4_fetch ∈ wsL_law := inR_18 _ (List.mem_of_getElem? (i := 15) rfl)
theorem mw_424 : Cond.selects RX4 yX4_fetch yX4_fetch ∈ wsL_law := inR_18 _ (List.mem_of_getElem? (i := 16) rfl)
theorem mw_425 : Cond.code yX4_fetch cX4_fetch 2 (some .int) ∈ wsL_law := inR_18 _ (List.mem_of_getElem? (i := 17) rfl)
theorem mw_426 : Cond.methodLink RX4 147 yX4_holds ∈ wsL_law := inR_18 _ (List.mem_of_getElem? (i := 18) rfl)
theorem mw_427 : Cond.instanceMethod yX4_holds ∈ wsL_law := inR_18 _ (List.mem_of_getElem? (i := 19) rfl)
theorem mw_428 : Cond.selects RX4 yX4_holds yX4_holds ∈ wsL_law := inR_18 _ (List.mem_of_getElem? (i := 20) rfl)
theorem mw_429 : Cond.code yX4_holds cX4_holds 2 (some .boolean) ∈ wsL_law := inR_18 _ (List.mem_of_getElem? (i := 21) rfl)
theorem mw_430 : Cond.fieldLink RX4 54 "GameCoreModel" "zero" "Z" ∈ wsL_law := inR_18 _ (List.mem_of_getElem? (i := 22) rfl)
theorem mw_431 : Cond.fieldLink RX4 64 "GameCoreModel" "carry" "Z" ∈ wsL_law := inR_18 _ (List.mem_of_getElem? (i := 23) rfl)
theorem mw_432 : Cond.methodLink RX4 116 yX4_addsPair ∈ wsL_law := inR_19 _ (List.mem_of_getElem? (i := 0) rfl)
theorem mw_433 : Cond.instanceMethod yX4_addsPair ∈ wsL_law := inR_19 _ (List.mem_of_getElem? (i := 1) rfl)
theorem mw_434 : Cond.selects RX4 yX4_addsPair yX4_addsPair ∈ wsL_law := inR_19 _ (List.mem_of_getElem? (i := 2) rfl)
theorem mw_435 : Cond.code yX4_addsPair cX4_addsPair 4 none ∈ wsL_law := inR_19 _ (List.mem_of_getElem? (i := 3) rfl)
theorem mw_436 : Cond.methodLink RX4 67 yX4_hl ∈ wsL_law := inR_19 _ (List.mem_of_getElem? (i := 4) rfl)
theorem mw_437 : Cond.instanceMethod yX4_hl ∈ wsL_law := inR_19 _ (List.mem_of_getElem? (i := 5) rfl)
theorem mw_438 : Cond.selects RX4 yX4_hl yX4_hl ∈ wsL_law := inR_19 _ (List.mem_of_getElem? (i := 6) rfl)
theorem mw_439 : Cond.code yX4_hl cX4_hl 1 (some .int) ∈ wsL_law := inR_19 _ (List.mem_of_getElem? (i := 7) rfl)
theorem mw_440 : Cond.methodLink RX4 129 yX4_wide ∈ wsL_law := inR_19 _ (List.mem_of_getElem? (i := 8) rfl)
theorem mw_441 : Cond.instanceMethod yX4_wide ∈ wsL_law := inR_19 _ (List.mem_of_getElem? (i := 9) rfl)
theorem mw_442 : Cond.selects RX4 yX4_wide yX4_wide ∈ wsL_law := inR_19 _ (List.mem_of_getElem? (i := 10) rfl)
theorem mw_443 : Cond.code yX4_wide cX4_wide 2 (some .int) ∈ wsL_law := inR_19 _ (List.mem_of_getElem? (i := 11) rfl)
theorem mw_444 : Cond.methodLink RX4 141 yX4_pair ∈ wsL_law := inR_19 _ (List.mem_of_getElem? (i := 12) rfl)
theorem mw_445 : Cond.instanceMethod yX4_pair ∈ wsL_law := inR_19 _ (List.mem_of_getElem? (i := 13) rfl)
theorem mw_446 : Cond.selects RX4 yX4_pair yX4_pair ∈ wsL_law := inR_19 _ (List.mem_of_getElem? (i := 14) rfl)
theorem mw_447 : Cond.code yX4_pair cX4_pair 2 (some .int) ∈ wsL_law := inR_19 _ (List.mem_of_getElem? (i := 15) rfl)
theorem mw_448 : Cond.methodLink RX4 70 yX4_flagsAre ∈ wsL_law := inR_19 _ (List.mem_of_getElem? (i := 16) rfl)
theorem mw_449 : Cond.instanceMethod yX4_flagsAre ∈ wsL_law := inR_19 _ (List.mem_of_getElem? (i := 17) rfl)
theorem mw_450 : Cond.selects RX4 yX4_flagsAre yX4_flagsAre ∈ wsL_law := inR_19 _ (List.mem_of_getElem? (i := 18) rfl)
theorem mw_451 : Cond.code yX4_flagsAre cX4_flagsAre 5 none ∈ wsL_law := inR_19 _ (List.mem_of_getElem? (i := 19) rfl)
theorem mw_452 : Cond.fieldLink RX4 58 "GameCoreModel" "minus" "Z" ∈ wsL_law := inR_19 _ (List.mem_of_getElem? (i := 20) rfl)
theorem mw_453 : Cond.fieldLink RX4 61 "GameCoreModel" "half" "Z" ∈ wsL_law := inR_19 _ (List.mem_of_getElem? (i := 21) rfl)
theorem mw_454 : Cond.methodLink RX4 144 yX4_setPair ∈ wsL_law := inR_19 _ (List.mem_of_getElem? (i := 22) rfl)
theorem mw_455 : Cond.instanceMethod yX4_setPair ∈ wsL_law := inR_19 _ (List.mem_of_getElem? (i := 23) rfl)
theorem mw_456 : Cond.selects RX4 yX4_setPair yX4_setPair ∈ wsL_law := inR_20 _ (List.mem_of_getElem? (i := 0) rfl)
theorem mw_457 : Cond.code yX4_setPair cX4_setPair 3 none ∈ wsL_law := inR_20 _ (List.mem_of_getElem? (i := 1) rfl)
theorem mw_458 : Cond.methodLink RX4 122 yX4_setWide ∈ wsL_law := inR_20 _ (List.mem_of_getElem? (i := 2) rfl)
theorem mw_459 : Cond.instanceMethod yX4_setWide ∈ wsL_law := inR_20 _ (List.mem_of_getElem? (i := 3) rfl)
theorem mw_460 : Cond.selects RX4 yX4_setWide yX4_setWide ∈ wsL_law := inR_20 _ (List.mem_of_getElem? (i := 4) rfl)
theorem mw_461 : Cond.code yX4_setWide cX4_setWide 3 none ∈ wsL_law := inR_20 _ (List.mem_of_getElem? (i := 5) rfl)
theorem mw_462 : Cond.methodLink RX4 125 yX4_byPair ∈ wsL_law := inR_20 _ (List.mem_of_getElem? (i := 6) rfl)
theorem mw_463 : Cond.instanceMethod yX4_byPair ∈ wsL_law := inR_20 _ (List.mem_of_getElem? (i := 7) rfl)
theorem mw_464 : Cond.selects RX4 yX4_byPair yX4_byPair ∈ wsL_law := inR_20 _ (List.mem_of_getElem? (i := 8) rfl)
theorem mw_465 : Cond.code yX4_byPair cX4_byPair 4 none ∈ wsL_law := inR_20 _ (List.mem_of_getElem? (i := 9) rfl)
theorem mw_466 : Cond.methodLink RX4 91 yX4_operand ∈ wsL_law := inR_20 _ (List.mem_of_getElem? (i := 10) rfl)
theorem mw_467 : Cond.instanceMethod yX4_operand ∈ wsL_law := inR_20 _ (List.mem_of_getElem? (i := 11) rfl)
theorem mw_468 : Cond.selects RX4 yX4_operand yX4_operand ∈ wsL_law := inR_20 _ (List.mem_of_getElem? (i := 12) rfl)
theorem mw_469 : Cond.code yX4_operand cX4_operand 2 (some .int) ∈ wsL_law := inR_20 _ (List.mem_of_getElem? (i := 13) rfl)
theorem mw_470 : Cond.methodLink RX4 132 yX4_increased ∈ wsL_law := inR_20 _ (List.mem_of_getElem? (i := 14) rfl)
theorem mw_471 : Cond.instanceMethod yX4_increased ∈ wsL_law := inR_20 _ (List.mem_of_getElem? (i := 15) rfl)
theorem mw_472 : Cond.selects RX4 yX4_increased yX4_increased ∈ wsL_law := inR_20 _ (List.mem_of_getElem? (i := 16) rfl)
theorem mw_473 : Cond.code yX4_increased cX4_increased 3 (some .int) ∈ wsL_law := inR_20 _ (List.mem_of_getElem? (i := 17) rfl)
theorem mw_474 : Cond.methodLink RX4 94 yX4_setOperand ∈ wsL_law := inR_20 _ (List.mem_of_getElem? (i := 18) rfl)
theorem mw_475 : Cond.instanceMethod yX4_setOperand ∈ wsL_law := inR_20 _ (List.mem_of_getElem? (i := 19) rfl)
theorem mw_476 : Cond.selects RX4 yX4_setOperand yX4_setOperand ∈ wsL_law := inR_20 _ (List.mem_of_getElem? (i := 20) rfl)
theorem mw_477 : Cond.code yX4_setOperand cX4_setOperand 3 none ∈ wsL_law := inR_20 _ (List.mem_of_getElem? (i := 21) rfl)
theorem mw_478 : Cond.methodLink RX4 135 yX4_decreased ∈ wsL_law := inR_20 _ (List.mem_of_getElem? (i := 22) rfl)
theorem mw_479 : Cond.instanceMethod yX4_decreased ∈ wsL_law := inR_20 _ (List.mem_of_getElem? (i := 23) rfl)
theorem mw_480 : Cond.selects RX4 yX4_decreased yX4_decreased ∈ wsL_law := inR_21 _ (List.mem_of_getElem? (i := 0) rfl)
theorem mw_481 : Cond.code yX4_decreased cX4_decreased 3 (some .int) ∈ wsL_law := inR_21 _ (List.mem_of_getElem? (i := 1) rfl)
theorem mw_482 : Cond.methodLink RX4 138 yX4_onA ∈ wsL_law := inR_21 _ (List.mem_of_getElem? (i := 2) rfl)
theorem mw_483 : Cond.instanceMethod yX4_onA ∈ wsL_law := inR_21 _ (List.mem_of_getElem? (i := 3) rfl)
theorem mw_484 : Cond.selects RX4 yX4_onA yX4_onA ∈ wsL_law := inR_21 _ (List.mem_of_getElem? (i := 4) rfl)
theorem mw_485 : Cond.code yX4_onA cX4_onA 2 none ∈ wsL_law := inR_21 _ (List.mem_of_getElem? (i := 5) rfl)
theorem mw_486 : Cond.methodLink RX4 151 yX4_turned ∈ wsL_law := inR_21 _ (List.mem_of_getElem? (i := 6) rfl)
theorem mw_487 : Cond.instanceMethod yX4_turned ∈ wsL_law := inR_21 _ (List.mem_of_getElem? (i := 7) rfl)
theorem mw_488 : Cond.selects RX4 yX4_turned yX4_turned ∈ wsL_law := inR_21 _ (List.mem_of_getElem? (i := 8) rfl)
theorem mw_489 : Cond.code yX4_turned cX4_turned 6 (some .int) ∈ wsL_law := inR_21 _ (List.mem_of_getElem? (i := 9) rfl)
theorem mw_490 : Cond.methodLink RX4 154 yX4_adjusts ∈ wsL_law := inR_21 _ (List.mem_of_getElem? (i := 10) rfl)
theorem mw_491 : Cond.instanceMethod yX4_adjusts ∈ wsL_law := inR_21 _ (List.mem_of_getElem? (i := 11) rfl)
theorem mw_492 : Cond.selects RX4 yX4_adjusts yX4_adjusts ∈ wsL_law := inR_21 _ (List.mem_of_getElem? (i := 12) rfl)
theorem mw_493 : Cond.code yX4_adjusts cX4_adjusts 4 none ∈ wsL_law := inR_21 _ (List.mem_of_getElem? (i := 13) rfl)
theorem mw_494 : Cond.methodLink RX4 87 yX4_halts ∈ wsL_law := inR_21 _ (List.mem_of_getElem? (i := 14) rfl)
theorem mw_495 : Cond.instanceMethod yX4_halts ∈ wsL_law := inR_21 _ (List.mem_of_getElem? (i := 15) rfl)
theorem mw_496 : Cond.selects RX4 yX4_halts yX4_halts ∈ wsL_law := inR_21 _ (List.mem_of_getElem? (i := 16) rfl)
theorem mw_497 : Cond.code yX4_halts cX4_halts 2 none ∈ wsL_law := inR_21 _ (List.mem_of_getElem? (i := 17) rfl)
theorem mw_498 : Cond.methodLink RX4 97 yX4_sums ∈ wsL_law := inR_21 _ (List.mem_of_getElem? (i := 18) rfl)
theorem mw_499 : Cond.instanceMethod yX4_sums ∈ wsL_law := inR_21 _ (List.mem_of_getElem? (i := 19) rfl)
theorem mw_500 : Cond.selects RX4 yX4_sums yX4_sums ∈ wsL_law := inR_21 _ (List.mem_of_getElem? (i := 20) rfl)
theorem mw_501 : Cond.code yX4_sums cX4_sums 5 none ∈ wsL_law := inR_21 _ (List.mem_of_getElem? (i := 21) rfl)
theorem mw_502 : Cond.methodLink RX4 74 yX4_adds ∈ wsL_law := inR_21 _ (List.mem_of_getElem? (i := 22) rfl)
theorem mw_503 : Cond.instanceMethod yX4_adds ∈ wsL_law := inR_21 _ (List.mem_of_getElem? (i := 23) rfl)
theorem mw_504 : Cond.selects RX4 yX4_adds yX4_adds ∈ wsL_law := inR_22 _ (List.mem_of_getElem? (i := 0) rfl)
theorem mw_505 : Cond.code yX4_adds cX4_adds 5 none ∈ wsL_law := inR_22 _ (List.mem_of_getElem? (i := 1) rfl)
theorem mw_506 : Cond.methodLink RX4 77 yX4_less ∈ wsL_law := inR_22 _ (List.mem_of_getElem? (i := 2) rfl)
theorem mw_507 : Cond.instanceMethod yX4_less ∈ wsL_law := inR_22 _ (List.mem_of_getElem? (i := 3) rfl)
theorem mw_508 : Cond.selects RX4 yX4_less yX4_less ∈ wsL_law := inR_22 _ (List.mem_of_getElem? (i := 4) rfl)
theorem mw_509 : Cond.code yX4_less cX4_less 5 (some .int) ∈ wsL_law := inR_22 _ (List.mem_of_getElem? (i := 5) rfl)
theorem mw_510 : Cond.methodLink RX4 100 yX4_last ∈ wsL_law := inR_22 _ (List.mem_of_getElem? (i := 6) rfl)
theorem mw_511 : Cond.instanceMethod yX4_last ∈ wsL_law := inR_22 _ (List.mem_of_getElem? (i := 7) rfl)
theorem mw_512 : Cond.selects RX4 yX4_last yX4_last ∈ wsL_law := inR_22 _ (List.mem_of_getElem? (i := 8) rfl)
theorem mw_513 : Cond.code yX4_last cX4_last 3 none ∈ wsL_law := inR_22 _ (List.mem_of_getElem? (i := 9) rfl)
theorem mw_514 : Cond.methodLink RX4 157 yX4_returnsIf ∈ wsL_law := inR_22 _ (List.mem_of_getElem? (i := 10) rfl)
theorem mw_515 : Cond.instanceMethod yX4_returnsIf ∈ wsL_law := inR_22 _ (List.mem_of_getElem? (i := 11) rfl)
theorem mw_516 : Cond.selects RX4 yX4_returnsIf yX4_returnsIf ∈ wsL_law := inR_22 _ (List.mem_of_getElem? (i := 12) rfl)
theorem mw_517 : Cond.code yX4_returnsIf cX4_returnsIf 2 none ∈ wsL_law := inR_22 _ (List.mem_of_getElem? (i := 13) rfl)
theorem mw_518 : Cond.methodLink RX4 187 yX4_pop ∈ wsL_law := inR_22 _ (List.mem_of_getElem? (i := 14) rfl)
theorem mw_519 : Cond.instanceMethod yX4_pop ∈ wsL_law := inR_22 _ (List.mem_of_getElem? (i := 15) rfl)
theorem mw_520 : Cond.selects RX4 yX4_pop yX4_pop ∈ wsL_law := inR_22 _ (List.mem_of_getElem? (i := 16) rfl)
theorem mw_521 : Cond.code yX4_pop cX4_pop 3 (some .int) ∈ wsL_law := inR_22 _ (List.mem_of_getElem? (i := 17) rfl)
theorem mw_522 : Cond.methodLink RX4 160 yX4_high ∈ wsL_law := inR_22 _ (List.mem_of_getElem? (i := 18) rfl)
theorem mw_523 : Cond.instanceMethod yX4_high ∈ wsL_law := inR_22 _ (List.mem_of_getElem? (i := 19) rfl)
theorem mw_524 : Cond.selects RX4 yX4_high yX4_high ∈ wsL_law := inR_22 _ (List.mem_of_getElem? (i := 20) rfl)
theorem mw_525 : Cond.code yX4_high cX4_high 3 none ∈ wsL_law := inR_22 _ (List.mem_of_getElem? (i := 21) rfl)
theorem mw_526 : Cond.constant RX4 190 (65280) ∈ wsL_law := inR_22 _ (List.mem_of_getElem? (i := 22) rfl)
theorem mw_527 : Cond.methodLink RX4 191 yX4_moved ∈ wsL_law := inR_22 _ (List.mem_of_getElem? (i := 23) rfl)
theorem mw_528 : Cond.instanceMethod yX4_moved ∈ wsL_law := inR_23 _ (List.mem_of_getElem? (i := 0) rfl)
theorem mw_529 : Cond.selects RX4 yX4_moved yX4_moved ∈ wsL_law := inR_23 _ (List.mem_of_getElem? (i := 1) rfl)
theorem mw_530 : Cond.code yX4_moved cX4_moved 3 (some .int) ∈ wsL_law := inR_23 _ (List.mem_of_getElem? (i := 2) rfl)
theorem mw_531 : Cond.methodLink RX4 163 yX4_popsOr ∈ wsL_law := inR_23 _ (List.mem_of_getElem? (i := 3) rfl)
theorem mw_532 : Cond.instanceMethod yX4_popsOr ∈ wsL_law := inR_23 _ (List.mem_of_getElem? (i := 4) rfl)
theorem mw_533 : Cond.selects RX4 yX4_popsOr yX4_popsOr ∈ wsL_law := inR_23 _ (List.mem_of_getElem? (i := 5) rfl)
theorem mw_534 : Cond.code yX4_popsOr cX4_popsOr 3 none ∈ wsL_law := inR_23 _ (List.mem_of_getElem? (i := 6) rfl)
theorem mw_535 : Cond.methodLink RX4 194 yX4_setFlags ∈ wsL_law := inR_23 _ (List.mem_of_getElem? (i := 7) rfl)
theorem mw_536 : Cond.instanceMethod yX4_setFlags ∈ wsL_law := inR_23 _ (List.mem_of_getElem? (i := 8) rfl)
theorem mw_537 : Cond.selects RX4 yX4_setFlags yX4_setFlags ∈ wsL_law := inR_23 _ (List.mem_of_getElem? (i := 9) rfl)
theorem mw_538 : Cond.code yX4_setFlags cX4_setFlags 2 none ∈ wsL_law := inR_23 _ (List.mem_of_getElem? (i := 10) rfl)
theorem mw_539 : Cond.methodLink RX4 166 yX4_jumpsIf ∈ wsL_law := inR_23 _ (List.mem_of_getElem? (i := 11) rfl)
theorem mw_540 : Cond.instanceMethod yX4_jumpsIf ∈ wsL_law := inR_23 _ (List.mem_of_getElem? (i := 12) rfl)
theorem mw_541 : Cond.selects RX4 yX4_jumpsIf yX4_jumpsIf ∈ wsL_law := inR_23 _ (List.mem_of_getElem? (i := 13) rfl)
theorem mw_542 : Cond.code yX4_jumpsIf cX4_jumpsIf 3 none ∈ wsL_law := inR_23 _ (List.mem_of_getElem? (i := 14) rfl)
theorem mw_543 : Cond.methodLink RX4 169 yX4_far ∈ wsL_law := inR_23 _ (List.mem_of_getElem? (i := 15) rfl)
theorem mw_544 : Cond.instanceMethod yX4_far ∈ wsL_law := inR_23 _ (List.mem_of_getElem? (i := 16) rfl)
theorem mw_545 : Cond.selects RX4 yX4_far yX4_far ∈ wsL_law := inR_23 _ (List.mem_of_getElem? (i := 17) rfl)
theorem mw_546 : Cond.code yX4_far cX4_far 3 none ∈ wsL_law := inR_23 _ (List.mem_of_getElem? (i := 18) rfl)
theorem mw_547 : Cond.methodLink RX4 172 yX4_others ∈ wsL_law := inR_23 _ (List.mem_of_getElem? (i := 19) rfl)
theorem mw_548 : Cond.instanceMethod yX4_others ∈ wsL_law := inR_23 _ (List.mem_of_getElem? (i := 20) rfl)
theorem mw_549 : Cond.selects RX4 yX4_others yX4_others ∈ wsL_law := inR_23 _ (List.mem_of_getElem? (i := 21) rfl)
theorem mw_550 : Cond.code yX4_others cX4_others 2 none ∈ wsL_law := inR_23 _ (List.mem_of_getElem? (i := 22) rfl)
theorem mw_551 : Cond.methodLink RX4 200 yX4_extended ∈ wsL_law := inR_23 _ (List.mem_of_getElem? (i := 23) rfl)
theorem mw_552 : Cond.instanceMethod yX4_extended ∈ wsL_law := inR_24 _ (List.mem_of_getElem? (i := 0) rfl)
theorem mw_553 : Cond.selects RX4 yX4_extended yX4_extended ∈ wsL_law := inR_24 _ (List.mem_of_getElem? (i := 1) rfl)
theorem mw_554 : Cond.code yX4_extended cX4_extended 5 none ∈ wsL_law := inR_24 _ (List.mem_of_getElem? (i := 2) rfl)
theorem mw_555 : Cond.methodLink RX4 175 yX4_callsIf ∈ wsL_law := inR_24 _ (List.mem_of_getElem? (i := 3) rfl)
theorem mw_556 : Cond.instanceMethod yX4_callsIf ∈ wsL_law := inR_24 _ (List.mem_of_getElem? (i := 4) rfl)
theorem mw_557 : Cond.selects RX4 yX4_callsIf yX4_callsIf ∈ wsL_law := inR_24 _ (List.mem_of_getElem? (i := 5) rfl)
theorem mw_558 : Cond.code yX4_callsIf cX4_callsIf 3 none ∈ wsL_law := inR_24 _ (List.mem_of_getElem? (i := 6) rfl)
theorem mw_559 : Cond.methodLink RX4 184 yX4_calls ∈ wsL_law := inR_24 _ (List.mem_of_getElem? (i := 7) rfl)
theorem mw_560 : Cond.instanceMethod yX4_calls ∈ wsL_law := inR_24 _ (List.mem_of_getElem? (i := 8) rfl)
theorem mw_561 : Cond.selects RX4 yX4_calls yX4_calls ∈ wsL_law := inR_24 _ (List.mem_of_getElem? (i := 9) rfl)
theorem mw_562 : Cond.code yX4_calls cX4_calls 2 none ∈ wsL_law := inR_24 _ (List.mem_of_getElem? (i := 10) rfl)
theorem mw_563 : Cond.methodLink RX4 178 yX4_flags ∈ wsL_law := inR_24 _ (List.mem_of_getElem? (i := 11) rfl)
theorem mw_564 : Cond.instanceMethod yX4_flags ∈ wsL_law := inR_24 _ (List.mem_of_getElem? (i := 12) rfl)
theorem mw_565 : Cond.selects RX4 yX4_flags yX4_flags ∈ wsL_law := inR_24 _ (List.mem_of_getElem? (i := 13) rfl)
theorem mw_566 : Cond.code yX4_flags cX4_flags 1 (some .int) ∈ wsL_law := inR_24 _ (List.mem_of_getElem? (i := 14) rfl)
theorem mw_567 : Cond.methodLink RL 33 yX3_run ∈ wsL_law := inR_24 _ (List.mem_of_getElem? (i := 15) rfl)
theorem mw_568 : Cond.instanceMethod yX3_run ∈ wsL_law := inR_24 _ (List.mem_of_getElem? (i := 16) rfl)
theorem mw_569 : Cond.selects RX3 yX3_run yX3_run ∈ wsL_law := inR_24 _ (List.mem_of_getElem? (i := 17) rfl)
theorem mw_570 : Cond.code yX3_run cX3_run 3 (some .int) ∈ wsL_law := inR_24 _ (List.mem_of_getElem? (i := 18) rfl)
theorem mw_571 : Cond.methodLink RL 36 yX4_run ∈ wsL_law := inR_24 _ (List.mem_of_getElem? (i := 19) rfl)
theorem mw_572 : Cond.instanceMethod yX4_run ∈ wsL_law := inR_24 _ (List.mem_of_getElem? (i := 20) rfl)
theorem mw_573 : Cond.selects RX4 yX4_run yX4_run ∈ wsL_law := inR_24 _ (List.mem_of_getElem? (i := 21) rfl)
theorem mw_574 : Cond.code yX4_run cX4_run 3 (some .int) ∈ wsL_law := inR_24 _ (List.mem_of_getElem? (i := 22) rfl)
theorem mw_575 : Cond.methodLink RX4 225 yX4_step ∈ wsL_law := inR_24 _ (List.mem_of_getElem? (i := 23) rfl)
theorem mw_576 : Cond.methodLink RL 37 yX3_request ∈ wsL_law := inR_25 _ (List.mem_of_getElem? (i := 0) rfl)
theorem mw_577 : Cond.instanceMethod yX3_request ∈ wsL_law := inR_25 _ (List.mem_of_getElem? (i := 1) rfl)
theorem mw_578 : Cond.selects RX3 yX3_request yX3_request ∈ wsL_law := inR_25 _ (List.mem_of_getElem? (i := 2) rfl)
theorem mw_579 : Cond.code yX3_request cX3_request 2 (some .boolean) ∈ wsL_law := inR_25 _ (List.mem_of_getElem? (i := 3) rfl)
theorem mw_580 : Cond.methodLink RX3 45 yX0_raiseInterrupts ∈ wsL_law := inR_25 _ (List.mem_of_getElem? (i := 4) rfl)
theorem mw_581 : Cond.methodLink RL 41 yX4_request ∈ wsL_law := inR_25 _ (List.mem_of_getElem? (i := 5) rfl)
theorem mw_582 : Cond.instanceMethod yX4_request ∈ wsL_law := inR_25 _ (List.mem_of_getElem? (i := 6) rfl)
theorem mw_583 : Cond.selects RX4 yX4_request yX4_request ∈ wsL_law := inR_25 _ (List.mem_of_getElem? (i := 7) rfl)
theorem mw_584 : Cond.code yX4_request cX4_request 2 (some .boolean) ∈ wsL_law := inR_25 _ (List.mem_of_getElem? (i := 8) rfl)
theorem mw_585 : Cond.methodLink RL 42 yX3_reg ∈ wsL_law := inR_25 _ (List.mem_of_getElem? (i := 9) rfl)
theorem mw_586 : Cond.instanceMethod yX3_reg ∈ wsL_law := inR_25 _ (List.mem_of_getElem? (i := 10) rfl)
theorem mw_587 : Cond.selects RX3 yX3_reg yX3_reg ∈ wsL_law := inR_25 _ (List.mem_of_getElem? (i := 11) rfl)
theorem mw_588 : Cond.code yX3_reg cX3_reg 2 (some .int) ∈ wsL_law := inR_25 _ (List.mem_of_getElem? (i := 12) rfl)
theorem mw_589 : Cond.methodLink RL 45 yX4_reg ∈ wsL_law := inR_25 _ (List.mem_of_getElem? (i := 13) rfl)
theorem mw_590 : Cond.instanceMethod yX4_reg ∈ wsL_law := inR_25 _ (List.mem_of_getElem? (i := 14) rfl)
theorem mw_591 : Cond.selects RX4 yX4_reg yX4_reg ∈ wsL_law := inR_25 _ (List.mem_of_getElem? (i := 15) rfl)
theorem mw_592 : Cond.code yX4_reg cX4_reg 2 (some .int) ∈ wsL_law := inR_25 _ (List.mem_of_getElem? (i := 16) rfl)
theorem mw_593 : Cond.methodLink RL 46 yX3_set ∈ wsL_law := inR_25 _ (List.mem_of_getElem? (i := 17) rfl)
theorem mw_594 : Cond.instanceMethod yX3_set ∈ wsL_law := inR_25 _ (List.mem_of_getElem? (i := 18) rfl)
theorem mw_595 : Cond.selects RX3 yX3_set yX3_set ∈ wsL_law := inR_25 _ (List.mem_of_getElem? (i := 19) rfl)
theorem mw_596 : Cond.code yX3_set cX3_set 3 (some .boolean) ∈ wsL_law := inR_25 _ (List.mem_of_getElem? (i := 20) rfl)
theorem mw_597 : Cond.methodLink RL 49 yX4_set ∈ wsL_law := inR_25 _ (List.mem_of_getElem? (i := 21) rfl)
theorem mw_598 : Cond.instanceMethod yX4_set ∈ wsL_law := inR_25 _ (List.mem_of_getElem? (i := 22) rfl)
theorem mw_599 : Cond.selects RX4 yX4_set yX4_set ∈ wsL_law := inR_25 _ (List.mem_of_getElem? (i := 23) rfl)
theorem mw_600 : Cond.code yX4_set cX4_set 3 (some .boolean) ∈ wsL_law := inR_26 _ (List.mem_of_getElem? (i := 0) rfl)
theorem mw_601 : Cond.methodLink RL 50 yX3_look ∈ wsL_law := inR_26 _ (List.mem_of_getElem? (i := 1) rfl)
theorem mw_602 : Cond.instanceMethod yX3_look ∈ wsL_law := inR_26 _ (List.mem_of_getElem? (i := 2) rfl)
theorem mw_603 : Cond.selects RX3 yX3_look yX3_look ∈ wsL_law := inR_26 _ (List.mem_of_getElem? (i := 3) rfl)
theorem mw_604 : Cond.code yX3_look cX3_look 2 (some .int) ∈ wsL_law := inR_26 _ (List.mem_of_getElem? (i := 4) rfl)
theorem mw_605 : Cond.methodLink RL 53 yX4_look ∈ wsL_law := inR_26 _ (List.mem_of_getElem? (i := 5) rfl)
theorem mw_606 : Cond.instanceMethod yX4_look ∈ wsL_law := inR_26 _ (List.mem_of_getElem? (i := 6) rfl)
theorem mw_607 : Cond.selects RX4 yX4_look yX4_look ∈ wsL_law := inR_26 _ (List.mem_of_getElem? (i := 7) rfl)
theorem mw_608 : Cond.code yX4_look cX4_look 2 (some .int) ∈ wsL_law := inR_26 _ (List.mem_of_getElem? (i := 8) rfl)
theorem mw_609 : Cond.methodLink RL 54 yX3_mcycles ∈ wsL_law := inR_26 _ (List.mem_of_getElem? (i := 9) rfl)
theorem mw_610 : Cond.instanceMethod yX3_mcycles ∈ wsL_law := inR_26 _ (List.mem_of_getElem? (i := 10) rfl)
theorem mw_611 : Cond.selects RX3 yX3_mcycles yX3_mcycles ∈ wsL_law := inR_26 _ (List.mem_of_getElem? (i := 11) rfl)
theorem mw_612 : Cond.code yX3_mcycles cX3_mcycles 1 (some .int) ∈ wsL_law := inR_26 _ (List.mem_of_getElem? (i := 12) rfl)
theorem mw_613 : Cond.methodLink RL 57 yX4_mcycles ∈ wsL_law := inR_26 _ (List.mem_of_getElem? (i := 13) rfl)
theorem mw_614 : Cond.instanceMethod yX4_mcycles ∈ wsL_law := inR_26 _ (List.mem_of_getElem? (i := 14) rfl)
theorem mw_615 : Cond.selects RX4 yX4_mcycles yX4_mcycles ∈ wsL_law := inR_26 _ (List.mem_of_getElem? (i := 15) rfl)
theorem mw_616 : Cond.code yX4_mcycles cX4_mcycles 1 (some .int) ∈ wsL_law := inR_26 _ (List.mem_of_getElem? (i := 16) rfl)
theorem mw_good : ∀ w ∈ wsL_law, goodWord w = true := List.all_eq_true.mp (by decide +kernel)
theorem gw_V {own C : String} {idx : Nat} {y : MethodName} {cc : ByteArray} {ml : Nat} {ret : Option FieldType} (h1 : Cond.methodLink own idx y ∈ wsL_law) (h2 : Cond.instanceMethod y ∈ wsL_law) (h3 : Cond.selects C y y ∈ wsL_law) (h4 : Cond.initialized C ∈ wsL_law) (h5 : Cond.code y cc ml ret ∈ wsL_law) : GoodIn wsL_law (wsV own idx C y (Cond.code y cc ml ret :: wsL_law)) := by
  have key : ∀ w, w ∈ wsL_law → w ∈ wsL_law ∧ ((w.onTables && w.keeps) = true ∨ ∃ ty, w = .arrayClass ty) := fun w h => ⟨h, good_of_word (mw_good w h)⟩
  intro w hw
  unfold wsV at hw
  simp only [List.mem_append, List.mem_cons, List.not_mem_nil, or_false] at hw
  rcases hw with (rfl | rfl | rfl | rfl) | rfl | h
  · exact key _ h1
  · exact key _ h2
  · exact key _ h3
  · exact key _ h4
  · exact key _ h5
  · exact key _ h
theorem gw_S {own : String} {idx : Nat} {y : MethodName} {cc : ByteArray} {ml : Nat} {ret : Option FieldType} (h1 : Cond.methodLink own idx y ∈ wsL_law) (h2 : Cond.static y ∈ wsL_law) (h4 : Cond.initialized y.cls ∈ wsL_law) (h5 : Cond.code y cc ml ret ∈ wsL_law) : GoodIn wsL_law (va_wsS own idx y (Cond.code y cc ml ret :: wsL_law)) := by
  have key : ∀ w, w ∈ wsL_law → w ∈ wsL_law ∧ ((w.onTables && w.keeps) = true ∨ ∃ ty, w = .arrayClass ty) := fun w h => ⟨h, good_of_word (mw_good w h)⟩
  intro w hw
  unfold va_wsS at hw
  simp only [List.mem_append, List.mem_cons, List.not_mem_nil, or_false] at hw
  rcases hw with (rfl | rfl | rfl) | rfl | h
  · exact key _ h1
  · exact key _ h2
  · exact key _ h4
  · exact key _ h5
  · exact key _ h
theorem gw_I {y : MethodName} {cc : ByteArray} {ml : Nat} {ret : Option FieldType} (h5 : Cond.code y cc ml ret ∈ wsL_law) : GoodIn wsL_law (Cond.code y cc ml ret :: wsL_law) := by
  intro w hw
  rcases List.mem_cons.mp hw with rfl | h
  · exact ⟨h5, good_of_word (mw_good _ h5)⟩
  · exact ⟨h, good_of_word (mw_good w h)⟩
