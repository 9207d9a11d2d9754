section
-- ===== PART A: goes FIRST, ahead of the names: the tables' words, and 'selects' of the private methods out of them =====
/-- a private method of a class that the tables say can be made, by its rows of tables_1 -/
def lw_okq (q : MethodName × Nat) : Prop := (q.1.cls ≠ "java/lang/invoke/MethodHandle" ∧ q.1.cls ≠ "java/lang/invoke/VarHandle") ∧ Cond.instantiable q.1.cls q.2 ∈ tables_1 ∧ Cond.privateMethod q.1 ∈ tables_1 ∧ Cond.instanceMethod q.1 ∈ tables_1
theorem lw_p0 : lw_okq (⟨"GameCore", "takeStep", "()I"⟩, 8) := ⟨⟨by decide +kernel, by decide +kernel⟩, List.mem_of_getElem? (i := 8) (by decide +kernel), List.mem_of_getElem? (i := 111) (by decide +kernel), List.mem_of_getElem? (i := 112) (by decide +kernel)⟩
theorem lw_p1 : lw_okq (⟨"GameCore", "dispatch", "(I)V"⟩, 8) := ⟨⟨by decide +kernel, by decide +kernel⟩, List.mem_of_getElem? (i := 8) (by decide +kernel), List.mem_of_getElem? (i := 121) (by decide +kernel), List.mem_of_getElem? (i := 122) (by decide +kernel)⟩
theorem lw_p2 : lw_okq (⟨"GameCore", "push", "(I)V"⟩, 8) := ⟨⟨by decide +kernel, by decide +kernel⟩, List.mem_of_getElem? (i := 8) (by decide +kernel), List.mem_of_getElem? (i := 133) (by decide +kernel), List.mem_of_getElem? (i := 134) (by decide +kernel)⟩
theorem lw_p3 : lw_okq (⟨"GameCore", "pass", "(I)V"⟩, 8) := ⟨⟨by decide +kernel, by decide +kernel⟩, List.mem_of_getElem? (i := 8) (by decide +kernel), List.mem_of_getElem? (i := 148) (by decide +kernel), List.mem_of_getElem? (i := 149) (by decide +kernel)⟩
theorem lw_p4 : lw_okq (⟨"GameCore$Memory", "countTimer", "()V"⟩, 2) := ⟨⟨by decide +kernel, by decide +kernel⟩, List.mem_of_getElem? (i := 16) (by decide +kernel), List.mem_of_getElem? (i := 160) (by decide +kernel), List.mem_of_getElem? (i := 161) (by decide +kernel)⟩
theorem lw_p5 : lw_okq (⟨"GameCore", "leaveOpcode", "()V"⟩, 8) := ⟨⟨by decide +kernel, by decide +kernel⟩, List.mem_of_getElem? (i := 8) (by decide +kernel), List.mem_of_getElem? (i := 172) (by decide +kernel), List.mem_of_getElem? (i := 173) (by decide +kernel)⟩
theorem lw_p6 : lw_okq (⟨"GameCore", "execute", "(I)I"⟩, 8) := ⟨⟨by decide +kernel, by decide +kernel⟩, List.mem_of_getElem? (i := 8) (by decide +kernel), List.mem_of_getElem? (i := 176) (by decide +kernel), List.mem_of_getElem? (i := 177) (by decide +kernel)⟩
theorem lw_p7 : lw_okq (⟨"GameCore", "halt", "()V"⟩, 8) := ⟨⟨by decide +kernel, by decide +kernel⟩, List.mem_of_getElem? (i := 8) (by decide +kernel), List.mem_of_getElem? (i := 180) (by decide +kernel), List.mem_of_getElem? (i := 181) (by decide +kernel)⟩
theorem lw_p8 : lw_okq (⟨"GameCore", "executeBitPage", "()I"⟩, 8) := ⟨⟨by decide +kernel, by decide +kernel⟩, List.mem_of_getElem? (i := 8) (by decide +kernel), List.mem_of_getElem? (i := 184) (by decide +kernel), List.mem_of_getElem? (i := 185) (by decide +kernel)⟩
theorem lw_p9 : lw_okq (⟨"GameCore", "fetch", "()I"⟩, 8) := ⟨⟨by decide +kernel, by decide +kernel⟩, List.mem_of_getElem? (i := 8) (by decide +kernel), List.mem_of_getElem? (i := 188) (by decide +kernel), List.mem_of_getElem? (i := 189) (by decide +kernel)⟩
theorem lw_p10 : lw_okq (⟨"GameCore", "operand", "(I)I"⟩, 8) := ⟨⟨by decide +kernel, by decide +kernel⟩, List.mem_of_getElem? (i := 8) (by decide +kernel), List.mem_of_getElem? (i := 192) (by decide +kernel), List.mem_of_getElem? (i := 193) (by decide +kernel)⟩
theorem lw_p11 : lw_okq (⟨"GameCore", "setOperand", "(II)V"⟩, 8) := ⟨⟨by decide +kernel, by decide +kernel⟩, List.mem_of_getElem? (i := 8) (by decide +kernel), List.mem_of_getElem? (i := 222) (by decide +kernel), List.mem_of_getElem? (i := 223) (by decide +kernel)⟩
theorem lw_p12 : lw_okq (⟨"GameCore", "executeFirstQuarter", "(II)I"⟩, 8) := ⟨⟨by decide +kernel, by decide +kernel⟩, List.mem_of_getElem? (i := 8) (by decide +kernel), List.mem_of_getElem? (i := 234) (by decide +kernel), List.mem_of_getElem? (i := 235) (by decide +kernel)⟩
theorem lw_p13 : lw_okq (⟨"GameCore", "storeSp", "()V"⟩, 8) := ⟨⟨by decide +kernel, by decide +kernel⟩, List.mem_of_getElem? (i := 8) (by decide +kernel), List.mem_of_getElem? (i := 238) (by decide +kernel), List.mem_of_getElem? (i := 239) (by decide +kernel)⟩
theorem lw_p14 : lw_okq (⟨"GameCore", "fetchWord", "()I"⟩, 8) := ⟨⟨by decide +kernel, by decide +kernel⟩, List.mem_of_getElem? (i := 8) (by decide +kernel), List.mem_of_getElem? (i := 242) (by decide +kernel), List.mem_of_getElem? (i := 243) (by decide +kernel)⟩
theorem lw_p15 : lw_okq (⟨"GameCore", "holds", "(I)Z"⟩, 8) := ⟨⟨by decide +kernel, by decide +kernel⟩, List.mem_of_getElem? (i := 8) (by decide +kernel), List.mem_of_getElem? (i := 246) (by decide +kernel), List.mem_of_getElem? (i := 247) (by decide +kernel)⟩
def lw_privs_1 : List (MethodName × Nat) := [(⟨"GameCore", "takeStep", "()I"⟩, 8), (⟨"GameCore", "dispatch", "(I)V"⟩, 8), (⟨"GameCore", "push", "(I)V"⟩, 8), (⟨"GameCore", "pass", "(I)V"⟩, 8), (⟨"GameCore$Memory", "countTimer", "()V"⟩, 2), (⟨"GameCore", "leaveOpcode", "()V"⟩, 8), (⟨"GameCore", "execute", "(I)I"⟩, 8), (⟨"GameCore", "halt", "()V"⟩, 8), (⟨"GameCore", "executeBitPage", "()I"⟩, 8), (⟨"GameCore", "fetch", "()I"⟩, 8), (⟨"GameCore", "operand", "(I)I"⟩, 8), (⟨"GameCore", "setOperand", "(II)V"⟩, 8), (⟨"GameCore", "executeFirstQuarter", "(II)I"⟩, 8), (⟨"GameCore", "storeSp", "()V"⟩, 8), (⟨"GameCore", "fetchWord", "()I"⟩, 8), (⟨"GameCore", "holds", "(I)Z"⟩, 8)]
theorem lw_r1 : ∀ q ∈ lw_privs_1, lw_okq q := List.forall_mem_cons.mpr ⟨lw_p0, List.forall_mem_cons.mpr ⟨lw_p1, List.forall_mem_cons.mpr ⟨lw_p2, List.forall_mem_cons.mpr ⟨lw_p3, List.forall_mem_cons.mpr ⟨lw_p4, List.forall_mem_cons.mpr ⟨lw_p5, List.forall_mem_cons.mpr ⟨lw_p6, List.forall_mem_cons.mpr ⟨lw_p7, List.forall_mem_cons.mpr ⟨lw_p8, List.forall_mem_cons.mpr ⟨lw_p9, List.forall_mem_cons.mpr ⟨lw_p10, List.forall_mem_cons.mpr ⟨lw_p11, List.forall_mem_cons.mpr ⟨lw_p12, List.forall_mem_cons.mpr ⟨lw_p13, List.forall_mem_cons.mpr ⟨lw_p14, List.forall_mem_cons.mpr ⟨lw_p15, fun _ h => absurd h List.not_mem_nil⟩⟩⟩⟩⟩⟩⟩⟩⟩⟩⟩⟩⟩⟩⟩⟩
theorem lw_p16 : lw_okq (⟨"GameCore", "jumpRelativeIf", "(Z)I"⟩, 8) := ⟨⟨by decide +kernel, by decide +kernel⟩, List.mem_of_getElem? (i := 8) (by decide +kernel), List.mem_of_getElem? (i := 251) (by decide +kernel), List.mem_of_getElem? (i := 252) (by decide +kernel)⟩
theorem lw_p17 : lw_okq (⟨"GameCore", "loadOrAddWord", "(I)V"⟩, 8) := ⟨⟨by decide +kernel, by decide +kernel⟩, List.mem_of_getElem? (i := 8) (by decide +kernel), List.mem_of_getElem? (i := 255) (by decide +kernel), List.mem_of_getElem? (i := 256) (by decide +kernel)⟩
theorem lw_p18 : lw_okq (⟨"GameCore", "loadByPair", "(I)V"⟩, 8) := ⟨⟨by decide +kernel, by decide +kernel⟩, List.mem_of_getElem? (i := 8) (by decide +kernel), List.mem_of_getElem? (i := 266) (by decide +kernel), List.mem_of_getElem? (i := 267) (by decide +kernel)⟩
theorem lw_p19 : lw_okq (⟨"GameCore", "stepPair", "(I)V"⟩, 8) := ⟨⟨by decide +kernel, by decide +kernel⟩, List.mem_of_getElem? (i := 8) (by decide +kernel), List.mem_of_getElem? (i := 281) (by decide +kernel), List.mem_of_getElem? (i := 282) (by decide +kernel)⟩
theorem lw_p20 : lw_okq (⟨"GameCore$Sums", "adjustDecimal", "()V"⟩, 1) := ⟨⟨by decide +kernel, by decide +kernel⟩, List.mem_of_getElem? (i := 32) (by decide +kernel), List.mem_of_getElem? (i := 297) (by decide +kernel), List.mem_of_getElem? (i := 298) (by decide +kernel)⟩
theorem lw_p21 : lw_okq (⟨"GameCore$Sums", "add", "(II)V"⟩, 1) := ⟨⟨by decide +kernel, by decide +kernel⟩, List.mem_of_getElem? (i := 32) (by decide +kernel), List.mem_of_getElem? (i := 308) (by decide +kernel), List.mem_of_getElem? (i := 309) (by decide +kernel)⟩
theorem lw_p22 : lw_okq (⟨"GameCore$Sums", "subtract", "(IIZ)V"⟩, 1) := ⟨⟨by decide +kernel, by decide +kernel⟩, List.mem_of_getElem? (i := 32) (by decide +kernel), List.mem_of_getElem? (i := 312) (by decide +kernel), List.mem_of_getElem? (i := 313) (by decide +kernel)⟩
theorem lw_p23 : lw_okq (⟨"GameCore$Sums", "putLogic", "(IZ)V"⟩, 1) := ⟨⟨by decide +kernel, by decide +kernel⟩, List.mem_of_getElem? (i := 32) (by decide +kernel), List.mem_of_getElem? (i := 316) (by decide +kernel), List.mem_of_getElem? (i := 317) (by decide +kernel)⟩
theorem lw_p24 : lw_okq (⟨"GameCore", "executeLastQuarter", "(II)I"⟩, 8) := ⟨⟨by decide +kernel, by decide +kernel⟩, List.mem_of_getElem? (i := 8) (by decide +kernel), List.mem_of_getElem? (i := 320) (by decide +kernel), List.mem_of_getElem? (i := 321) (by decide +kernel)⟩
theorem lw_p25 : lw_okq (⟨"GameCore", "returnIf", "(Z)I"⟩, 8) := ⟨⟨by decide +kernel, by decide +kernel⟩, List.mem_of_getElem? (i := 8) (by decide +kernel), List.mem_of_getElem? (i := 324) (by decide +kernel), List.mem_of_getElem? (i := 325) (by decide +kernel)⟩
theorem lw_p26 : lw_okq (⟨"GameCore", "pop", "()I"⟩, 8) := ⟨⟨by decide +kernel, by decide +kernel⟩, List.mem_of_getElem? (i := 8) (by decide +kernel), List.mem_of_getElem? (i := 328) (by decide +kernel), List.mem_of_getElem? (i := 329) (by decide +kernel)⟩
theorem lw_p27 : lw_okq (⟨"GameCore", "executeWithByte", "(I)I"⟩, 8) := ⟨⟨by decide +kernel, by decide +kernel⟩, List.mem_of_getElem? (i := 8) (by decide +kernel), List.mem_of_getElem? (i := 332) (by decide +kernel), List.mem_of_getElem? (i := 333) (by decide +kernel)⟩
theorem lw_p28 : lw_okq (⟨"GameCore", "popOrMove", "(I)V"⟩, 8) := ⟨⟨by decide +kernel, by decide +kernel⟩, List.mem_of_getElem? (i := 8) (by decide +kernel), List.mem_of_getElem? (i := 341) (by decide +kernel), List.mem_of_getElem? (i := 342) (by decide +kernel)⟩
theorem lw_p29 : lw_okq (⟨"GameCore", "jumpIf", "(Z)I"⟩, 8) := ⟨⟨by decide +kernel, by decide +kernel⟩, List.mem_of_getElem? (i := 8) (by decide +kernel), List.mem_of_getElem? (i := 348) (by decide +kernel), List.mem_of_getElem? (i := 349) (by decide +kernel)⟩
theorem lw_p30 : lw_okq (⟨"GameCore", "loadFar", "(I)I"⟩, 8) := ⟨⟨by decide +kernel, by decide +kernel⟩, List.mem_of_getElem? (i := 8) (by decide +kernel), List.mem_of_getElem? (i := 352) (by decide +kernel), List.mem_of_getElem? (i := 353) (by decide +kernel)⟩
theorem lw_p31 : lw_okq (⟨"GameCore", "switchInterrupts", "(Z)I"⟩, 8) := ⟨⟨by decide +kernel, by decide +kernel⟩, List.mem_of_getElem? (i := 8) (by decide +kernel), List.mem_of_getElem? (i := 356) (by decide +kernel), List.mem_of_getElem? (i := 357) (by decide +kernel)⟩
def lw_privs_2 : List (MethodName × Nat) := [(⟨"GameCore", "jumpRelativeIf", "(Z)I"⟩, 8), (⟨"GameCore", "loadOrAddWord", "(I)V"⟩, 8), (⟨"GameCore", "loadByPair", "(I)V"⟩, 8), (⟨"GameCore", "stepPair", "(I)V"⟩, 8), (⟨"GameCore$Sums", "adjustDecimal", "()V"⟩, 1), (⟨"GameCore$Sums", "add", "(II)V"⟩, 1), (⟨"GameCore$Sums", "subtract", "(IIZ)V"⟩, 1), (⟨"GameCore$Sums", "putLogic", "(IZ)V"⟩, 1), (⟨"GameCore", "executeLastQuarter", "(II)I"⟩, 8), (⟨"GameCore", "returnIf", "(Z)I"⟩, 8), (⟨"GameCore", "pop", "()I"⟩, 8), (⟨"GameCore", "executeWithByte", "(I)I"⟩, 8), (⟨"GameCore", "popOrMove", "(I)V"⟩, 8), (⟨"GameCore", "jumpIf", "(Z)I"⟩, 8), (⟨"GameCore", "loadFar", "(I)I"⟩, 8), (⟨"GameCore", "switchInterrupts", "(Z)I"⟩, 8)]
theorem lw_r2 : ∀ q ∈ lw_privs_2, lw_okq q := List.forall_mem_cons.mpr ⟨lw_p16, List.forall_mem_cons.mpr ⟨lw_p17, List.forall_mem_cons.mpr ⟨lw_p18, List.forall_mem_cons.mpr ⟨lw_p19, List.forall_mem_cons.mpr ⟨lw_p20, List.forall_mem_cons.mpr ⟨lw_p21, List.forall_mem_cons.mpr ⟨lw_p22, List.forall_mem_cons.mpr ⟨lw_p23, List.forall_mem_cons.mpr ⟨lw_p24, List.forall_mem_cons.mpr ⟨lw_p25, List.forall_mem_cons.mpr ⟨lw_p26, List.forall_mem_cons.mpr ⟨lw_p27, List.forall_mem_cons.mpr ⟨lw_p28, List.forall_mem_cons.mpr ⟨lw_p29, List.forall_mem_cons.mpr ⟨lw_p30, List.forall_mem_cons.mpr ⟨lw_p31, fun _ h => absurd h List.not_mem_nil⟩⟩⟩⟩⟩⟩⟩⟩⟩⟩⟩⟩⟩⟩⟩⟩
theorem lw_p32 : lw_okq (⟨"GameCore", "callIf", "(Z)I"⟩, 8) := ⟨⟨by decide +kernel, by decide +kernel⟩, List.mem_of_getElem? (i := 8) (by decide +kernel), List.mem_of_getElem? (i := 360) (by decide +kernel), List.mem_of_getElem? (i := 361) (by decide +kernel)⟩
theorem lw_p33 : lw_okq (⟨"GameCore", "pushPair", "(I)I"⟩, 8) := ⟨⟨by decide +kernel, by decide +kernel⟩, List.mem_of_getElem? (i := 8) (by decide +kernel), List.mem_of_getElem? (i := 364) (by decide +kernel), List.mem_of_getElem? (i := 365) (by decide +kernel)⟩
theorem lw_p34 : lw_okq (⟨"GameCoreModel", "at", "(I)I"⟩, 18) := ⟨⟨by decide +kernel, by decide +kernel⟩, List.mem_of_getElem? (i := 393) (by decide +kernel), List.mem_of_getElem? (i := 460) (by decide +kernel), List.mem_of_getElem? (i := 461) (by decide +kernel)⟩
theorem lw_p35 : lw_okq (⟨"GameCoreModel", "dispatch", "(I)V"⟩, 18) := ⟨⟨by decide +kernel, by decide +kernel⟩, List.mem_of_getElem? (i := 393) (by decide +kernel), List.mem_of_getElem? (i := 465) (by decide +kernel), List.mem_of_getElem? (i := 466) (by decide +kernel)⟩
theorem lw_p36 : lw_okq (⟨"GameCoreModel", "puts", "(II)V"⟩, 18) := ⟨⟨by decide +kernel, by decide +kernel⟩, List.mem_of_getElem? (i := 393) (by decide +kernel), List.mem_of_getElem? (i := 469) (by decide +kernel), List.mem_of_getElem? (i := 470) (by decide +kernel)⟩
theorem lw_p37 : lw_okq (⟨"GameCoreModel", "push", "(I)V"⟩, 18) := ⟨⟨by decide +kernel, by decide +kernel⟩, List.mem_of_getElem? (i := 393) (by decide +kernel), List.mem_of_getElem? (i := 473) (by decide +kernel), List.mem_of_getElem? (i := 474) (by decide +kernel)⟩
theorem lw_p38 : lw_okq (⟨"GameCoreModel", "writes", "(II)V"⟩, 18) := ⟨⟨by decide +kernel, by decide +kernel⟩, List.mem_of_getElem? (i := 393) (by decide +kernel), List.mem_of_getElem? (i := 477) (by decide +kernel), List.mem_of_getElem? (i := 478) (by decide +kernel)⟩
theorem lw_p39 : lw_okq (⟨"GameCoreModel", "time", "()V"⟩, 18) := ⟨⟨by decide +kernel, by decide +kernel⟩, List.mem_of_getElem? (i := 393) (by decide +kernel), List.mem_of_getElem? (i := 482) (by decide +kernel), List.mem_of_getElem? (i := 483) (by decide +kernel)⟩
theorem lw_p40 : lw_okq (⟨"GameCoreModel", "instruction", "()V"⟩, 18) := ⟨⟨by decide +kernel, by decide +kernel⟩, List.mem_of_getElem? (i := 393) (by decide +kernel), List.mem_of_getElem? (i := 493) (by decide +kernel), List.mem_of_getElem? (i := 494) (by decide +kernel)⟩
theorem lw_p41 : lw_okq (⟨"GameCoreModel", "reads", "(I)I"⟩, 18) := ⟨⟨by decide +kernel, by decide +kernel⟩, List.mem_of_getElem? (i := 393) (by decide +kernel), List.mem_of_getElem? (i := 497) (by decide +kernel), List.mem_of_getElem? (i := 498) (by decide +kernel)⟩
theorem lw_p42 : lw_okq (⟨"GameCoreModel", "first", "(II)V"⟩, 18) := ⟨⟨by decide +kernel, by decide +kernel⟩, List.mem_of_getElem? (i := 393) (by decide +kernel), List.mem_of_getElem? (i := 501) (by decide +kernel), List.mem_of_getElem? (i := 502) (by decide +kernel)⟩
theorem lw_p43 : lw_okq (⟨"GameCoreModel", "jumpsNear", "(I)V"⟩, 18) := ⟨⟨by decide +kernel, by decide +kernel⟩, List.mem_of_getElem? (i := 393) (by decide +kernel), List.mem_of_getElem? (i := 505) (by decide +kernel), List.mem_of_getElem? (i := 506) (by decide +kernel)⟩
theorem lw_p44 : lw_okq (⟨"GameCoreModel", "fetchWord", "()I"⟩, 18) := ⟨⟨by decide +kernel, by decide +kernel⟩, List.mem_of_getElem? (i := 393) (by decide +kernel), List.mem_of_getElem? (i := 509) (by decide +kernel), List.mem_of_getElem? (i := 510) (by decide +kernel)⟩
theorem lw_p45 : lw_okq (⟨"GameCoreModel", "fetch", "()I"⟩, 18) := ⟨⟨by decide +kernel, by decide +kernel⟩, List.mem_of_getElem? (i := 393) (by decide +kernel), List.mem_of_getElem? (i := 513) (by decide +kernel), List.mem_of_getElem? (i := 514) (by decide +kernel)⟩
theorem lw_p46 : lw_okq (⟨"GameCoreModel", "holds", "(I)Z"⟩, 18) := ⟨⟨by decide +kernel, by decide +kernel⟩, List.mem_of_getElem? (i := 393) (by decide +kernel), List.mem_of_getElem? (i := 517) (by decide +kernel), List.mem_of_getElem? (i := 518) (by decide +kernel)⟩
theorem lw_p47 : lw_okq (⟨"GameCoreModel", "addsPair", "(I)V"⟩, 18) := ⟨⟨by decide +kernel, by decide +kernel⟩, List.mem_of_getElem? (i := 393) (by decide +kernel), List.mem_of_getElem? (i := 521) (by decide +kernel), List.mem_of_getElem? (i := 522) (by decide +kernel)⟩
def lw_privs_3 : List (MethodName × Nat) := [(⟨"GameCore", "callIf", "(Z)I"⟩, 8), (⟨"GameCore", "pushPair", "(I)I"⟩, 8), (⟨"GameCoreModel", "at", "(I)I"⟩, 18), (⟨"GameCoreModel", "dispatch", "(I)V"⟩, 18), (⟨"GameCoreModel", "puts", "(II)V"⟩, 18), (⟨"GameCoreModel", "push", "(I)V"⟩, 18), (⟨"GameCoreModel", "writes", "(II)V"⟩, 18), (⟨"GameCoreModel", "time", "()V"⟩, 18), (⟨"GameCoreModel", "instruction", "()V"⟩, 18), (⟨"GameCoreModel", "reads", "(I)I"⟩, 18), (⟨"GameCoreModel", "first", "(II)V"⟩, 18), (⟨"GameCoreModel", "jumpsNear", "(I)V"⟩, 18), (⟨"GameCoreModel", "fetchWord", "()I"⟩, 18), (⟨"GameCoreModel", "fetch", "()I"⟩, 18), (⟨"GameCoreModel", "holds", "(I)Z"⟩, 18), (⟨"GameCoreModel", "addsPair", "(I)V"⟩, 18)]
theorem lw_r3 : ∀ q ∈ lw_privs_3, lw_okq q := List.forall_mem_cons.mpr ⟨lw_p32, List.forall_mem_cons.mpr ⟨lw_p33, List.forall_mem_cons.mpr ⟨lw_p34, List.forall_mem_cons.mpr ⟨lw_p35, List.forall_mem_cons.mpr ⟨lw_p36, List.forall_mem_cons.mpr ⟨lw_p37, List.forall_mem_cons.mpr ⟨lw_p38, List.forall_mem_cons.mpr ⟨lw_p39, List.forall_mem_cons.mpr ⟨lw_p40, List.forall_mem_cons.mpr ⟨lw_p41, List.forall_mem_cons.mpr ⟨lw_p42, List.forall_mem_cons.mpr ⟨lw_p43, List.forall_mem_cons.mpr ⟨lw_p44, List.forall_mem_cons.mpr ⟨lw_p45, List.forall_mem_cons.mpr ⟨lw_p46, List.forall_mem_cons.mpr ⟨lw_p47, fun _ h => absurd h List.not_mem_nil⟩⟩⟩⟩⟩⟩⟩⟩⟩⟩⟩⟩⟩⟩⟩⟩
theorem lw_p48 : lw_okq (⟨"GameCoreModel", "hl", "()I"⟩, 18) := ⟨⟨by decide +kernel, by decide +kernel⟩, List.mem_of_getElem? (i := 393) (by decide +kernel), List.mem_of_getElem? (i := 525) (by decide +kernel), List.mem_of_getElem? (i := 526) (by decide +kernel)⟩
theorem lw_p49 : lw_okq (⟨"GameCoreModel", "wide", "(I)I"⟩, 18) := ⟨⟨by decide +kernel, by decide +kernel⟩, List.mem_of_getElem? (i := 393) (by decide +kernel), List.mem_of_getElem? (i := 529) (by decide +kernel), List.mem_of_getElem? (i := 530) (by decide +kernel)⟩
theorem lw_p50 : lw_okq (⟨"GameCoreModel", "pair", "(I)I"⟩, 18) := ⟨⟨by decide +kernel, by decide +kernel⟩, List.mem_of_getElem? (i := 393) (by decide +kernel), List.mem_of_getElem? (i := 533) (by decide +kernel), List.mem_of_getElem? (i := 534) (by decide +kernel)⟩
theorem lw_p51 : lw_okq (⟨"GameCoreModel", "flagsAre", "(ZZZZ)V"⟩, 18) := ⟨⟨by decide +kernel, by decide +kernel⟩, List.mem_of_getElem? (i := 393) (by decide +kernel), List.mem_of_getElem? (i := 537) (by decide +kernel), List.mem_of_getElem? (i := 538) (by decide +kernel)⟩
theorem lw_p52 : lw_okq (⟨"GameCoreModel", "setPair", "(II)V"⟩, 18) := ⟨⟨by decide +kernel, by decide +kernel⟩, List.mem_of_getElem? (i := 393) (by decide +kernel), List.mem_of_getElem? (i := 541) (by decide +kernel), List.mem_of_getElem? (i := 542) (by decide +kernel)⟩
theorem lw_p53 : lw_okq (⟨"GameCoreModel", "setWide", "(II)V"⟩, 18) := ⟨⟨by decide +kernel, by decide +kernel⟩, List.mem_of_getElem? (i := 393) (by decide +kernel), List.mem_of_getElem? (i := 545) (by decide +kernel), List.mem_of_getElem? (i := 546) (by decide +kernel)⟩
theorem lw_p54 : lw_okq (⟨"GameCoreModel", "byPair", "(IZ)V"⟩, 18) := ⟨⟨by decide +kernel, by decide +kernel⟩, List.mem_of_getElem? (i := 393) (by decide +kernel), List.mem_of_getElem? (i := 549) (by decide +kernel), List.mem_of_getElem? (i := 550) (by decide +kernel)⟩
theorem lw_p55 : lw_okq (⟨"GameCoreModel", "operand", "(I)I"⟩, 18) := ⟨⟨by decide +kernel, by decide +kernel⟩, List.mem_of_getElem? (i := 393) (by decide +kernel), List.mem_of_getElem? (i := 553) (by decide +kernel), List.mem_of_getElem? (i := 554) (by decide +kernel)⟩
theorem lw_p56 : lw_okq (⟨"GameCoreModel", "increased", "(I)I"⟩, 18) := ⟨⟨by decide +kernel, by decide +kernel⟩, List.mem_of_getElem? (i := 393) (by decide +kernel), List.mem_of_getElem? (i := 557) (by decide +kernel), List.mem_of_getElem? (i := 558) (by decide +kernel)⟩
theorem lw_p57 : lw_okq (⟨"GameCoreModel", "setOperand", "(II)V"⟩, 18) := ⟨⟨by decide +kernel, by decide +kernel⟩, List.mem_of_getElem? (i := 393) (by decide +kernel), List.mem_of_getElem? (i := 561) (by decide +kernel), List.mem_of_getElem? (i := 562) (by decide +kernel)⟩
theorem lw_p58 : lw_okq (⟨"GameCoreModel", "decreased", "(I)I"⟩, 18) := ⟨⟨by decide +kernel, by decide +kernel⟩, List.mem_of_getElem? (i := 393) (by decide +kernel), List.mem_of_getElem? (i := 565) (by decide +kernel), List.mem_of_getElem? (i := 566) (by decide +kernel)⟩
theorem lw_p59 : lw_okq (⟨"GameCoreModel", "onA", "(I)V"⟩, 18) := ⟨⟨by decide +kernel, by decide +kernel⟩, List.mem_of_getElem? (i := 393) (by decide +kernel), List.mem_of_getElem? (i := 569) (by decide +kernel), List.mem_of_getElem? (i := 570) (by decide +kernel)⟩
theorem lw_p60 : lw_okq (⟨"GameCoreModel", "turned", "(II)I"⟩, 18) := ⟨⟨by decide +kernel, by decide +kernel⟩, List.mem_of_getElem? (i := 393) (by decide +kernel), List.mem_of_getElem? (i := 573) (by decide +kernel), List.mem_of_getElem? (i := 574) (by decide +kernel)⟩
theorem lw_p61 : lw_okq (⟨"GameCoreModel", "adjusts", "()V"⟩, 18) := ⟨⟨by decide +kernel, by decide +kernel⟩, List.mem_of_getElem? (i := 393) (by decide +kernel), List.mem_of_getElem? (i := 577) (by decide +kernel), List.mem_of_getElem? (i := 578) (by decide +kernel)⟩
theorem lw_p62 : lw_okq (⟨"GameCoreModel", "halts", "(I)V"⟩, 18) := ⟨⟨by decide +kernel, by decide +kernel⟩, List.mem_of_getElem? (i := 393) (by decide +kernel), List.mem_of_getElem? (i := 581) (by decide +kernel), List.mem_of_getElem? (i := 582) (by decide +kernel)⟩
theorem lw_p63 : lw_okq (⟨"GameCoreModel", "sums", "(II)V"⟩, 18) := ⟨⟨by decide +kernel, by decide +kernel⟩, List.mem_of_getElem? (i := 393) (by decide +kernel), List.mem_of_getElem? (i := 585) (by decide +kernel), List.mem_of_getElem? (i := 586) (by decide +kernel)⟩
def lw_privs_4 : List (MethodName × Nat) := [(⟨"GameCoreModel", "hl", "()I"⟩, 18), (⟨"GameCoreModel", "wide", "(I)I"⟩, 18), (⟨"GameCoreModel", "pair", "(I)I"⟩, 18), (⟨"GameCoreModel", "flagsAre", "(ZZZZ)V"⟩, 18), (⟨"GameCoreModel", "setPair", "(II)V"⟩, 18), (⟨"GameCoreModel", "setWide", "(II)V"⟩, 18), (⟨"GameCoreModel", "byPair", "(IZ)V"⟩, 18), (⟨"GameCoreModel", "operand", "(I)I"⟩, 18), (⟨"GameCoreModel", "increased", "(I)I"⟩, 18), (⟨"GameCoreModel", "setOperand", "(II)V"⟩, 18), (⟨"GameCoreModel", "decreased", "(I)I"⟩, 18), (⟨"GameCoreModel", "onA", "(I)V"⟩, 18), (⟨"GameCoreModel", "turned", "(II)I"⟩, 18), (⟨"GameCoreModel", "adjusts", "()V"⟩, 18), (⟨"GameCoreModel", "halts", "(I)V"⟩, 18), (⟨"GameCoreModel", "sums", "(II)V"⟩, 18)]
theorem lw_r4 : ∀ q ∈ lw_privs_4, lw_okq q := List.forall_mem_cons.mpr ⟨lw_p48, List.forall_mem_cons.mpr ⟨lw_p49, List.forall_mem_cons.mpr ⟨lw_p50, List.forall_mem_cons.mpr ⟨lw_p51, List.forall_mem_cons.mpr ⟨lw_p52, List.forall_mem_cons.mpr ⟨lw_p53, List.forall_mem_cons.mpr ⟨lw_p54, List.forall_mem_cons.mpr ⟨lw_p55, List.forall_mem_cons.mpr ⟨lw_p56, List.forall_mem_cons.mpr ⟨lw_p57, List.forall_mem_cons.mpr ⟨lw_p58, List.forall_mem_cons.mpr ⟨lw_p59, List.forall_mem_cons.mpr ⟨lw_p60, List.forall_mem_cons.mpr ⟨lw_p61, List.forall_mem_cons.mpr ⟨lw_p62, List.forall_mem_cons.mpr ⟨lw_p63, fun _ h => absurd h List.not_mem_nil⟩⟩⟩⟩⟩⟩⟩⟩⟩⟩⟩⟩⟩⟩⟩⟩
theorem lw_p64 : lw_okq (⟨"GameCoreModel", "adds", "(II)V"⟩, 18) := ⟨⟨by decide +kernel, by decide +kernel⟩, List.mem_of_getElem? (i := 393) (by decide +kernel), List.mem_of_getElem? (i := 589) (by decide +kernel), List.mem_of_getElem? (i := 590) (by decide +kernel)⟩
theorem lw_p65 : lw_okq (⟨"GameCoreModel", "less", "(II)I"⟩, 18) := ⟨⟨by decide +kernel, by decide +kernel⟩, List.mem_of_getElem? (i := 393) (by decide +kernel), List.mem_of_getElem? (i := 593) (by decide +kernel), List.mem_of_getElem? (i := 594) (by decide +kernel)⟩
theorem lw_p66 : lw_okq (⟨"GameCoreModel", "last", "(II)V"⟩, 18) := ⟨⟨by decide +kernel, by decide +kernel⟩, List.mem_of_getElem? (i := 393) (by decide +kernel), List.mem_of_getElem? (i := 597) (by decide +kernel), List.mem_of_getElem? (i := 598) (by decide +kernel)⟩
theorem lw_p67 : lw_okq (⟨"GameCoreModel", "returnsIf", "(I)V"⟩, 18) := ⟨⟨by decide +kernel, by decide +kernel⟩, List.mem_of_getElem? (i := 393) (by decide +kernel), List.mem_of_getElem? (i := 601) (by decide +kernel), List.mem_of_getElem? (i := 602) (by decide +kernel)⟩
theorem lw_p68 : lw_okq (⟨"GameCoreModel", "pop", "()I"⟩, 18) := ⟨⟨by decide +kernel, by decide +kernel⟩, List.mem_of_getElem? (i := 393) (by decide +kernel), List.mem_of_getElem? (i := 605) (by decide +kernel), List.mem_of_getElem? (i := 606) (by decide +kernel)⟩
theorem lw_p69 : lw_okq (⟨"GameCoreModel", "high", "(I)V"⟩, 18) := ⟨⟨by decide +kernel, by decide +kernel⟩, List.mem_of_getElem? (i := 393) (by decide +kernel), List.mem_of_getElem? (i := 609) (by decide +kernel), List.mem_of_getElem? (i := 610) (by decide +kernel)⟩
theorem lw_p70 : lw_okq (⟨"GameCoreModel", "moved", "(I)I"⟩, 18) := ⟨⟨by decide +kernel, by decide +kernel⟩, List.mem_of_getElem? (i := 393) (by decide +kernel), List.mem_of_getElem? (i := 614) (by decide +kernel), List.mem_of_getElem? (i := 615) (by decide +kernel)⟩
theorem lw_p71 : lw_okq (⟨"GameCoreModel", "popsOr", "(I)V"⟩, 18) := ⟨⟨by decide +kernel, by decide +kernel⟩, List.mem_of_getElem? (i := 393) (by decide +kernel), List.mem_of_getElem? (i := 618) (by decide +kernel), List.mem_of_getElem? (i := 619) (by decide +kernel)⟩
theorem lw_p72 : lw_okq (⟨"GameCoreModel", "setFlags", "(I)V"⟩, 18) := ⟨⟨by decide +kernel, by decide +kernel⟩, List.mem_of_getElem? (i := 393) (by decide +kernel), List.mem_of_getElem? (i := 622) (by decide +kernel), List.mem_of_getElem? (i := 623) (by decide +kernel)⟩
theorem lw_p73 : lw_okq (⟨"GameCoreModel", "jumpsIf", "(I)V"⟩, 18) := ⟨⟨by decide +kernel, by decide +kernel⟩, List.mem_of_getElem? (i := 393) (by decide +kernel), List.mem_of_getElem? (i := 626) (by decide +kernel), List.mem_of_getElem? (i := 627) (by decide +kernel)⟩
theorem lw_p74 : lw_okq (⟨"GameCoreModel", "far", "(I)V"⟩, 18) := ⟨⟨by decide +kernel, by decide +kernel⟩, List.mem_of_getElem? (i := 393) (by decide +kernel), List.mem_of_getElem? (i := 630) (by decide +kernel), List.mem_of_getElem? (i := 631) (by decide +kernel)⟩
theorem lw_p75 : lw_okq (⟨"GameCoreModel", "others", "(I)V"⟩, 18) := ⟨⟨by decide +kernel, by decide +kernel⟩, List.mem_of_getElem? (i := 393) (by decide +kernel), List.mem_of_getElem? (i := 634) (by decide +kernel), List.mem_of_getElem? (i := 635) (by decide +kernel)⟩
theorem lw_p76 : lw_okq (⟨"GameCoreModel", "extended", "(I)V"⟩, 18) := ⟨⟨by decide +kernel, by decide +kernel⟩, List.mem_of_getElem? (i := 393) (by decide +kernel), List.mem_of_getElem? (i := 638) (by decide +kernel), List.mem_of_getElem? (i := 639) (by decide +kernel)⟩
theorem lw_p77 : lw_okq (⟨"GameCoreModel", "callsIf", "(I)V"⟩, 18) := ⟨⟨by decide +kernel, by decide +kernel⟩, List.mem_of_getElem? (i := 393) (by decide +kernel), List.mem_of_getElem? (i := 642) (by decide +kernel), List.mem_of_getElem? (i := 643) (by decide +kernel)⟩
theorem lw_p78 : lw_okq (⟨"GameCoreModel", "calls", "(I)V"⟩, 18) := ⟨⟨by decide +kernel, by decide +kernel⟩, List.mem_of_getElem? (i := 393) (by decide +kernel), List.mem_of_getElem? (i := 646) (by decide +kernel), List.mem_of_getElem? (i := 647) (by decide +kernel)⟩
theorem lw_p79 : lw_okq (⟨"GameCoreModel", "flags", "()I"⟩, 18) := ⟨⟨by decide +kernel, by decide +kernel⟩, List.mem_of_getElem? (i := 393) (by decide +kernel), List.mem_of_getElem? (i := 650) (by decide +kernel), List.mem_of_getElem? (i := 651) (by decide +kernel)⟩
def lw_privs_5 : List (MethodName × Nat) := [(⟨"GameCoreModel", "adds", "(II)V"⟩, 18), (⟨"GameCoreModel", "less", "(II)I"⟩, 18), (⟨"GameCoreModel", "last", "(II)V"⟩, 18), (⟨"GameCoreModel", "returnsIf", "(I)V"⟩, 18), (⟨"GameCoreModel", "pop", "()I"⟩, 18), (⟨"GameCoreModel", "high", "(I)V"⟩, 18), (⟨"GameCoreModel", "moved", "(I)I"⟩, 18), (⟨"GameCoreModel", "popsOr", "(I)V"⟩, 18), (⟨"GameCoreModel", "setFlags", "(I)V"⟩, 18), (⟨"GameCoreModel", "jumpsIf", "(I)V"⟩, 18), (⟨"GameCoreModel", "far", "(I)V"⟩, 18), (⟨"GameCoreModel", "others", "(I)V"⟩, 18), (⟨"GameCoreModel", "extended", "(I)V"⟩, 18), (⟨"GameCoreModel", "callsIf", "(I)V"⟩, 18), (⟨"GameCoreModel", "calls", "(I)V"⟩, 18), (⟨"GameCoreModel", "flags", "()I"⟩, 18)]
theorem lw_r5 : ∀ q ∈ lw_privs_5, lw_okq q := List.forall_mem_cons.mpr ⟨lw_p64, List.forall_mem_cons.mpr ⟨lw_p65, List.forall_mem_cons.mpr ⟨lw_p66, List.forall_mem_cons.mpr ⟨lw_p67, List.forall_mem_cons.mpr ⟨lw_p68, List.forall_mem_cons.mpr ⟨lw_p69, List.forall_mem_cons.mpr ⟨lw_p70, List.forall_mem_cons.mpr ⟨lw_p71, List.forall_mem_cons.mpr ⟨lw_p72, List.forall_mem_cons.mpr ⟨lw_p73, List.forall_mem_cons.mpr ⟨lw_p74, List.forall_mem_cons.mpr ⟨lw_p75, List.forall_mem_cons.mpr ⟨lw_p76, List.forall_mem_cons.mpr ⟨lw_p77, List.forall_mem_cons.mpr ⟨lw_p78, List.forall_mem_cons.mpr ⟨lw_p79, fun _ h => absurd h List.not_mem_nil⟩⟩⟩⟩⟩⟩⟩⟩⟩⟩⟩⟩⟩⟩⟩⟩
def lw_privs : List (MethodName × Nat) := lw_privs_1 ++ (lw_privs_2 ++ (lw_privs_3 ++ (lw_privs_4 ++ (lw_privs_5))))
def lw_tbl : List Cond := k2_sels lw_privs ++ tables_1
theorem lw_privs_ok : ∀ q ∈ lw_privs, lw_okq q := by
  show ∀ q ∈ lw_privs_1 ++ (lw_privs_2 ++ (lw_privs_3 ++ (lw_privs_4 ++ (lw_privs_5)))), lw_okq q
  exact List.forall_mem_append.mpr ⟨lw_r1, List.forall_mem_append.mpr ⟨lw_r2, List.forall_mem_append.mpr ⟨lw_r3, List.forall_mem_append.mpr ⟨lw_r4, lw_r5⟩⟩⟩⟩
end
section
/-! ===== BEGIN words of one list among another's, by their places ===== -/
theorem goodIn_r {big : List Cond} (ws : List Cond) (ps : List Nat) (hp : ws = ps.filterMap (fun i => big[i]?)) (h : ws.all goodWord = true) : GoodIn big ws := by
  intro w hw
  have h1 := List.all_eq_true.mp h w hw
  rw [hp] at hw
  obtain ⟨i, -, hi⟩ := List.mem_filterMap.mp hw
  have hm : w ∈ big := by first | exact List.mem_of_getElem? hi | exact List.getElem?_mem hi
  exact ⟨hm, good_of_word h1⟩
theorem goodIn_app {big a b : List Cond} (ha : GoodIn big a) (hb : GoodIn big b) : GoodIn big (a ++ b) := fun w h => (List.mem_append.mp h).elim (ha w) (hb w)
theorem goodIn_ca {big a b : List Cond} {c : Cond} (ha : GoodIn big (c :: a)) (hb : GoodIn big b) : GoodIn big (c :: (a ++ b)) := fun w h => (List.mem_cons.mp h).elim (fun e => ha w (List.mem_cons.mpr (Or.inl e))) (fun h => (List.mem_append.mp h).elim (fun h => ha w (List.mem_cons.mpr (Or.inr h))) (hb w))
theorem goodIn_sub {big ws : List Cond} (hm : ∀ w ∈ ws, w ∈ big) (h : ws.all goodWord = true) : GoodIn big ws := fun w hw => ⟨hm w hw, good_of_word (List.all_eq_true.mp h w hw)⟩
/-! ===== END ===== -/

/-! ===== BEGIN printed: names, fields, word lists, decode rows ===== -/
def RX0 : String := "GameCore$Memory"
def TX0 : u_T := fun k => match k with
  | 0 => ("GameCore$Memory", "bytes", "[B", true)
  | _ => ("GameCore$Memory", "counter", "I", false)
def tyX0 : Nat → FieldType := fun k => match k with
  | 0 => .array .byte
  | _ => .int
abbrev wsX00 : List Cond := u_ws RX0 TX0 2
theorem nmX0 : ∀ a, a < 2 → ∀ b, b < 2 → a ≠ b → (TX0 a).2.1 ≠ (TX0 b).2.1 := by decide +kernel
theorem tyX0_ok : ∀ k, k < 2 → parseFieldDescriptor (TX0 k).2.2.1 = some (tyX0 k) := by decide +kernel
abbrev cX0_init : ByteArray := prog_2_method_1_code
def yX0_init : MethodName := ⟨RX0, "<init>", "()V"⟩
abbrev cX0_at : ByteArray := prog_2_method_2_code
def yX0_at : MethodName := ⟨RX0, "at", "(I)I"⟩
abbrev cX0_store : ByteArray := prog_2_method_3_code
def yX0_store : MethodName := ⟨RX0, "store", "(II)V"⟩
abbrev cX0_storeNumber : ByteArray := prog_2_method_4_code
def yX0_storeNumber : MethodName := ⟨RX0, "storeNumber", "(II)V"⟩
abbrev cX0_write : ByteArray := prog_2_method_5_code
def yX0_write : MethodName := ⟨RX0, "write", "(II)V"⟩
abbrev cX0_pending : ByteArray := prog_2_method_6_code
def yX0_pending : MethodName := ⟨RX0, "pending", "()I"⟩
abbrev cX0_raiseInterrupts : ByteArray := prog_2_method_7_code
def yX0_raiseInterrupts : MethodName := ⟨RX0, "raiseInterrupts", "(I)V"⟩
abbrev cX0_clearInterrupt : ByteArray := prog_2_method_8_code
def yX0_clearInterrupt : MethodName := ⟨RX0, "clearInterrupt", "(I)V"⟩
abbrev cX0_tick : ByteArray := prog_2_method_9_code
def yX0_tick : MethodName := ⟨RX0, "tick", "()V"⟩
abbrev cX0_countTimer : ByteArray := prog_2_method_10_code
def yX0_countTimer : MethodName := ⟨RX0, "countTimer", "()V"⟩
def RX1 : String := "GameCore$Registers"
def TX1 : u_T := fun k => match k with
  | _ => ("GameCore$Registers", "words", "[I", true)
def tyX1 : Nat → FieldType := fun k => match k with
  | _ => .array .int
abbrev wsX10 : List Cond := u_ws RX1 TX1 1
theorem nmX1 : ∀ a, a < 1 → ∀ b, b < 1 → a ≠ b → (TX1 a).2.1 ≠ (TX1 b).2.1 := by decide +kernel
theorem tyX1_ok : ∀ k, k < 1 → parseFieldDescriptor (TX1 k).2.2.1 = some (tyX1 k) := by decide +kernel
abbrev cX1_init : ByteArray := prog_3_method_1_code
def yX1_init : MethodName := ⟨RX1, "<init>", "()V"⟩
abbrev cX1_word : ByteArray := prog_3_method_2_code
def yX1_word : MethodName := ⟨RX1, "word", "(I)I"⟩
abbrev cX1_setWord : ByteArray := prog_3_method_3_code
def yX1_setWord : MethodName := ⟨RX1, "setWord", "(II)Z"⟩
abbrev cX1_half : ByteArray := prog_3_method_4_code
def yX1_half : MethodName := ⟨RX1, "half", "(I)I"⟩
abbrev cX1_setHalf : ByteArray := prog_3_method_5_code
def yX1_setHalf : MethodName := ⟨RX1, "setHalf", "(II)V"⟩
abbrev cX1_a : ByteArray := prog_3_method_6_code
def yX1_a : MethodName := ⟨RX1, "a", "()I"⟩
abbrev cX1_setA : ByteArray := prog_3_method_7_code
def yX1_setA : MethodName := ⟨RX1, "setA", "(I)V"⟩
abbrev cX1_flag : ByteArray := prog_3_method_8_code
def yX1_flag : MethodName := ⟨RX1, "flag", "(I)Z"⟩
abbrev cX1_setFlags : ByteArray := prog_3_method_9_code
def yX1_setFlags : MethodName := ⟨RX1, "setFlags", "(ZZZZ)V"⟩
abbrev cX1_pairOf : ByteArray := prog_3_method_10_code
def yX1_pairOf : MethodName := ⟨RX1, "pairOf", "(I)I"⟩
abbrev cX1_isHigh : ByteArray := prog_3_method_11_code
def yX1_isHigh : MethodName := ⟨RX1, "isHigh", "(I)Z"⟩
def RX2 : String := "GameCore$Sums"
def TX2 : u_T := fun k => match k with
  | _ => ("GameCore$Sums", "registers", "LGameCore$Registers;", true)
def tyX2 : Nat → FieldType := fun k => match k with
  | _ => .object "GameCore$Registers"
abbrev wsX20 : List Cond := u_ws RX2 TX2 1
theorem nmX2 : ∀ a, a < 1 → ∀ b, b < 1 → a ≠ b → (TX2 a).2.1 ≠ (TX2 b).2.1 := by decide +kernel
theorem tyX2_ok : ∀ k, k < 1 → parseFieldDescriptor (TX2 k).2.2.1 = some (tyX2 k) := by decide +kernel
abbrev cX2_init : ByteArray := prog_4_method_1_code
def yX2_init : MethodName := ⟨RX2, "<init>", "()V"⟩
abbrev cX2_apply : ByteArray := prog_4_method_2_code
def yX2_apply : MethodName := ⟨RX2, "apply", "(II)V"⟩
abbrev cX2_add : ByteArray := prog_4_method_3_code
def yX2_add : MethodName := ⟨RX2, "add", "(II)V"⟩
abbrev cX2_subtract : ByteArray := prog_4_method_4_code
def yX2_subtract : MethodName := ⟨RX2, "subtract", "(IIZ)V"⟩
abbrev cX2_putLogic : ByteArray := prog_4_method_5_code
def yX2_putLogic : MethodName := ⟨RX2, "putLogic", "(IZ)V"⟩
abbrev cX2_increment : ByteArray := prog_4_method_6_code
def yX2_increment : MethodName := ⟨RX2, "increment", "(I)I"⟩
abbrev cX2_decrement : ByteArray := prog_4_method_7_code
def yX2_decrement : MethodName := ⟨RX2, "decrement", "(I)I"⟩
abbrev cX2_addToHl : ByteArray := prog_4_method_8_code
def yX2_addToHl : MethodName := ⟨RX2, "addToHl", "(I)V"⟩
abbrev cX2_spPlus : ByteArray := prog_4_method_9_code
def yX2_spPlus : MethodName := ⟨RX2, "spPlus", "(I)I"⟩
abbrev cX2_changeA : ByteArray := prog_4_method_10_code
def yX2_changeA : MethodName := ⟨RX2, "changeA", "(I)V"⟩
abbrev cX2_adjustDecimal : ByteArray := prog_4_method_11_code
def yX2_adjustDecimal : MethodName := ⟨RX2, "adjustDecimal", "()V"⟩
abbrev cX2_shift : ByteArray := prog_4_method_12_code
def yX2_shift : MethodName := ⟨RX2, "shift", "(II)I"⟩
abbrev cX2_carryOfShift : ByteArray := prog_4_method_13_code
def yX2_carryOfShift : MethodName := ⟨RX2, "carryOfShift", "(II)Z"⟩
abbrev cX2_testBit : ByteArray := prog_4_method_14_code
def yX2_testBit : MethodName := ⟨RX2, "testBit", "(II)V"⟩
def RX3 : String := "GameCore"
def TX3 : u_T := fun k => match k with
  | 0 => ("GameCore", "memory", "LGameCore$Memory;", true)
  | 1 => ("GameCore", "registers", "LGameCore$Registers;", true)
  | 2 => ("GameCore", "sums", "LGameCore$Sums;", true)
  | 3 => ("GameCore", "ime", "Z", false)
  | 4 => ("GameCore", "eiWaits", "Z", false)
  | 5 => ("GameCore", "halted", "Z", false)
  | 6 => ("GameCore", "haltBug", "Z", false)
  | _ => ("GameCore", "cycles", "I", false)
def tyX3 : Nat → FieldType := fun k => match k with
  | 0 => .object "GameCore$Memory"
  | 1 => .object "GameCore$Registers"
  | 2 => .object "GameCore$Sums"
  | 3 => .boolean
  | 4 => .boolean
  | 5 => .boolean
  | 6 => .boolean
  | _ => .int
abbrev wsX30 : List Cond := u_ws RX3 TX3 8
theorem nmX3 : ∀ a, a < 8 → ∀ b, b < 8 → a ≠ b → (TX3 a).2.1 ≠ (TX3 b).2.1 := by decide +kernel
theorem tyX3_ok : ∀ k, k < 8 → parseFieldDescriptor (TX3 k).2.2.1 = some (tyX3 k) := by decide +kernel
abbrev cX3_init : ByteArray := prog_1_method_1_code
def yX3_init : MethodName := ⟨RX3, "<init>", "()V"⟩
abbrev cX3_poke : ByteArray := prog_1_method_2_code
def yX3_poke : MethodName := ⟨RX3, "poke", "(II)Z"⟩
abbrev cX3_feed : ByteArray := prog_1_method_3_code
def yX3_feed : MethodName := ⟨RX3, "feed", "(IIIII)Z"⟩
abbrev cX3_peek : ByteArray := prog_1_method_4_code
def yX3_peek : MethodName := ⟨RX3, "peek", "(I)I"⟩
abbrev cX3_step : ByteArray := prog_1_method_5_code
def yX3_step : MethodName := ⟨RX3, "step", "()I"⟩
abbrev cX3_run : ByteArray := prog_1_method_6_code
def yX3_run : MethodName := ⟨RX3, "run", "(I)I"⟩
abbrev cX3_request : ByteArray := prog_1_method_7_code
def yX3_request : MethodName := ⟨RX3, "request", "(I)Z"⟩
abbrev cX3_reg : ByteArray := prog_1_method_8_code
def yX3_reg : MethodName := ⟨RX3, "reg", "(I)I"⟩
abbrev cX3_set : ByteArray := prog_1_method_9_code
def yX3_set : MethodName := ⟨RX3, "set", "(II)Z"⟩
abbrev cX3_look : ByteArray := prog_1_method_10_code
def yX3_look : MethodName := ⟨RX3, "look", "(I)I"⟩
abbrev cX3_mcycles : ByteArray := prog_1_method_11_code
def yX3_mcycles : MethodName := ⟨RX3, "mcycles", "()I"⟩
abbrev cX3_takeStep : ByteArray := prog_1_method_12_code
def yX3_takeStep : MethodName := ⟨RX3, "takeStep", "()I"⟩
abbrev cX3_dispatch : ByteArray := prog_1_method_13_code
def yX3_dispatch : MethodName := ⟨RX3, "dispatch", "(I)V"⟩
abbrev cX3_pass : ByteArray := prog_1_method_14_code
def yX3_pass : MethodName := ⟨RX3, "pass", "(I)V"⟩
abbrev cX3_leaveOpcode : ByteArray := prog_1_method_15_code
def yX3_leaveOpcode : MethodName := ⟨RX3, "leaveOpcode", "()V"⟩
abbrev cX3_execute : ByteArray := prog_1_method_16_code
def yX3_execute : MethodName := ⟨RX3, "execute", "(I)I"⟩
abbrev cX3_executeFirstQuarter : ByteArray := prog_1_method_17_code
def yX3_executeFirstQuarter : MethodName := ⟨RX3, "executeFirstQuarter", "(II)I"⟩
abbrev cX3_executeLastQuarter : ByteArray := prog_1_method_18_code
def yX3_executeLastQuarter : MethodName := ⟨RX3, "executeLastQuarter", "(II)I"⟩
abbrev cX3_storeSp : ByteArray := prog_1_method_19_code
def yX3_storeSp : MethodName := ⟨RX3, "storeSp", "()V"⟩
abbrev cX3_loadOrAddWord : ByteArray := prog_1_method_20_code
def yX3_loadOrAddWord : MethodName := ⟨RX3, "loadOrAddWord", "(I)V"⟩
abbrev cX3_loadByPair : ByteArray := prog_1_method_21_code
def yX3_loadByPair : MethodName := ⟨RX3, "loadByPair", "(I)V"⟩
abbrev cX3_stepPair : ByteArray := prog_1_method_22_code
def yX3_stepPair : MethodName := ⟨RX3, "stepPair", "(I)V"⟩
abbrev cX3_executeWithByte : ByteArray := prog_1_method_23_code
def yX3_executeWithByte : MethodName := ⟨RX3, "executeWithByte", "(I)I"⟩
abbrev cX3_popOrMove : ByteArray := prog_1_method_24_code
def yX3_popOrMove : MethodName := ⟨RX3, "popOrMove", "(I)V"⟩
abbrev cX3_loadFar : ByteArray := prog_1_method_25_code
def yX3_loadFar : MethodName := ⟨RX3, "loadFar", "(I)I"⟩
abbrev cX3_switchInterrupts : ByteArray := prog_1_method_26_code
def yX3_switchInterrupts : MethodName := ⟨RX3, "switchInterrupts", "(Z)I"⟩
abbrev cX3_pushPair : ByteArray := prog_1_method_27_code
def yX3_pushPair : MethodName := ⟨RX3, "pushPair", "(I)I"⟩
abbrev cX3_executeBitPage : ByteArray := prog_1_method_28_code
def yX3_executeBitPage : MethodName := ⟨RX3, "executeBitPage", "()I"⟩
abbrev cX3_halt : ByteArray := prog_1_method_29_code
def yX3_halt : MethodName := ⟨RX3, "halt", "()V"⟩
abbrev cX3_jumpRelativeIf : ByteArray := prog_1_method_30_code
def yX3_jumpRelativeIf : MethodName := ⟨RX3, "jumpRelativeIf", "(Z)I"⟩
abbrev cX3_jumpIf : ByteArray := prog_1_method_31_code
def yX3_jumpIf : MethodName := ⟨RX3, "jumpIf", "(Z)I"⟩
abbrev cX3_callIf : ByteArray := prog_1_method_32_code
def yX3_callIf : MethodName := ⟨RX3, "callIf", "(Z)I"⟩
abbrev cX3_returnIf : ByteArray := prog_1_method_33_code
def yX3_returnIf : MethodName := ⟨RX3, "returnIf", "(Z)I"⟩
abbrev cX3_holds : ByteArray := prog_1_method_34_code
def yX3_holds : MethodName := ⟨RX3, "holds", "(I)Z"⟩
abbrev cX3_stackPair : ByteArray := prog_1_method_35_code
def yX3_stackPair : MethodName := ⟨RX3, "stackPair", "(I)I"⟩
abbrev cX3_fetch : ByteArray := prog_1_method_36_code
def yX3_fetch : MethodName := ⟨RX3, "fetch", "()I"⟩
abbrev cX3_fetchWord : ByteArray := prog_1_method_37_code
def yX3_fetchWord : MethodName := ⟨RX3, "fetchWord", "()I"⟩
abbrev cX3_push : ByteArray := prog_1_method_38_code
def yX3_push : MethodName := ⟨RX3, "push", "(I)V"⟩
abbrev cX3_pop : ByteArray := prog_1_method_39_code
def yX3_pop : MethodName := ⟨RX3, "pop", "()I"⟩
abbrev cX3_operand : ByteArray := prog_1_method_40_code
def yX3_operand : MethodName := ⟨RX3, "operand", "(I)I"⟩
abbrev cX3_setOperand : ByteArray := prog_1_method_41_code
def yX3_setOperand : MethodName := ⟨RX3, "setOperand", "(II)V"⟩
def RX4 : String := "GameCoreModel"
def TX4 : u_T := fun k => match k with
  | 0 => ("GameCoreModel", "memory", "[B", true)
  | 1 => ("GameCoreModel", "bytes", "[I", true)
  | 2 => ("GameCoreModel", "zero", "Z", false)
  | 3 => ("GameCoreModel", "minus", "Z", false)
  | 4 => ("GameCoreModel", "half", "Z", false)
  | 5 => ("GameCoreModel", "carry", "Z", false)
  | 6 => ("GameCoreModel", "sp", "I", false)
  | 7 => ("GameCoreModel", "pc", "I", false)
  | 8 => ("GameCoreModel", "isOn", "Z", false)
  | 9 => ("GameCoreModel", "waits", "Z", false)
  | 10 => ("GameCoreModel", "halted", "Z", false)
  | 11 => ("GameCoreModel", "bug", "Z", false)
  | 12 => ("GameCoreModel", "counter", "I", false)
  | 13 => ("GameCoreModel", "all", "I", false)
  | 14 => ("GameCoreModel", "cycles", "I", false)
  | 15 => ("GameCoreModel", "isEi", "Z", false)
  | 16 => ("GameCoreModel", "wasWaiting", "Z", false)
  | _ => ("GameCoreModel", "thrown", "I", false)
def tyX4 : Nat → FieldType := fun k => match k with
  | 0 => .array .byte
  | 1 => .array .int
  | 2 => .boolean
  | 3 => .boolean
  | 4 => .boolean
  | 5 => .boolean
  | 6 => .int
  | 7 => .int
  | 8 => .boolean
  | 9 => .boolean
  | 10 => .boolean
  | 11 => .boolean
  | 12 => .int
  | 13 => .int
  | 14 => .int
  | 15 => .boolean
  | 16 => .boolean
  | _ => .int
abbrev wsX40 : List Cond := u_ws RX4 TX4 18
theorem nmX4 : ∀ a, a < 18 → ∀ b, b < 18 → a ≠ b → (TX4 a).2.1 ≠ (TX4 b).2.1 := by decide +kernel
theorem tyX4_ok : ∀ k, k < 18 → parseFieldDescriptor (TX4 k).2.2.1 = some (tyX4 k) := by decide +kernel
abbrev cX4_init : ByteArray := prog_6_method_1_code
def yX4_init : MethodName := ⟨RX4, "<init>", "()V"⟩
abbrev cX4_at : ByteArray := prog_6_method_3_code
def yX4_at : MethodName := ⟨RX4, "at", "(I)I"⟩
abbrev cX4_puts : ByteArray := prog_6_method_4_code
def yX4_puts : MethodName := ⟨RX4, "puts", "(II)V"⟩
abbrev cX4_reads : ByteArray := prog_6_method_5_code
def yX4_reads : MethodName := ⟨RX4, "reads", "(I)I"⟩
abbrev cX4_writes : ByteArray := prog_6_method_6_code
def yX4_writes : MethodName := ⟨RX4, "writes", "(II)V"⟩
abbrev cX4_fetch : ByteArray := prog_6_method_7_code
def yX4_fetch : MethodName := ⟨RX4, "fetch", "()I"⟩
abbrev cX4_fetchWord : ByteArray := prog_6_method_8_code
def yX4_fetchWord : MethodName := ⟨RX4, "fetchWord", "()I"⟩
abbrev cX4_push : ByteArray := prog_6_method_9_code
def yX4_push : MethodName := ⟨RX4, "push", "(I)V"⟩
abbrev cX4_pop : ByteArray := prog_6_method_10_code
def yX4_pop : MethodName := ⟨RX4, "pop", "()I"⟩
abbrev cX4_hl : ByteArray := prog_6_method_11_code
def yX4_hl : MethodName := ⟨RX4, "hl", "()I"⟩
abbrev cX4_setPair : ByteArray := prog_6_method_12_code
def yX4_setPair : MethodName := ⟨RX4, "setPair", "(II)V"⟩
abbrev cX4_pair : ByteArray := prog_6_method_13_code
def yX4_pair : MethodName := ⟨RX4, "pair", "(I)I"⟩
abbrev cX4_flags : ByteArray := prog_6_method_14_code
def yX4_flags : MethodName := ⟨RX4, "flags", "()I"⟩
abbrev cX4_setFlags : ByteArray := prog_6_method_15_code
def yX4_setFlags : MethodName := ⟨RX4, "setFlags", "(I)V"⟩
abbrev cX4_flagsAre : ByteArray := prog_6_method_16_code
def yX4_flagsAre : MethodName := ⟨RX4, "flagsAre", "(ZZZZ)V"⟩
abbrev cX4_operand : ByteArray := prog_6_method_17_code
def yX4_operand : MethodName := ⟨RX4, "operand", "(I)I"⟩
abbrev cX4_setOperand : ByteArray := prog_6_method_18_code
def yX4_setOperand : MethodName := ⟨RX4, "setOperand", "(II)V"⟩
abbrev cX4_adds : ByteArray := prog_6_method_19_code
def yX4_adds : MethodName := ⟨RX4, "adds", "(II)V"⟩
abbrev cX4_less : ByteArray := prog_6_method_20_code
def yX4_less : MethodName := ⟨RX4, "less", "(II)I"⟩
abbrev cX4_sums : ByteArray := prog_6_method_21_code
def yX4_sums : MethodName := ⟨RX4, "sums", "(II)V"⟩
abbrev cX4_increased : ByteArray := prog_6_method_22_code
def yX4_increased : MethodName := ⟨RX4, "increased", "(I)I"⟩
abbrev cX4_decreased : ByteArray := prog_6_method_23_code
def yX4_decreased : MethodName := ⟨RX4, "decreased", "(I)I"⟩
abbrev cX4_turned : ByteArray := prog_6_method_24_code
def yX4_turned : MethodName := ⟨RX4, "turned", "(II)I"⟩
abbrev cX4_adjusts : ByteArray := prog_6_method_25_code
def yX4_adjusts : MethodName := ⟨RX4, "adjusts", "()V"⟩
abbrev cX4_moved : ByteArray := prog_6_method_26_code
def yX4_moved : MethodName := ⟨RX4, "moved", "(I)I"⟩
abbrev cX4_holds : ByteArray := prog_6_method_27_code
def yX4_holds : MethodName := ⟨RX4, "holds", "(I)Z"⟩
abbrev cX4_isNone : ByteArray := prog_6_method_28_code
def yX4_isNone : MethodName := ⟨RX4, "isNone", "(I)Z"⟩
abbrev cX4_instruction : ByteArray := prog_6_method_29_code
def yX4_instruction : MethodName := ⟨RX4, "instruction", "()V"⟩
abbrev cX4_halts : ByteArray := prog_6_method_30_code
def yX4_halts : MethodName := ⟨RX4, "halts", "(I)V"⟩
abbrev cX4_first : ByteArray := prog_6_method_31_code
def yX4_first : MethodName := ⟨RX4, "first", "(II)V"⟩
abbrev cX4_wide : ByteArray := prog_6_method_32_code
def yX4_wide : MethodName := ⟨RX4, "wide", "(I)I"⟩
abbrev cX4_setWide : ByteArray := prog_6_method_33_code
def yX4_setWide : MethodName := ⟨RX4, "setWide", "(II)V"⟩
abbrev cX4_jumpsNear : ByteArray := prog_6_method_34_code
def yX4_jumpsNear : MethodName := ⟨RX4, "jumpsNear", "(I)V"⟩
abbrev cX4_addsPair : ByteArray := prog_6_method_35_code
def yX4_addsPair : MethodName := ⟨RX4, "addsPair", "(I)V"⟩
abbrev cX4_byPair : ByteArray := prog_6_method_36_code
def yX4_byPair : MethodName := ⟨RX4, "byPair", "(IZ)V"⟩
abbrev cX4_onA : ByteArray := prog_6_method_37_code
def yX4_onA : MethodName := ⟨RX4, "onA", "(I)V"⟩
abbrev cX4_last : ByteArray := prog_6_method_38_code
def yX4_last : MethodName := ⟨RX4, "last", "(II)V"⟩
abbrev cX4_calls : ByteArray := prog_6_method_39_code
def yX4_calls : MethodName := ⟨RX4, "calls", "(I)V"⟩
abbrev cX4_callsIf : ByteArray := prog_6_method_40_code
def yX4_callsIf : MethodName := ⟨RX4, "callsIf", "(I)V"⟩
abbrev cX4_returnsIf : ByteArray := prog_6_method_41_code
def yX4_returnsIf : MethodName := ⟨RX4, "returnsIf", "(I)V"⟩
abbrev cX4_jumpsIf : ByteArray := prog_6_method_42_code
def yX4_jumpsIf : MethodName := ⟨RX4, "jumpsIf", "(I)V"⟩
abbrev cX4_high : ByteArray := prog_6_method_43_code
def yX4_high : MethodName := ⟨RX4, "high", "(I)V"⟩
abbrev cX4_popsOr : ByteArray := prog_6_method_44_code
def yX4_popsOr : MethodName := ⟨RX4, "popsOr", "(I)V"⟩
abbrev cX4_far : ByteArray := prog_6_method_45_code
def yX4_far : MethodName := ⟨RX4, "far", "(I)V"⟩
abbrev cX4_others : ByteArray := prog_6_method_46_code
def yX4_others : MethodName := ⟨RX4, "others", "(I)V"⟩
abbrev cX4_extended : ByteArray := prog_6_method_47_code
def yX4_extended : MethodName := ⟨RX4, "extended", "(I)V"⟩
abbrev cX4_dispatch : ByteArray := prog_6_method_48_code
def yX4_dispatch : MethodName := ⟨RX4, "dispatch", "(I)V"⟩
abbrev cX4_time : ByteArray := prog_6_method_49_code
def yX4_time : MethodName := ⟨RX4, "time", "()V"⟩
abbrev cX4_step : ByteArray := prog_6_method_50_code
def yX4_step : MethodName := ⟨RX4, "step", "()I"⟩
abbrev cX4_run : ByteArray := prog_6_method_51_code
def yX4_run : MethodName := ⟨RX4, "run", "(I)I"⟩
abbrev cX4_poke : ByteArray := prog_6_method_52_code
def yX4_poke : MethodName := ⟨RX4, "poke", "(II)Z"⟩
abbrev cX4_feed : ByteArray := prog_6_method_53_code
def yX4_feed : MethodName := ⟨RX4, "feed", "(IIIII)Z"⟩
abbrev cX4_peek : ByteArray := prog_6_method_54_code
def yX4_peek : MethodName := ⟨RX4, "peek", "(I)I"⟩
abbrev cX4_request : ByteArray := prog_6_method_55_code
def yX4_request : MethodName := ⟨RX4, "request", "(I)Z"⟩
abbrev cX4_reg : ByteArray := prog_6_method_56_code
def yX4_reg : MethodName := ⟨RX4, "reg", "(I)I"⟩
abbrev cX4_set : ByteArray := prog_6_method_57_code
def yX4_set : MethodName := ⟨RX4, "set", "(II)Z"⟩
abbrev cX4_look : ByteArray := prog_6_method_58_code
def yX4_look : MethodName := ⟨RX4, "look", "(I)I"⟩
abbrev cX4_mcycles : ByteArray := prog_6_method_59_code
def yX4_mcycles : MethodName := ⟨RX4, "mcycles", "()I"⟩
def RJ9 : String := "java/lang/Math"
def TJ9 : u_T := fun k => match k with
  | _ => ("", "", "", false)
def tyJ9 : Nat → FieldType := fun k => match k with
  | _ => .int
abbrev wsJ90 : List Cond := u_ws RJ9 TJ9 0
theorem nmJ9 : ∀ a, a < 0 → ∀ b, b < 0 → a ≠ b → (TJ9 a).2.1 ≠ (TJ9 b).2.1 := by decide +kernel
theorem tyJ9_ok : ∀ k, k < 0 → parseFieldDescriptor (TJ9 k).2.2.1 = some (tyJ9 k) := by decide +kernel
abbrev cJ9_min_7cf53 : ByteArray := prog_7_method_69_code
def yJ9_min_7cf53 : MethodName := ⟨RJ9, "min", "(II)I"⟩
def RL : String := "GameCoreLaw"
abbrev cL_law : ByteArray := code
def yL_law : MethodName := ⟨RL, "law", "([I)Z"⟩
def wsL_law_r1 : List Cond := [Cond.classLink RL 7 RX3, Cond.instantiable RX3 8, Cond.initialized RX3, Cond.classLink RL 10 RX4, Cond.instantiable RX4 18, Cond.initialized RX4, Cond.methodLink RL 9 yX3_init, Cond.instanceMethod yX3_init, Cond.code yX3_init cX3_init 1 none, Cond.methodLink RX3 1 objectInit, Cond.instanceMethod objectInit, Cond.code objectInit ⟨#[0xb1]⟩ 1 none, Cond.classLink RX3 7 RX0, Cond.instantiable RX0 2, Cond.initialized RX0, Cond.fieldLink RX3 10 "GameCore" "memory" "LGameCore$Memory;", Cond.classLink RX3 16 RX2, Cond.instantiable RX2 1, Cond.initialized RX2, Cond.fieldLink RX3 19 "GameCore" "sums" "LGameCore$Sums;", Cond.fieldLink RX3 27 "GameCore" "registers" "LGameCore$Registers;", Cond.instanceMethod yX0_init, Cond.code yX0_init cX0_init 1 none, Cond.methodLink RX0 3 objectInit]
def wsL_law_r2 : List Cond := [Cond.constant RX0 9 (65536), Cond.arrayClass .byte, Cond.fieldLink RX0 10 "GameCore$Memory" "bytes" "[B", Cond.instanceMethod yX2_init, Cond.code yX2_init cX2_init 1 none, Cond.methodLink RX2 3 objectInit, Cond.classLink RX2 9 RX1, Cond.instantiable RX1 1, Cond.initialized RX1, Cond.fieldLink RX2 12 "GameCore$Sums" "registers" "LGameCore$Registers;", Cond.instanceMethod yX1_init, Cond.code yX1_init cX1_init 1 none, Cond.methodLink RX1 3 objectInit, Cond.arrayClass .int, Cond.fieldLink RX1 9 "GameCore$Registers" "words" "[I", Cond.methodLink RL 12 yX4_init, Cond.instanceMethod yX4_init, Cond.code yX4_init cX4_init 1 none, Cond.methodLink RX4 1 objectInit, Cond.constant RX4 7 (65536), Cond.fieldLink RX4 8 "GameCoreModel" "memory" "[B", Cond.fieldLink RX4 14 "GameCoreModel" "bytes" "[I", Cond.methodLink RL 13 yX3_poke, Cond.instanceMethod yX3_poke]
def wsL_law_r3 : List Cond := [Cond.selects RX3 yX3_poke yX3_poke, Cond.code yX3_poke cX3_poke 3 (some .boolean), Cond.constant RX3 28 (65535), Cond.methodLink RX3 29 yX0_store, Cond.instanceMethod yX0_store, Cond.selects RX0 yX0_store yX0_store, Cond.code yX0_store cX0_store 3 none, Cond.constant RX0 16 (65535), Cond.methodLink RL 17 yX4_poke, Cond.instanceMethod yX4_poke, Cond.selects RX4 yX4_poke yX4_poke, Cond.code yX4_poke cX4_poke 3 (some .boolean), Cond.fieldLink RX4 18 "GameCoreModel" "thrown" "I", Cond.constant RX4 22 (65535), Cond.methodLink RX4 31 yX4_puts, Cond.instanceMethod yX4_puts, Cond.selects RX4 yX4_puts yX4_puts, Cond.code yX4_puts cX4_puts 3 none, Cond.methodLink RL 18 yX3_feed, Cond.instanceMethod yX3_feed, Cond.selects RX3 yX3_feed yX3_feed, Cond.code yX3_feed cX3_feed 6 (some .boolean), Cond.constant RX3 33 (65520), Cond.methodLink RX3 34 yX0_storeNumber]
def wsL_law_r4 : List Cond := [Cond.instanceMethod yX0_storeNumber, Cond.selects RX0 yX0_storeNumber yX0_storeNumber, Cond.code yX0_storeNumber cX0_storeNumber 4 none, Cond.methodLink RX0 17 yX0_store, Cond.methodLink RL 22 yX4_feed, Cond.instanceMethod yX4_feed, Cond.selects RX4 yX4_feed yX4_feed, Cond.code yX4_feed cX4_feed 8 (some .boolean), Cond.constant RX4 228 (65520), Cond.methodLink RL 23 yX3_peek, Cond.instanceMethod yX3_peek, Cond.selects RX3 yX3_peek yX3_peek, Cond.code yX3_peek cX3_peek 2 (some .int), Cond.methodLink RX3 37 yX0_at, Cond.instanceMethod yX0_at, Cond.selects RX0 yX0_at yX0_at, Cond.code yX0_at cX0_at 2 (some .int), Cond.methodLink RL 27 yX4_peek, Cond.instanceMethod yX4_peek, Cond.selects RX4 yX4_peek yX4_peek, Cond.code yX4_peek cX4_peek 2 (some .int), Cond.methodLink RX4 26 yX4_at, Cond.instanceMethod yX4_at, Cond.selects RX4 yX4_at yX4_at]
def wsL_law_r5 : List Cond := [Cond.code yX4_at cX4_at 2 (some .int), Cond.methodLink RL 28 yX3_step, Cond.instanceMethod yX3_step, Cond.selects RX3 yX3_step yX3_step, Cond.code yX3_step cX3_step 1 (some .int), Cond.methodLink RX3 41 yX3_takeStep, Cond.instanceMethod yX3_takeStep, Cond.selects RX3 yX3_takeStep yX3_takeStep, Cond.code yX3_takeStep cX3_takeStep 6 (some .int), Cond.fieldLink RX3 58 "GameCore" "ime" "Z", Cond.fieldLink RX3 65 "GameCore" "halted" "Z", Cond.fieldLink RX3 87 "GameCore" "BASE_CYCLES" "[I", Cond.fieldLink RX3 62 "GameCore" "eiWaits" "Z", Cond.methodLink RX3 78 yX0_pending, Cond.instanceMethod yX0_pending, Cond.selects RX0 yX0_pending yX0_pending, Cond.code yX0_pending cX0_pending 1 (some .int), Cond.constant RX0 30 (65295), Cond.methodLink RX0 26 yX0_at, Cond.methodLink RX3 81 yX3_dispatch, Cond.instanceMethod yX3_dispatch, Cond.selects RX3 yX3_dispatch yX3_dispatch, Cond.code yX3_dispatch cX3_dispatch 3 none, Cond.methodLink RX3 97 yX0_clearInterrupt]
def wsL_law_r6 : List Cond := [Cond.instanceMethod yX0_clearInterrupt, Cond.selects RX0 yX0_clearInterrupt yX0_clearInterrupt, Cond.code yX0_clearInterrupt cX0_clearInterrupt 2 none, Cond.methodLink RX3 49 yX1_word, Cond.instanceMethod yX1_word, Cond.selects RX1 yX1_word yX1_word, Cond.code yX1_word cX1_word 2 (some .int), Cond.methodLink RX3 100 yX3_push, Cond.instanceMethod yX3_push, Cond.selects RX3 yX3_push yX3_push, Cond.code yX3_push cX3_push 3 none, Cond.methodLink RX3 188 yX0_write, Cond.instanceMethod yX0_write, Cond.selects RX0 yX0_write yX0_write, Cond.code yX0_write cX0_write 3 none, Cond.constant RX0 21 (65284), Cond.fieldLink RX0 22 "GameCore$Memory" "counter" "I", Cond.methodLink RX3 54 yX1_setWord, Cond.instanceMethod yX1_setWord, Cond.selects RX1 yX1_setWord yX1_setWord, Cond.code yX1_setWord cX1_setWord 3 (some .boolean), Cond.constant RX1 15 (65520), Cond.constant RX1 16 (65535), Cond.methodLink RX3 84 yX3_pass]
def wsL_law_r7 : List Cond := [Cond.instanceMethod yX3_pass, Cond.selects RX3 yX3_pass yX3_pass, Cond.code yX3_pass cX3_pass 3 none, Cond.fieldLink RX3 75 "GameCore" "cycles" "I", Cond.constant RX3 103 (1073741823), Cond.methodLink RX3 104 yX0_tick, Cond.instanceMethod yX0_tick, Cond.selects RX0 yX0_tick yX0_tick, Cond.code yX0_tick cX0_tick 2 none, Cond.constant RX0 31 (65287), Cond.methodLink RX0 36 yX0_countTimer, Cond.instanceMethod yX0_countTimer, Cond.selects RX0 yX0_countTimer yX0_countTimer, Cond.code yX0_countTimer cX0_countTimer 1 none, Cond.constant RX0 39 (65285), Cond.constant RX0 40 (65286), Cond.methodLink RX0 41 yX0_raiseInterrupts, Cond.instanceMethod yX0_raiseInterrupts, Cond.selects RX0 yX0_raiseInterrupts yX0_raiseInterrupts, Cond.code yX0_raiseInterrupts cX0_raiseInterrupts 2 none, Cond.methodLink RX3 91 yX3_leaveOpcode, Cond.instanceMethod yX3_leaveOpcode, Cond.selects RX3 yX3_leaveOpcode yX3_leaveOpcode, Cond.code yX3_leaveOpcode cX3_leaveOpcode 1 none]
def wsL_law_r8 : List Cond := [Cond.fieldLink RX3 68 "GameCore" "haltBug" "Z", Cond.methodLink RX3 94 yX3_execute, Cond.instanceMethod yX3_execute, Cond.selects RX3 yX3_execute yX3_execute, Cond.code yX3_execute cX3_execute 4 (some .int), Cond.methodLink RX3 107 yX3_halt, Cond.instanceMethod yX3_halt, Cond.selects RX3 yX3_halt yX3_halt, Cond.code yX3_halt cX3_halt 1 none, Cond.methodLink RX3 110 yX3_executeBitPage, Cond.instanceMethod yX3_executeBitPage, Cond.selects RX3 yX3_executeBitPage yX3_executeBitPage, Cond.code yX3_executeBitPage cX3_executeBitPage 5 (some .int), Cond.methodLink RX3 155 yX3_fetch, Cond.instanceMethod yX3_fetch, Cond.selects RX3 yX3_fetch yX3_fetch, Cond.code yX3_fetch cX3_fetch 2 (some .int), Cond.methodLink RX3 117 yX3_operand, Cond.instanceMethod yX3_operand, Cond.selects RX3 yX3_operand yX3_operand, Cond.code yX3_operand cX3_operand 2 (some .int), Cond.methodLink RX3 215 yX1_half, Cond.instanceMethod yX1_half, Cond.selects RX1 yX1_half yX1_half]
def wsL_law_r9 : List Cond := [Cond.code yX1_half cX1_half 3 (some .int), Cond.methodLink RX1 17 yX1_pairOf, Cond.static yX1_pairOf, Cond.code yX1_pairOf cX1_pairOf 1 (some .int), Cond.methodLink RX1 21 yX1_isHigh, Cond.static yX1_isHigh, Cond.code yX1_isHigh cX1_isHigh 1 (some .boolean), Cond.methodLink RX3 218 yX2_shift, Cond.instanceMethod yX2_shift, Cond.selects RX2 yX2_shift yX2_shift, Cond.code yX2_shift cX2_shift 5 (some .int), Cond.methodLink RX2 18 yX1_flag, Cond.instanceMethod yX1_flag, Cond.selects RX1 yX1_flag yX1_flag, Cond.code yX1_flag cX1_flag 2 (some .boolean), Cond.methodLink RX2 62 yX2_carryOfShift, Cond.static yX2_carryOfShift, Cond.code yX2_carryOfShift cX2_carryOfShift 2 (some .boolean), Cond.methodLink RX2 42 yX1_setFlags, Cond.instanceMethod yX1_setFlags, Cond.selects RX1 yX1_setFlags yX1_setFlags, Cond.code yX1_setFlags cX1_setFlags 6 none, Cond.constant RX1 25 (65280), Cond.methodLink RX3 120 yX3_setOperand]
def wsL_law_r10 : List Cond := [Cond.instanceMethod yX3_setOperand, Cond.selects RX3 yX3_setOperand yX3_setOperand, Cond.code yX3_setOperand cX3_setOperand 3 none, Cond.methodLink RX3 227 yX1_setHalf, Cond.instanceMethod yX1_setHalf, Cond.selects RX1 yX1_setHalf yX1_setHalf, Cond.code yX1_setHalf cX1_setHalf 5 none, Cond.methodLink RX3 221 yX2_testBit, Cond.instanceMethod yX2_testBit, Cond.selects RX2 yX2_testBit yX2_testBit, Cond.code yX2_testBit cX2_testBit 3 none, Cond.methodLink RX3 113 yX3_executeFirstQuarter, Cond.instanceMethod yX3_executeFirstQuarter, Cond.selects RX3 yX3_executeFirstQuarter yX3_executeFirstQuarter, Cond.code yX3_executeFirstQuarter cX3_executeFirstQuarter 3 (some .int), Cond.methodLink RX3 129 yX3_storeSp, Cond.instanceMethod yX3_storeSp, Cond.selects RX3 yX3_storeSp yX3_storeSp, Cond.code yX3_storeSp cX3_storeSp 3 none, Cond.methodLink RX3 185 yX3_fetchWord, Cond.instanceMethod yX3_fetchWord, Cond.selects RX3 yX3_fetchWord yX3_fetchWord, Cond.code yX3_fetchWord cX3_fetchWord 2 (some .int), Cond.methodLink RX3 132 yX3_holds]
def wsL_law_r11 : List Cond := [Cond.instanceMethod yX3_holds, Cond.selects RX3 yX3_holds yX3_holds, Cond.code yX3_holds cX3_holds 3 (some .boolean), Cond.methodLink RX3 224 yX1_flag, Cond.methodLink RX3 136 yX3_jumpRelativeIf, Cond.instanceMethod yX3_jumpRelativeIf, Cond.selects RX3 yX3_jumpRelativeIf yX3_jumpRelativeIf, Cond.code yX3_jumpRelativeIf cX3_jumpRelativeIf 3 (some .int), Cond.methodLink RX3 140 yX3_loadOrAddWord, Cond.instanceMethod yX3_loadOrAddWord, Cond.selects RX3 yX3_loadOrAddWord yX3_loadOrAddWord, Cond.code yX3_loadOrAddWord cX3_loadOrAddWord 3 none, Cond.methodLink RX3 191 yX2_addToHl, Cond.instanceMethod yX2_addToHl, Cond.selects RX2 yX2_addToHl yX2_addToHl, Cond.code yX2_addToHl cX2_addToHl 4 none, Cond.constant RX2 54 (65535), Cond.methodLink RX2 46 yX1_word, Cond.methodLink RX2 50 yX1_setWord, Cond.methodLink RX3 143 yX3_loadByPair, Cond.instanceMethod yX3_loadByPair, Cond.selects RX3 yX3_loadByPair yX3_loadByPair, Cond.code yX3_loadByPair cX3_loadByPair 4 none, Cond.methodLink RX3 194 Lib.Math.min.name]
def wsL_law_r12 : List Cond := [Cond.static Lib.Math.min.name, Cond.initialized "java/lang/Math", Cond.code Lib.Math.min.name Lib.Math.min.code 2 (some .int), Cond.methodLink RX3 199 yX1_a, Cond.instanceMethod yX1_a, Cond.selects RX1 yX1_a yX1_a, Cond.code yX1_a cX1_a 1 (some .int), Cond.methodLink RX3 202 yX1_setA, Cond.instanceMethod yX1_setA, Cond.selects RX1 yX1_setA yX1_setA, Cond.code yX1_setA cX1_setA 2 none, Cond.methodLink RX3 146 yX3_stepPair, Cond.instanceMethod yX3_stepPair, Cond.selects RX3 yX3_stepPair yX3_stepPair, Cond.code yX3_stepPair cX3_stepPair 4 none, Cond.methodLink RX3 149 yX2_increment, Cond.instanceMethod yX2_increment, Cond.selects RX2 yX2_increment yX2_increment, Cond.code yX2_increment cX2_increment 3 (some .int), Cond.methodLink RX3 152 yX2_decrement, Cond.instanceMethod yX2_decrement, Cond.selects RX2 yX2_decrement yX2_decrement, Cond.code yX2_decrement cX2_decrement 3 (some .int), Cond.methodLink RX3 158 yX2_changeA]
def wsL_law_r13 : List Cond := [Cond.instanceMethod yX2_changeA, Cond.selects RX2 yX2_changeA yX2_changeA, Cond.code yX2_changeA cX2_changeA 3 none, Cond.methodLink RX2 55 yX2_adjustDecimal, Cond.instanceMethod yX2_adjustDecimal, Cond.selects RX2 yX2_adjustDecimal yX2_adjustDecimal, Cond.code yX2_adjustDecimal cX2_adjustDecimal 6 none, Cond.methodLink RX2 30 yX1_a, Cond.methodLink RX2 38 yX1_setA, Cond.methodLink RX2 58 yX2_shift, Cond.methodLink RX3 123 yX2_apply, Cond.instanceMethod yX2_apply, Cond.selects RX2 yX2_apply yX2_apply, Cond.code yX2_apply cX2_apply 4 none, Cond.methodLink RX2 22 yX2_add, Cond.instanceMethod yX2_add, Cond.selects RX2 yX2_add yX2_add, Cond.code yX2_add cX2_add 5 none, Cond.methodLink RX2 26 yX2_subtract, Cond.instanceMethod yX2_subtract, Cond.selects RX2 yX2_subtract yX2_subtract, Cond.code yX2_subtract cX2_subtract 6 none, Cond.methodLink RX2 34 yX2_putLogic, Cond.instanceMethod yX2_putLogic]
def wsL_law_r14 : List Cond := [Cond.selects RX2 yX2_putLogic yX2_putLogic, Cond.code yX2_putLogic cX2_putLogic 3 none, Cond.methodLink RX3 126 yX3_executeLastQuarter, Cond.instanceMethod yX3_executeLastQuarter, Cond.selects RX3 yX3_executeLastQuarter yX3_executeLastQuarter, Cond.code yX3_executeLastQuarter cX3_executeLastQuarter 3 (some .int), Cond.methodLink RX3 161 yX3_returnIf, Cond.instanceMethod yX3_returnIf, Cond.selects RX3 yX3_returnIf yX3_returnIf, Cond.code yX3_returnIf cX3_returnIf 2 (some .int), Cond.methodLink RX3 209 yX3_pop, Cond.instanceMethod yX3_pop, Cond.selects RX3 yX3_pop yX3_pop, Cond.code yX3_pop cX3_pop 2 (some .int), Cond.methodLink RX3 164 yX3_executeWithByte, Cond.instanceMethod yX3_executeWithByte, Cond.selects RX3 yX3_executeWithByte yX3_executeWithByte, Cond.code yX3_executeWithByte cX3_executeWithByte 3 (some .int), Cond.constant RX3 205 (65280), Cond.methodLink RX3 206 yX2_spPlus, Cond.instanceMethod yX2_spPlus, Cond.selects RX2 yX2_spPlus yX2_spPlus, Cond.code yX2_spPlus cX2_spPlus 3 (some .int), Cond.methodLink RX3 167 yX3_popOrMove]
def wsL_law_r15 : List Cond := [Cond.instanceMethod yX3_popOrMove, Cond.selects RX3 yX3_popOrMove yX3_popOrMove, Cond.code yX3_popOrMove cX3_popOrMove 2 none, Cond.methodLink RX3 212 yX3_stackPair, Cond.static yX3_stackPair, Cond.code yX3_stackPair cX3_stackPair 1 (some .int), Cond.methodLink RX3 170 yX3_jumpIf, Cond.instanceMethod yX3_jumpIf, Cond.selects RX3 yX3_jumpIf yX3_jumpIf, Cond.code yX3_jumpIf cX3_jumpIf 3 (some .int), Cond.methodLink RX3 173 yX3_loadFar, Cond.instanceMethod yX3_loadFar, Cond.selects RX3 yX3_loadFar yX3_loadFar, Cond.code yX3_loadFar cX3_loadFar 3 (some .int), Cond.methodLink RX3 176 yX3_switchInterrupts, Cond.instanceMethod yX3_switchInterrupts, Cond.selects RX3 yX3_switchInterrupts yX3_switchInterrupts, Cond.code yX3_switchInterrupts cX3_switchInterrupts 2 (some .int), Cond.methodLink RX3 179 yX3_callIf, Cond.instanceMethod yX3_callIf, Cond.selects RX3 yX3_callIf yX3_callIf, Cond.code yX3_callIf cX3_callIf 3 (some .int), Cond.methodLink RX3 182 yX3_pushPair, Cond.instanceMethod yX3_pushPair]
def wsL_law_r16 : List Cond := [Cond.selects RX3 yX3_pushPair yX3_pushPair, Cond.code yX3_pushPair cX3_pushPair 2 (some .int), Cond.methodLink RL 32 yX4_step, Cond.instanceMethod yX4_step, Cond.selects RX4 yX4_step yX4_step, Cond.code yX4_step cX4_step 2 (some .int), Cond.constant RX4 103 (65295), Cond.fieldLink RX4 23 "GameCoreModel" "cycles" "I", Cond.fieldLink RX4 104 "GameCoreModel" "isOn" "Z", Cond.fieldLink RX4 107 "GameCoreModel" "halted" "Z", Cond.fieldLink RX4 38 "GameCoreModel" "pc" "I", Cond.fieldLink RX4 197 "GameCoreModel" "waits" "Z", Cond.fieldLink RX4 110 "GameCoreModel" "wasWaiting" "Z", Cond.fieldLink RX4 203 "GameCoreModel" "isEi" "Z", Cond.methodLink RX4 213 yX4_dispatch, Cond.instanceMethod yX4_dispatch, Cond.selects RX4 yX4_dispatch yX4_dispatch, Cond.code yX4_dispatch cX4_dispatch 3 none, Cond.methodLink RX4 181 yX4_push, Cond.instanceMethod yX4_push, Cond.selects RX4 yX4_push yX4_push, Cond.code yX4_push cX4_push 2 none, Cond.fieldLink RX4 48 "GameCoreModel" "sp" "I", Cond.methodLink RX4 51 yX4_writes]
def wsL_law_r17 : List Cond := [Cond.instanceMethod yX4_writes, Cond.selects RX4 yX4_writes yX4_writes, Cond.code yX4_writes cX4_writes 3 none, Cond.constant RX4 30 (65284), Cond.fieldLink RX4 35 "GameCoreModel" "counter" "I", Cond.methodLink RX4 216 yX4_time, Cond.instanceMethod yX4_time, Cond.selects RX4 yX4_time yX4_time, Cond.code yX4_time cX4_time 4 none, Cond.constant RX4 206 (65287), Cond.constant RX4 207 (65285), Cond.constant RX4 208 (65286), Cond.fieldLink RX4 209 "GameCoreModel" "all" "I", Cond.constant RX4 212 (1073741823), Cond.methodLink RX4 219 yX4_isNone, Cond.static yX4_isNone, Cond.code yX4_isNone cX4_isNone 1 (some .boolean), Cond.methodLink RX4 222 yX4_instruction, Cond.instanceMethod yX4_instruction, Cond.selects RX4 yX4_instruction yX4_instruction, Cond.code yX4_instruction cX4_instruction 5 none, Cond.fieldLink RX4 81 "GameCoreModel" "bug" "Z", Cond.methodLink RX4 41 yX4_reads, Cond.instanceMethod yX4_reads]
def wsL_law_r18 : List Cond := [Cond.selects RX4 yX4_reads yX4_reads, Cond.code yX4_reads cX4_reads 2 (some .int), Cond.methodLink RX4 84 yX4_first, Cond.instanceMethod yX4_first, Cond.selects RX4 yX4_first yX4_first, Cond.code yX4_first cX4_first 5 none, Cond.methodLink RX4 113 yX4_jumpsNear, Cond.instanceMethod yX4_jumpsNear, Cond.selects RX4 yX4_jumpsNear yX4_jumpsNear, Cond.code yX4_jumpsNear cX4_jumpsNear 3 none, Cond.methodLink RX4 119 yX4_fetchWord, Cond.instanceMethod yX4_fetchWord, Cond.selects RX4 yX4_fetchWord yX4_fetchWord, Cond.code yX4_fetchWord cX4_fetchWord 2 (some .int), Cond.methodLink RX4 44 yX4_fetch, Cond.instanceMethod yX4_fetch, Cond.selects RX4 yX4_fetch yX4_fetch, Cond.code yX4_fetch cX4_fetch 2 (some .int), Cond.methodLink RX4 147 yX4_holds, Cond.instanceMethod yX4_holds, Cond.selects RX4 yX4_holds yX4_holds, Cond.code yX4_holds cX4_holds 2 (some .boolean), Cond.fieldLink RX4 54 "GameCoreModel" "zero" "Z", Cond.fieldLink RX4 64 "GameCoreModel" "carry" "Z"]
def wsL_law_r19 : List Cond := [Cond.methodLink RX4 116 yX4_addsPair, Cond.instanceMethod yX4_addsPair, Cond.selects RX4 yX4_addsPair yX4_addsPair, Cond.code yX4_addsPair cX4_addsPair 4 none, Cond.methodLink RX4 67 yX4_hl, Cond.instanceMethod yX4_hl, Cond.selects RX4 yX4_hl yX4_hl, Cond.code yX4_hl cX4_hl 1 (some .int), Cond.methodLink RX4 129 yX4_wide, Cond.instanceMethod yX4_wide, Cond.selects RX4 yX4_wide yX4_wide, Cond.code yX4_wide cX4_wide 2 (some .int), Cond.methodLink RX4 141 yX4_pair, Cond.instanceMethod yX4_pair, Cond.selects RX4 yX4_pair yX4_pair, Cond.code yX4_pair cX4_pair 2 (some .int), Cond.methodLink RX4 70 yX4_flagsAre, Cond.instanceMethod yX4_flagsAre, Cond.selects RX4 yX4_flagsAre yX4_flagsAre, Cond.code yX4_flagsAre cX4_flagsAre 5 none, Cond.fieldLink RX4 58 "GameCoreModel" "minus" "Z", Cond.fieldLink RX4 61 "GameCoreModel" "half" "Z", Cond.methodLink RX4 144 yX4_setPair, Cond.instanceMethod yX4_setPair]
def wsL_law_r20 : List Cond := [Cond.selects RX4 yX4_setPair yX4_setPair, Cond.code yX4_setPair cX4_setPair 3 none, Cond.methodLink RX4 122 yX4_setWide, Cond.instanceMethod yX4_setWide, Cond.selects RX4 yX4_setWide yX4_setWide, Cond.code yX4_setWide cX4_setWide 3 none, Cond.methodLink RX4 125 yX4_byPair, Cond.instanceMethod yX4_byPair, Cond.selects RX4 yX4_byPair yX4_byPair, Cond.code yX4_byPair cX4_byPair 4 none, Cond.methodLink RX4 91 yX4_operand, Cond.instanceMethod yX4_operand, Cond.selects RX4 yX4_operand yX4_operand, Cond.code yX4_operand cX4_operand 2 (some .int), Cond.methodLink RX4 132 yX4_increased, Cond.instanceMethod yX4_increased, Cond.selects RX4 yX4_increased yX4_increased, Cond.code yX4_increased cX4_increased 3 (some .int), Cond.methodLink RX4 94 yX4_setOperand, Cond.instanceMethod yX4_setOperand, Cond.selects RX4 yX4_setOperand yX4_setOperand, Cond.code yX4_setOperand cX4_setOperand 3 none, Cond.methodLink RX4 135 yX4_decreased, Cond.instanceMethod yX4_decreased]
def wsL_law_r21 : List Cond := [Cond.selects RX4 yX4_decreased yX4_decreased, Cond.code yX4_decreased cX4_decreased 3 (some .int), Cond.methodLink RX4 138 yX4_onA, Cond.instanceMethod yX4_onA, Cond.selects RX4 yX4_onA yX4_onA, Cond.code yX4_onA cX4_onA 2 none, Cond.methodLink RX4 151 yX4_turned, Cond.instanceMethod yX4_turned, Cond.selects RX4 yX4_turned yX4_turned, Cond.code yX4_turned cX4_turned 6 (some .int), Cond.methodLink RX4 154 yX4_adjusts, Cond.instanceMethod yX4_adjusts, Cond.selects RX4 yX4_adjusts yX4_adjusts, Cond.code yX4_adjusts cX4_adjusts 4 none, Cond.methodLink RX4 87 yX4_halts, Cond.instanceMethod yX4_halts, Cond.selects RX4 yX4_halts yX4_halts, Cond.code yX4_halts cX4_halts 2 none, Cond.methodLink RX4 97 yX4_sums, Cond.instanceMethod yX4_sums, Cond.selects RX4 yX4_sums yX4_sums, Cond.code yX4_sums cX4_sums 5 none, Cond.methodLink RX4 74 yX4_adds, Cond.instanceMethod yX4_adds]
def wsL_law_r22 : List Cond := [Cond.selects RX4 yX4_adds yX4_adds, Cond.code yX4_adds cX4_adds 5 none, Cond.methodLink RX4 77 yX4_less, Cond.instanceMethod yX4_less, Cond.selects RX4 yX4_less yX4_less, Cond.code yX4_less cX4_less 5 (some .int), Cond.methodLink RX4 100 yX4_last, Cond.instanceMethod yX4_last, Cond.selects RX4 yX4_last yX4_last, Cond.code yX4_last cX4_last 3 none, Cond.methodLink RX4 157 yX4_returnsIf, Cond.instanceMethod yX4_returnsIf, Cond.selects RX4 yX4_returnsIf yX4_returnsIf, Cond.code yX4_returnsIf cX4_returnsIf 2 none, Cond.methodLink RX4 187 yX4_pop, Cond.instanceMethod yX4_pop, Cond.selects RX4 yX4_pop yX4_pop, Cond.code yX4_pop cX4_pop 3 (some .int), Cond.methodLink RX4 160 yX4_high, Cond.instanceMethod yX4_high, Cond.selects RX4 yX4_high yX4_high, Cond.code yX4_high cX4_high 3 none, Cond.constant RX4 190 (65280), Cond.methodLink RX4 191 yX4_moved]
def wsL_law_r23 : List Cond := [Cond.instanceMethod yX4_moved, Cond.selects RX4 yX4_moved yX4_moved, Cond.code yX4_moved cX4_moved 3 (some .int), Cond.methodLink RX4 163 yX4_popsOr, Cond.instanceMethod yX4_popsOr, Cond.selects RX4 yX4_popsOr yX4_popsOr, Cond.code yX4_popsOr cX4_popsOr 3 none, Cond.methodLink RX4 194 yX4_setFlags, Cond.instanceMethod yX4_setFlags, Cond.selects RX4 yX4_setFlags yX4_setFlags, Cond.code yX4_setFlags cX4_setFlags 2 none, Cond.methodLink RX4 166 yX4_jumpsIf, Cond.instanceMethod yX4_jumpsIf, Cond.selects RX4 yX4_jumpsIf yX4_jumpsIf, Cond.code yX4_jumpsIf cX4_jumpsIf 3 none, Cond.methodLink RX4 169 yX4_far, Cond.instanceMethod yX4_far, Cond.selects RX4 yX4_far yX4_far, Cond.code yX4_far cX4_far 3 none, Cond.methodLink RX4 172 yX4_others, Cond.instanceMethod yX4_others, Cond.selects RX4 yX4_others yX4_others, Cond.code yX4_others cX4_others 2 none, Cond.methodLink RX4 200 yX4_extended]
def wsL_law_r24 : List Cond := [Cond.instanceMethod yX4_extended, Cond.selects RX4 yX4_extended yX4_extended, Cond.code yX4_extended cX4_extended 5 none, Cond.methodLink RX4 175 yX4_callsIf, Cond.instanceMethod yX4_callsIf, Cond.selects RX4 yX4_callsIf yX4_callsIf, Cond.code yX4_callsIf cX4_callsIf 3 none, Cond.methodLink RX4 184 yX4_calls, Cond.instanceMethod yX4_calls, Cond.selects RX4 yX4_calls yX4_calls, Cond.code yX4_calls cX4_calls 2 none, Cond.methodLink RX4 178 yX4_flags, Cond.instanceMethod yX4_flags, Cond.selects RX4 yX4_flags yX4_flags, Cond.code yX4_flags cX4_flags 1 (some .int), Cond.methodLink RL 33 yX3_run, Cond.instanceMethod yX3_run, Cond.selects RX3 yX3_run yX3_run, Cond.code yX3_run cX3_run 3 (some .int), Cond.methodLink RL 36 yX4_run, Cond.instanceMethod yX4_run, Cond.selects RX4 yX4_run yX4_run, Cond.code yX4_run cX4_run 3 (some .int), Cond.methodLink RX4 225 yX4_step]
def wsL_law_r25 : List Cond := [Cond.methodLink RL 37 yX3_request, Cond.instanceMethod yX3_request, Cond.selects RX3 yX3_request yX3_request, Cond.code yX3_request cX3_request 2 (some .boolean), Cond.methodLink RX3 45 yX0_raiseInterrupts, Cond.methodLink RL 41 yX4_request, Cond.instanceMethod yX4_request, Cond.selects RX4 yX4_request yX4_request, Cond.code yX4_request cX4_request 2 (some .boolean), Cond.methodLink RL 42 yX3_reg, Cond.instanceMethod yX3_reg, Cond.selects RX3 yX3_reg yX3_reg, Cond.code yX3_reg cX3_reg 2 (some .int), Cond.methodLink RL 45 yX4_reg, Cond.instanceMethod yX4_reg, Cond.selects RX4 yX4_reg yX4_reg, Cond.code yX4_reg cX4_reg 2 (some .int), Cond.methodLink RL 46 yX3_set, Cond.instanceMethod yX3_set, Cond.selects RX3 yX3_set yX3_set, Cond.code yX3_set cX3_set 3 (some .boolean), Cond.methodLink RL 49 yX4_set, Cond.instanceMethod yX4_set, Cond.selects RX4 yX4_set yX4_set]
def wsL_law_r26 : List Cond := [Cond.code yX4_set cX4_set 3 (some .boolean), Cond.methodLink RL 50 yX3_look, Cond.instanceMethod yX3_look, Cond.selects RX3 yX3_look yX3_look, Cond.code yX3_look cX3_look 2 (some .int), Cond.methodLink RL 53 yX4_look, Cond.instanceMethod yX4_look, Cond.selects RX4 yX4_look yX4_look, Cond.code yX4_look cX4_look 2 (some .int), Cond.methodLink RL 54 yX3_mcycles, Cond.instanceMethod yX3_mcycles, Cond.selects RX3 yX3_mcycles yX3_mcycles, Cond.code yX3_mcycles cX3_mcycles 1 (some .int), Cond.methodLink RL 57 yX4_mcycles, Cond.instanceMethod yX4_mcycles, Cond.selects RX4 yX4_mcycles yX4_mcycles, Cond.code yX4_mcycles cX4_mcycles 1 (some .int)]
def wsL_law : List Cond := (wsL_law_r1 ++ (wsL_law_r2 ++ (wsL_law_r3 ++ (wsL_law_r4 ++ (wsL_law_r5 ++ (wsL_law_r6 ++ (wsL_law_r7 ++ (wsL_law_r8 ++ (wsL_law_r9 ++ (wsL_law_r10 ++ (wsL_law_r11 ++ (wsL_law_r12 ++ (wsL_law_r13 ++ (wsL_law_r14 ++ (wsL_law_r15 ++ (wsL_law_r16 ++ (wsL_law_r17 ++ (wsL_law_r18 ++ (wsL_law_r19 ++ (wsL_law_r20 ++ (wsL_law_r21 ++ (wsL_law_r22 ++ (wsL_law_r23 ++ (wsL_law_r24 ++ (wsL_law_r25 ++ wsL_law_r26))))))))))))))))))))))))) ++ wsX30 ++ wsX40 ++ wsX00 ++ wsX20 ++ wsX10 ++ ([] : List Cond)
theorem inlX0 : ∀ w ∈ wsX00, w ∈ wsL_law := fun _ h => List.mem_append_left _ (List.mem_append_left _ (List.mem_append_left _ (List.mem_append_right _ h)))
theorem inlX1 : ∀ w ∈ wsX10, w ∈ wsL_law := fun _ h => List.mem_append_left _ (List.mem_append_right _ h)
theorem inlX2 : ∀ w ∈ wsX20, w ∈ wsL_law := fun _ h => List.mem_append_left _ (List.mem_append_left _ (List.mem_append_right _ h))
theorem inlX3 : ∀ w ∈ wsX30, w ∈ wsL_law := fun _ h => List.mem_append_left _ (List.mem_append_left _ (List.mem_append_left _ (List.mem_append_left _ (List.mem_append_left _ (List.mem_append_right _ h)))))
theorem inlX4 : ∀ w ∈ wsX40, w ∈ wsL_law := fun _ h => List.mem_append_left _ (List.mem_append_left _ (List.mem_append_left _ (List.mem_append_left _ (List.mem_append_right _ h))))
abbrev vwCl : List vw_C := [(RX0, TX0, 2), (RX1, TX1, 1), (RX2, TX2, 1), (RX3, TX3, 8), (RX4, TX4, 18)]
theorem inR_1 : ∀ w ∈ wsL_law_r1, w ∈ wsL_law := fun _ h => List.mem_append_left _ (List.mem_append_left _ (List.mem_append_left _ (List.mem_append_left _ (List.mem_append_left _ (List.mem_append_left _ (List.mem_append_left _ h))))))
theorem inR_2 : ∀ w ∈ wsL_law_r2, w ∈ wsL_law := fun _ h => List.mem_append_left _ (List.mem_append_left _ (List.mem_append_left _ (List.mem_append_left _ (List.mem_append_left _ (List.mem_append_left _ (List.mem_append_right _ (List.mem_append_left _ h)))))))
theorem inR_3 : ∀ w ∈ wsL_law_r3, w ∈ wsL_law := fun _ h => List.mem_append_left _ (List.mem_append_left _ (List.mem_append_left _ (List.mem_append_left _ (List.mem_append_left _ (List.mem_append_left _ (List.mem_append_right _ (List.mem_append_right _ (List.mem_append_left _ h))))))))
theorem inR_4 : ∀ w ∈ wsL_law_r4, w ∈ wsL_law := fun _ h => List.mem_append_left _ (List.mem_append_left _ (List.mem_append_left _ (List.mem_append_left _ (List.mem_append_left _ (List.mem_append_left _ (List.mem_append_right _ (List.mem_append_right _ (List.mem_append_right _ (List.mem_append_left _ h)))))))))
theorem inR_5 : ∀ w ∈ wsL_law_r5, w ∈ wsL_law := fun _ h => List.mem_append_left _ (List.mem_append_left _ (List.mem_append_left _ (List.mem_append_left _ (List.mem_append_left _ (List.mem_append_left _ (List.mem_append_right _ (List.mem_append_right _ (List.mem_append_right _ (List.mem_append_right _ (List.mem_append_left _ h))))))))))
theorem inR_6 : ∀ w ∈ wsL_law_r6, w ∈ wsL_law := fun _ h => List.mem_append_left _ (List.mem_append_left _ (List.mem_append_left _ (List.mem_append_left _ (List.mem_append_left _ (List.mem_append_left _ (List.mem_append_right _ (List.mem_append_right _ (List.mem_append_right _ (List.mem_append_right _ (List.mem_append_right _ (List.mem_append_left _ h)))))))))))
theorem inR_7 : ∀ w ∈ wsL_law_r7, w ∈ wsL_law := fun _ h => List.mem_append_left _ (List.mem_append_left _ (List.mem_append_left _ (List.mem_append_left _ (List.mem_append_left _ (List.mem_append_left _ (List.mem_append_right _ (List.mem_append_right _ (List.mem_append_right _ (List.mem_append_right _ (List.mem_append_right _ (List.mem_append_right _ (List.mem_append_left _ h))))))))))))
theorem inR_8 : ∀ w ∈ wsL_law_r8, w ∈ wsL_law := fun _ h => List.mem_append_left _ (List.mem_append_left _ (List.mem_append_left _ (List.mem_append_left _ (List.mem_append_left _ (List.mem_append_left _ (List.mem_append_right _ (List.mem_append_right _ (List.mem_append_right _ (List.mem_append_right _ (List.mem_append_right _ (List.mem_append_right _ (List.mem_append_right _ (List.mem_append_left _ h)))))))))))))
theorem inR_9 : ∀ w ∈ wsL_law_r9, w ∈ wsL_law := fun _ h => List.mem_append_left _ (List.mem_append_left _ (List.mem_append_left _ (List.mem_append_left _ (List.mem_append_left _ (List.mem_append_left _ (List.mem_append_right _ (List.mem_append_right _ (List.mem_append_right _ (List.mem_append_right _ (List.mem_append_right _ (List.mem_append_right _ (List.mem_append_right _ (List.mem_append_right _ (List.mem_append_left _ h))))))))))))))
theorem inR_10 : ∀ w ∈ wsL_law_r10, w ∈ wsL_law := fun _ h => List.mem_append_left _ (List.mem_append_left _ (List.mem_append_left _ (List.mem_append_left _ (List.mem_append_left _ (List.mem_append_left _ (List.mem_append_right _ (List.mem_append_right _ (List.mem_append_right _ (List.mem_append_right _ (List.mem_append_right _ (List.mem_append_right _ (List.mem_append_right _ (List.mem_append_right _ (List.mem_append_right _ (List.mem_append_left _ h)))))))))))))))
theorem inR_11 : ∀ w ∈ wsL_law_r11, w ∈ wsL_law := fun _ h => List.mem_append_left _ (List.mem_append_left _ (List.mem_append_left _ (List.mem_append_left _ (List.mem_append_left _ (List.mem_append_left _ (List.mem_append_right _ (List.mem_append_right _ (List.mem_append_right _ (List.mem_append_right _ (List.mem_append_right _ (List.mem_append_right _ (List.mem_append_right _ (List.mem_append_right _ (List.mem_append_right _ (List.mem_append_right _ (List.mem_append_left _ h))))))))))))))))
theorem inR_12 : ∀ w ∈ wsL_law_r12, w ∈ wsL_law := fun _ h => List.mem_append_left _ (List.mem_append_left _ (List.mem_append_left _ (List.mem_append_left _ (List.mem_append_left _ (List.mem_append_left _ (List.mem_append_right _ (List.mem_append_right _ (List.mem_append_right _ (List.mem_append_right _ (List.mem_append_right _ (List.mem_append_right _ (List.mem_append_right _ (List.mem_append_right _ (List.mem_append_right _ (List.mem_append_right _ (List.mem_append_right _ (List.mem_append_left _ h)))))))))))))))))
theorem inR_13 : ∀ w ∈ wsL_law_r13, w ∈ wsL_law := fun _ h => List.mem_append_left _ (List.mem_append_left _ (List.mem_append_left _ (List.mem_append_left _ (List.mem_append_left _ (List.mem_append_left _ (List.mem_append_right _ (List.mem_append_right _ (List.mem_append_right _ (List.mem_append_right _ (List.mem_append_right _ (List.mem_append_right _ (List.mem_append_right _ (List.mem_append_right _ (List.mem_append_right _ (List.mem_append_right _ (List.mem_append_right _ (List.mem_append_right _ (List.mem_append_left _ h))))))))))))))))))
theorem inR_14 : ∀ w ∈ wsL_law_r14, w ∈ wsL_law := fun _ h => List.mem_append_left _ (List.mem_append_left _ (List.mem_append_left _ (List.mem_append_left _ (List.mem_append_left _ (List.mem_append_left _ (List.mem_append_right _ (List.mem_append_right _ (List.mem_append_right _ (List.mem_append_right _ (List.mem_append_right _ (List.mem_append_right _ (List.mem_append_right _ (List.mem_append_right _ (List.mem_append_right _ (List.mem_append_right _ (List.mem_append_right _ (List.mem_append_right _ (List.mem_append_right _ (List.mem_append_left _ h)))))))))))))))))))
theorem inR_15 : ∀ w ∈ wsL_law_r15, w ∈ wsL_law := fun _ h => List.mem_append_left _ (List.mem_append_left _ (List.mem_append_left _ (List.mem_append_left _ (List.mem_append_left _ (List.mem_append_left _ (List.mem_append_right _ (List.mem_append_right _ (List.mem_append_right _ (List.mem_append_right _ (List.mem_append_right _ (List.mem_append_right _ (List.mem_append_right _ (List.mem_append_right _ (List.mem_append_right _ (List.mem_append_right _ (List.mem_append_right _ (List.mem_append_right _ (List.mem_append_right _ (List.mem_append_right _ (List.mem_append_left _ h))))))))))))))))))))
theorem inR_16 : ∀ w ∈ wsL_law_r16, w ∈ wsL_law := fun _ h => List.mem_append_left _ (List.mem_append_left _ (List.mem_append_left _ (List.mem_append_left _ (List.mem_append_left _ (List.mem_append_left _ (List.mem_append_right _ (List.mem_append_right _ (List.mem_append_right _ (List.mem_append_right _ (List.mem_append_right _ (List.mem_append_right _ (List.mem_append_right _ (List.mem_append_right _ (List.mem_append_right _ (List.mem_append_right _ (List.mem_append_right _ (List.mem_append_right _ (List.mem_append_right _ (List.mem_append_right _ (List.mem_append_right _ (List.mem_append_left _ h)))))))))))))))))))))
theorem inR_17 : ∀ w ∈ wsL_law_r17, w ∈ wsL_law := fun _ h => List.mem_append_left _ (List.mem_append_left _ (List.mem_append_left _ (List.mem_append_left _ (List.mem_append_left _ (List.mem_append_left _ (List.mem_append_right _ (List.mem_append_right _ (List.mem_append_right _ (List.mem_append_right _ (List.mem_append_right _ (List.mem_append_right _ (List.mem_append_right _ (List.mem_append_right _ (List.mem_append_right _ (List.mem_append_right _ (List.mem_append_right _ (List.mem_append_right _ (List.mem_append_right _ (List.mem_append_right _ (List.mem_append_right _ (List.mem_append_right _ (List.mem_append_left _ h))))))))))))))))))))))
theorem inR_18 : ∀ w ∈ wsL_law_r18, w ∈ wsL_law := fun _ h => List.mem_append_left _ (List.mem_append_left _ (List.mem_append_left _ (List.mem_append_left _ (List.mem_append_left _ (List.mem_append_left _ (List.mem_append_right _ (List.mem_append_right _ (List.mem_append_right _ (List.mem_append_right _ (List.mem_append_right _ (List.mem_append_right _ (List.mem_append_right _ (List.mem_append_right _ (List.mem_append_right _ (List.mem_append_right _ (List.mem_append_right _ (List.mem_append_right _ (List.mem_append_right _ (List.mem_append_right _ (List.mem_append_right _ (List.mem_append_right _ (List.mem_append_right _ (List.mem_append_left _ h)))))))))))))))))))))))
theorem inR_19 : ∀ w ∈ wsL_law_r19, w ∈ wsL_law := fun _ h => List.mem_append_left _ (List.mem_append_left _ (List.mem_append_left _ (List.mem_append_left _ (List.mem_append_left _ (List.mem_append_left _ (List.mem_append_right _ (List.mem_append_right _ (List.mem_append_right _ (List.mem_append_right _ (List.mem_append_right _ (List.mem_append_right _ (List.mem_append_right _ (List.mem_append_right _ (List.mem_append_right _ (List.mem_append_right _ (List.mem_append_right _ (List.mem_append_right _ (List.mem_append_right _ (List.mem_append_right _ (List.mem_append_right _ (List.mem_append_right _ (List.mem_append_right _ (List.mem_append_right _ (List.mem_append_left _ h))))))))))))))))))))))))
theorem inR_20 : ∀ w ∈ wsL_law_r20, w ∈ wsL_law := fun _ h => List.mem_append_left _ (List.mem_append_left _ (List.mem_append_left _ (List.mem_append_left _ (List.mem_append_left _ (List.mem_append_left _ (List.mem_append_right _ (List.mem_append_right _ (List.mem_append_right _ (List.mem_append_right _ (List.mem_append_right _ (List.mem_append_right _ (List.mem_append_right _ (List.mem_append_right _ (List.mem_append_right _ (List.mem_append_right _ (List.mem_append_right _ (List.mem_append_right _ (List.mem_append_right _ (List.mem_append_right _ (List.mem_append_right _ (List.mem_append_right _ (List.mem_append_right _ (List.mem_append_right _ (List.mem_append_right _ (List.mem_append_left _ h)))))))))))))))))))))))))
theorem inR_21 : ∀ w ∈ wsL_law_r21, w ∈ wsL_law := fun _ h => List.mem_append_left _ (List.mem_append_left _ (List.mem_append_left _ (List.mem_append_left _ (List.mem_append_left _ (List.mem_append_left _ (List.mem_append_right _ (List.mem_append_right _ (List.mem_append_right _ (List.mem_append_right _ (List.mem_append_right _ (List.mem_append_right _ (List.mem_append_right _ (List.mem_append_right _ (List.mem_append_right _ (List.mem_append_right _ (List.mem_append_right _ (List.mem_append_right _ (List.mem_append_right _ (List.mem_append_right _ (List.mem_append_right _ (List.mem_append_right _ (List.mem_append_right _ (List.mem_append_right _ (List.mem_append_right _ (List.mem_append_right _ (List.mem_append_left _ h))))))))))))))))))))))))))
theorem inR_22 : ∀ w ∈ wsL_law_r22, w ∈ wsL_law := fun _ h => List.mem_append_left _ (List.mem_append_left _ (List.mem_append_left _ (List.mem_append_left _ (List.mem_append_left _ (List.mem_append_left _ (List.mem_append_right _ (List.mem_append_right _ (List.mem_append_right _ (List.mem_append_right _ (List.mem_append_right _ (List.mem_append_right _ (List.mem_append_right _ (List.mem_append_right _ (List.mem_append_right _ (List.mem_append_right _ (List.mem_append_right _ (List.mem_append_right _ (List.mem_append_right _ (List.mem_append_right _ (List.mem_append_right _ (List.mem_append_right _ (List.mem_append_right _ (List.mem_append_right _ (List.mem_append_right _ (List.mem_append_right _ (List.mem_append_right _ (List.mem_append_left _ h)))))))))))))))))))))))))))
theorem inR_23 : ∀ w ∈ wsL_law_r23, w ∈ wsL_law := fun _ h => List.mem_append_left _ (List.mem_append_left _ (List.mem_append_left _ (List.mem_append_left _ (List.mem_append_left _ (List.mem_append_left _ (List.mem_append_right _ (List.mem_append_right _ (List.mem_append_right _ (List.mem_append_right _ (List.mem_append_right _ (List.mem_append_right _ (List.mem_append_right _ (List.mem_append_right _ (List.mem_append_right _ (List.mem_append_right _ (List.mem_append_right _ (List.mem_append_right _ (List.mem_append_right _ (List.mem_append_right _ (List.mem_append_right _ (List.mem_append_right _ (List.mem_append_right _ (List.mem_append_right _ (List.mem_append_right _ (List.mem_append_right _ (List.mem_append_right _ (List.mem_append_right _ (List.mem_append_left _ h))))))))))))))))))))))))))))
theorem inR_24 : ∀ w ∈ wsL_law_r24, w ∈ wsL_law := fun _ h => List.mem_append_left _ (List.mem_append_left _ (List.mem_append_left _ (List.mem_append_left _ (List.mem_append_left _ (List.mem_append_left _ (List.mem_append_right _ (List.mem_append_right _ (List.mem_append_right _ (List.mem_append_right _ (List.mem_append_right _ (List.mem_append_right _ (List.mem_append_right _ (List.mem_append_right _ (List.mem_append_right _ (List.mem_append_right _ (List.mem_append_right _ (List.mem_append_right _ (List.mem_append_right _ (List.mem_append_right _ (List.mem_append_right _ (List.mem_append_right _ (List.mem_append_right _ (List.mem_append_right _ (List.mem_append_right _ (List.mem_append_right _ (List.mem_append_right _ (List.mem_append_right _ (List.mem_append_right _ (List.mem_append_left _ h)))))))))))))))))))))))))))))
theorem inR_25 : ∀ w ∈ wsL_law_r25, w ∈ wsL_law := fun _ h => List.mem_append_left _ (List.mem_append_left _ (List.mem_append_left _ (List.mem_append_left _ (List.mem_append_left _ (List.mem_append_left _ (List.mem_append_right _ (List.mem_append_right _ (List.mem_append_right _ (List.mem_append_right _ (List.mem_append_right _ (List.mem_append_right _ (List.mem_append_right _ (List.mem_append_right _ (List.mem_append_right _ (List.mem_append_right _ (List.mem_append_right _ (List.mem_append_right _ (List.mem_append_right _ (List.mem_append_right _ (List.mem_append_right _ (List.mem_append_right _ (List.mem_append_right _ (List.mem_append_right _ (List.mem_append_right _ (List.mem_append_right _ (List.mem_append_right _ (List.mem_append_right _ (List.mem_append_right _ (List.mem_append_right _ (List.mem_append_left _ h))))))))))))))))))))))))))))))
theorem inR_26 : ∀ w ∈ wsL_law_r26, w ∈ wsL_law := fun _ h => List.mem_append_left _ (List.mem_append_left _ (List.mem_append_left _ (List.mem_append_left _ (List.mem_append_left _ (List.mem_append_left _ (List.mem_append_right _ (List.mem_append_right _ (List.mem_append_right _ (List.mem_append_right _ (List.mem_append_right _ (List.mem_append_right _ (List.mem_append_right _ (List.mem_append_right _ (List.mem_append_right _ (List.mem_append_right _ (List.mem_append_right _ (List.mem_append_right _ (List.mem_append_right _ (List.mem_append_right _ (List.mem_append_right _ (List.mem_append_right _ (List.mem_append_right _ (List.mem_append_right _ (List.mem_append_right _ (List.mem_append_right _ (List.mem_append_right _ (List.mem_append_right _ (List.mem_append_right _ (List.mem_append_right _ (List.mem_append_right _ (h)))))))))))))))))))))))))))))))
theorem mw_0 : Cond.classLink RL 7 RX3 ∈ wsL_law := inR_1 _ (List.mem_of_getElem? (i := 0) rfl)
theorem mw_1 : Cond.instantiable RX3 8 ∈ wsL_law := inR_1 _ (List.mem_of_getElem? (i := 1) rfl)
theorem mw_2 : Cond.initialized RX3 ∈ wsL_law := inR_1 _ (List.mem_of_getElem? (i := 2) rfl)
theorem mw_3 : Cond.classLink RL 10 RX4 ∈ wsL_law := inR_1 _ (List.mem_of_getElem? (i := 3) rfl)
theorem mw_4 : Cond.instantiable RX4 18 ∈ wsL_law := inR_1 _ (List.mem_of_getElem? (i := 4) rfl)
theorem mw_5 : Cond.initialized RX4 ∈ wsL_law := inR_1 _ (List.mem_of_getElem? (i := 5) rfl)
theorem mw_6 : Cond.methodLink RL 9 yX3_init ∈ wsL_law := inR_1 _ (List.mem_of_getElem? (i := 6) rfl)
theorem mw_7 : Cond.instanceMethod yX3_init ∈ wsL_law := inR_1 _ (List.mem_of_getElem? (i := 7) rfl)
theorem mw_8 : Cond.code yX3_init cX3_init 1 none ∈ wsL_law := inR_1 _ (List.mem_of_getElem? (i := 8) rfl)
theorem mw_9 : Cond.methodLink RX3 1 objectInit ∈ wsL_law := inR_1 _ (List.mem_of_getElem? (i := 9) rfl)
theorem mw_10 : Cond.instanceMethod objectInit ∈ wsL_law := inR_1 _ (List.mem_of_getElem? (i := 10) rfl)
theorem mw_11 : Cond.code objectInit ⟨#[0xb1]⟩ 1 none ∈ wsL_law := inR_1 _ (List.mem_of_getElem? (i := 11) rfl)
theorem mw_12 : Cond.classLink RX3 7 RX0 ∈ wsL_law := inR_1 _ (List.mem_of_getElem? (i := 12) rfl)
theorem mw_13 : Cond.instantiable RX0 2 ∈ wsL_law := inR_1 _ (List.mem_of_getElem? (i := 13) rfl)
theorem mw_14 : Cond.initialized RX0 ∈ wsL_law := inR_1 _ (List.mem_of_getElem? (i := 14) rfl)
theorem mw_15 : Cond.fieldLink RX3 10 "GameCore" "memory" "LGameCore$Memory;" ∈ wsL_law := inR_1 _ (List.mem_of_getElem? (i := 15) rfl)
theorem mw_16 : Cond.classLink RX3 16 RX2 ∈ wsL_law := inR_1 _ (List.mem_of_getElem? (i := 16) rfl)
theorem mw_17 : Cond.instantiable RX2 1 ∈ wsL_law := inR_1 _ (List.mem_of_getElem? (i := 17) rfl)
theorem mw_18 : Cond.initialized RX2 ∈ wsL_law := inR_1 _ (List.mem_of_getElem? (i := 18) rfl)
theorem mw_19 : Cond.fieldLink RX3 19 "GameCore" "sums" "LGameCore$Sums;" ∈ wsL_law := inR_1 _ (List.mem_of_getElem? (i := 19) rfl)
theorem mw_20 : Cond.fieldLink RX3 27 "GameCore" "registers" "LGameCore$Registers;" ∈ wsL_law := inR_1 _ (List.mem_of_getElem? (i := 20) rfl)
theorem mw_21 : Cond.instanceMethod yX0_init ∈ wsL_law := inR_1 _ (List.mem_of_getElem? (i := 21) rfl)
theorem mw_22 : Cond.code yX0_init cX0_init 1 none ∈ wsL_law := inR_1 _ (List.mem_of_getElem? (i := 22) rfl)
theorem mw_23 : Cond.methodLink RX0 3 objectInit ∈ wsL_law := inR_1 _ (List.mem_of_getElem? (i := 23) rfl)
theorem mw_24 : Cond.constant RX0 9 (65536) ∈ wsL_law := inR_2 _ (List.mem_of_getElem? (i := 0) rfl)
theorem mw_25 : Cond.arrayClass .byte ∈ wsL_law := inR_2 _ (List.mem_of_getElem? (i := 1) rfl)
theorem mw_26 : Cond.fieldLink RX0 10 "GameCore$Memory" "bytes" "[B" ∈ wsL_law := inR_2 _ (List.mem_of_getElem? (i := 2) rfl)
theorem mw_27 : Cond.instanceMethod yX2_init ∈ wsL_law := inR_2 _ (List.mem_of_getElem? (i := 3) rfl)
theorem mw_28 : Cond.code yX2_init cX2_init 1 none ∈ wsL_law := inR_2 _ (List.mem_of_getElem? (i := 4) rfl)
theorem mw_29 : Cond.methodLink RX2 3 objectInit ∈ wsL_law := inR_2 _ (List.mem_of_getElem? (i := 5) rfl)
theorem mw_30 : Cond.classLink RX2 9 RX1 ∈ wsL_law := inR_2 _ (List.mem_of_getElem? (i := 6) rfl)
theorem mw_31 : Cond.instantiable RX1 1 ∈ wsL_law := inR_2 _ (List.mem_of_getElem? (i := 7) rfl)
theorem mw_32 : Cond.initialized RX1 ∈ wsL_law := inR_2 _ (List.mem_of_getElem? (i := 8) rfl)
theorem mw_33 : Cond.fieldLink RX2 12 "GameCore$Sums" "registers" "LGameCore$Registers;" ∈ wsL_law := inR_2 _ (List.mem_of_getElem? (i := 9) rfl)
theorem mw_34 : Cond.instanceMethod yX1_init ∈ wsL_law := inR_2 _ (List.mem_of_getElem? (i := 10) rfl)
theorem mw_35 : Cond.code yX1_init cX1_init 1 none ∈ wsL_law := inR_2 _ (List.mem_of_getElem? (i := 11) rfl)
theorem mw_36 : Cond.methodLink RX1 3 objectInit ∈ wsL_law := inR_2 _ (List.mem_of_getElem? (i := 12) rfl)
theorem mw_37 : Cond.arrayClass .int ∈ wsL_law := inR_2 _ (List.mem_of_getElem? (i := 13) rfl)
theorem mw_38 : Cond.fieldLink RX1 9 "GameCore$Registers" "words" "[I" ∈ wsL_law := inR_2 _ (List.mem_of_getElem? (i := 14) rfl)
theorem mw_39 : Cond.methodLink RL 12 yX4_init ∈ wsL_law := inR_2 _ (List.mem_of_getElem? (i := 15) rfl)
theorem mw_40 : Cond.instanceMethod yX4_init ∈ wsL_law := inR_2 _ (List.mem_of_getElem? (i := 16) rfl)
theorem mw_41 : Cond.code yX4_init cX4_init 1 none ∈ wsL_law := inR_2 _ (List.mem_of_getElem? (i := 17) rfl)
theorem mw_42 : Cond.methodLink RX4 1 objectInit ∈ wsL_law := inR_2 _ (List.mem_of_getElem? (i := 18) rfl)
theorem mw_43 : Cond.constant RX4 7 (65536) ∈ wsL_law := inR_2 _ (List.mem_of_getElem? (i := 19) rfl)
theorem mw_44 : Cond.fieldLink RX4 8 "GameCoreModel" "memory" "[B" ∈ wsL_law := inR_2 _ (List.mem_of_getElem? (i := 20) rfl)
theorem mw_45 : Cond.fieldLink RX4 14 "GameCoreModel" "bytes" "[I" ∈ wsL_law := inR_2 _ (List.mem_of_getElem? (i := 21) rfl)
theorem mw_46 : Cond.methodLink RL 13 yX3_poke ∈ wsL_law := inR_2 _ (List.mem_of_getElem? (i := 22) rfl)
theorem mw_47 : Cond.instanceMethod yX3_poke ∈ wsL_law := inR_2 _ (List.mem_of_getElem? (i := 23) rfl)
theorem mw_48 : Cond.selects RX3 yX3_poke yX3_poke ∈ wsL_law := inR_3 _ (List.mem_of_getElem? (i := 0) rfl)
theorem mw_49 : Cond.code yX3_poke cX3_poke 3 (some .boolean) ∈ wsL_law := inR_3 _ (List.mem_of_getElem? (i := 1) rfl)
theorem mw_50 : Cond.constant RX3 28 (65535) ∈ wsL_law := inR_3 _ (List.mem_of_getElem? (i := 2) rfl)
theorem mw_51 : Cond.methodLink RX3 29 yX0_store ∈ wsL_law := inR_3 _ (List.mem_of_getElem? (i := 3) rfl)
theorem mw_52 : Cond.instanceMethod yX0_store ∈ wsL_law := inR_3 _ (List.mem_of_getElem? (i := 4) rfl)
theorem mw_53 : Cond.selects RX0 yX0_store yX0_store ∈ wsL_law := inR_3 _ (List.mem_of_getElem? (i := 5) rfl)
theorem mw_54 : Cond.code yX0_store cX0_store 3 none ∈ wsL_law := inR_3 _ (List.mem_of_getElem? (i := 6) rfl)
theorem mw_55 : Cond.constant RX0 16 (65535) ∈ wsL_law := inR_3 _ (List.mem_of_getElem? (i := 7) rfl)
theorem mw_56 : Cond.methodLink RL 17 yX4_poke ∈ wsL_law := inR_3 _ (List.mem_of_getElem? (i := 8) rfl)
theorem mw_57 : Cond.instanceMethod yX4_poke ∈ wsL_law := inR_3 _ (List.mem_of_getElem? (i := 9) rfl)
theorem mw_58 : Cond.selects RX4 yX4_poke yX4_poke ∈ wsL_law := inR_3 _ (List.mem_of_getElem? (i := 10) rfl)
theorem mw_59 : Cond.code yX4_poke cX4_poke 3 (some .boolean) ∈ wsL_law := inR_3 _ (List.mem_of_getElem? (i := 11) rfl)
theorem mw_60 : Cond.fieldLink RX4 18 "GameCoreModel" "thrown" "I" ∈ wsL_law := inR_3 _ (List.mem_of_getElem? (i := 12) rfl)
theorem mw_61 : Cond.constant RX4 22 (65535) ∈ wsL_law := inR_3 _ (List.mem_of_getElem? (i := 13) rfl)
theorem mw_62 : Cond.methodLink RX4 31 yX4_puts ∈ wsL_law := inR_3 _ (List.mem_of_getElem? (i := 14) rfl)
theorem mw_63 : Cond.instanceMethod yX4_puts ∈ wsL_law := inR_3 _ (List.mem_of_getElem? (i := 15) rfl)
theorem mw_64 : Cond.selects RX4 yX4_puts yX4_puts ∈ wsL_law := inR_3 _ (List.mem_of_getElem? (i := 16) rfl)
theorem mw_65 : Cond.code yX4_puts cX4_puts 3 none ∈ wsL_law := inR_3 _ (List.mem_of_getElem? (i := 17) rfl)
theorem mw_66 : Cond.methodLink RL 18 yX3_feed ∈ wsL_law := inR_3 _ (List.mem_of_getElem? (i := 18) rfl)
theorem mw_67 : Cond.instanceMethod yX3_feed ∈ wsL_law := inR_3 _ (List.mem_of_getElem? (i := 19) rfl)
theorem mw_68 : Cond.selects RX3 yX3_feed yX3_feed ∈ wsL_law := inR_3 _ (List.mem_of_getElem? (i := 20) rfl)
theorem mw_69 : Cond.code yX3_feed cX3_feed 6 (some .boolean) ∈ wsL_law := inR_3 _ (List.mem_of_getElem? (i := 21) rfl)
theorem mw_70 : Cond.constant RX3 33 (65520) ∈ wsL_law := inR_3 _ (List.mem_of_getElem? (i := 22) rfl)
theorem mw_71 : Cond.methodLink RX3 34 yX0_storeNumber ∈ wsL_law := inR_3 _ (List.mem_of_getElem? (i := 23) rfl)
theorem mw_72 : Cond.instanceMethod yX0_storeNumber ∈ wsL_law := inR_4 _ (List.mem_of_getElem? (i := 0) rfl)
theorem mw_73 : Cond.selects RX0 yX0_storeNumber yX0_storeNumber ∈ wsL_law := inR_4 _ (List.mem_of_getElem? (i := 1) rfl)
theorem mw_74 : Cond.code yX0_storeNumber cX0_storeNumber 4 none ∈ wsL_law := inR_4 _ (List.mem_of_getElem? (i := 2) rfl)
theorem mw_75 : Cond.methodLink RX0 17 yX0_store ∈ wsL_law := inR_4 _ (List.mem_of_getElem? (i := 3) rfl)
theorem mw_76 : Cond.methodLink RL 22 yX4_feed ∈ wsL_law := inR_4 _ (List.mem_of_getElem? (i := 4) rfl)
theorem mw_77 : Cond.instanceMethod yX4_feed ∈ wsL_law := inR_4 _ (List.mem_of_getElem? (i := 5) rfl)
theorem mw_78 : Cond.selects RX4 yX4_feed yX4_feed ∈ wsL_law := inR_4 _ (List.mem_of_getElem? (i := 6) rfl)
theorem mw_79 : Cond.code yX4_feed cX4_feed 8 (some .boolean) ∈ wsL_law := inR_4 _ (List.mem_of_getElem? (i := 7) rfl)
theorem mw_80 : Cond.constant RX4 228 (65520) ∈ wsL_law := inR_4 _ (List.mem_of_getElem? (i := 8) rfl)
theorem mw_81 : Cond.methodLink RL 23 yX3_peek ∈ wsL_law := inR_4 _ (List.mem_of_getElem? (i := 9) rfl)
theorem mw_82 : Cond.instanceMethod yX3_peek ∈ wsL_law := inR_4 _ (List.mem_of_getElem? (i := 10) rfl)
theorem mw_83 : Cond.selects RX3 yX3_peek yX3_peek ∈ wsL_law := inR_4 _ (List.mem_of_getElem? (i := 11) rfl)
theorem mw_84 : Cond.code yX3_peek cX3_peek 2 (some .int) ∈ wsL_law := inR_4 _ (List.mem_of_getElem? (i := 12) rfl)
theorem mw_85 : Cond.methodLink RX3 37 yX0_at ∈ wsL_law := inR_4 _ (List.mem_of_getElem? (i := 13) rfl)
theorem mw_86 : Cond.instanceMethod yX0_at ∈ wsL_law := inR_4 _ (List.mem_of_getElem? (i := 14) rfl)
theorem mw_87 : Cond.selects RX0 yX0_at yX0_at ∈ wsL_law := inR_4 _ (List.mem_of_getElem? (i := 15) rfl)
theorem mw_88 : Cond.code yX0_at cX0_at 2 (some .int) ∈ wsL_law := inR_4 _ (List.mem_of_getElem? (i := 16) rfl)
theorem mw_89 : Cond.methodLink RL 27 yX4_peek ∈ wsL_law := inR_4 _ (List.mem_of_getElem? (i := 17) rfl)
theorem mw_90 : Cond.instanceMethod yX4_peek ∈ wsL_law := inR_4 _ (List.mem_of_getElem? (i := 18) rfl)
theorem mw_91 : Cond.selects RX4 yX4_peek yX4_peek ∈ wsL_law := inR_4 _ (List.mem_of_getElem? (i := 19) rfl)
theorem mw_92 : Cond.code yX4_peek cX4_peek 2 (some .int) ∈ wsL_law := inR_4 _ (List.mem_of_getElem? (i := 20) rfl)
theorem mw_93 : Cond.methodLink RX4 26 yX4_at ∈ wsL_law := inR_4 _ (List.mem_of_getElem? (i := 21) rfl)
theorem mw_94 : Cond.instanceMethod yX4_at ∈ wsL_law := inR_4 _ (List.mem_of_getElem? (i := 22) rfl)
theorem mw_95 : Cond.selects RX4 yX4_at yX4_at ∈ wsL_law := inR_4 _ (List.mem_of_getElem? (i := 23) rfl)
theorem mw_96 : Cond.code yX4_at cX4_at 2 (some .int) ∈ wsL_law := inR_5 _ (List.mem_of_getElem? (i := 0) rfl)
theorem mw_97 : Cond.methodLink RL 28 yX3_step ∈ wsL_law := inR_5 _ (List.mem_of_getElem? (i := 1) rfl)
theorem mw_98 : Cond.instanceMethod yX3_step ∈ wsL_law := inR_5 _ (List.mem_of_getElem? (i := 2) rfl)
theorem mw_99 : Cond.selects RX3 yX3_step yX3_step ∈ wsL_law := inR_5 _ (List.mem_of_getElem? (i := 3) rfl)
theorem mw_100 : Cond.code yX3_step cX3_step 1 (some .int) ∈ wsL_law := inR_5 _ (List.mem_of_getElem? (i := 4) rfl)
theorem mw_101 : Cond.methodLink RX3 41 yX3_takeStep ∈ wsL_law := inR_5 _ (List.mem_of_getElem? (i := 5) rfl)
theorem mw_102 : Cond.instanceMethod yX3_takeStep ∈ wsL_law := inR_5 _ (List.mem_of_getElem? (i := 6) rfl)
theorem mw_103 : Cond.selects RX3 yX3_takeStep yX3_takeStep ∈ wsL_law := inR_5 _ (List.mem_of_getElem? (i := 7) rfl)
theorem mw_104 : Cond.code yX3_takeStep cX3_takeStep 6 (some .int) ∈ wsL_law := inR_5 _ (List.mem_of_getElem? (i := 8) rfl)
theorem mw_105 : Cond.fieldLink RX3 58 "GameCore" "ime" "Z" ∈ wsL_law := inR_5 _ (List.mem_of_getElem? (i := 9) rfl)
theorem mw_106 : Cond.fieldLink RX3 65 "GameCore" "halted" "Z" ∈ wsL_law := inR_5 _ (List.mem_of_getElem? (i := 10) rfl)
theorem mw_107 : Cond.fieldLink RX3 87 "GameCore" "BASE_CYCLES" "[I" ∈ wsL_law := inR_5 _ (List.mem_of_getElem? (i := 11) rfl)
theorem mw_108 : Cond.fieldLink RX3 62 "GameCore" "eiWaits" "Z" ∈ wsL_law := inR_5 _ (List.mem_of_getElem? (i := 12) rfl)
theorem mw_109 : Cond.methodLink RX3 78 yX0_pending ∈ wsL_law := inR_5 _ (List.mem_of_getElem? (i := 13) rfl)
theorem mw_110 : Cond.instanceMethod yX0_pending ∈ wsL_law := inR_5 _ (List.mem_of_getElem? (i := 14) rfl)
theorem mw_111 : Cond.selects RX0 yX0_pending yX0_pending ∈ wsL_law := inR_5 _ (List.mem_of_getElem? (i := 15) rfl)
theorem mw_112 : Cond.code yX0_pending cX0_pending 1 (some .int) ∈ wsL_law := inR_5 _ (List.mem_of_getElem? (i := 16) rfl)
theorem mw_113 : Cond.constant RX0 30 (65295) ∈ wsL_law := inR_5 _ (List.mem_of_getElem? (i := 17) rfl)
theorem mw_114 : Cond.methodLink RX0 26 yX0_at ∈ wsL_law := inR_5 _ (List.mem_of_getElem? (i := 18) rfl)
theorem mw_115 : Cond.methodLink RX3 81 yX3_dispatch ∈ wsL_law := inR_5 _ (List.mem_of_getElem? (i := 19) rfl)
theorem mw_116 : Cond.instanceMethod yX3_dispatch ∈ wsL_law := inR_5 _ (List.mem_of_getElem? (i := 20) rfl)
theorem mw_117 : Cond.selects RX3 yX3_dispatch yX3_dispatch ∈ wsL_law := inR_5 _ (List.mem_of_getElem? (i := 21) rfl)
theorem mw_118 : Cond.code yX3_dispatch cX3_dispatch 3 none ∈ wsL_law := inR_5 _ (List.mem_of_getElem? (i := 22) rfl)
theorem mw_119 : Cond.methodLink RX3 97 yX0_clearInterrupt ∈ wsL_law := inR_5 _ (List.mem_of_getElem? (i := 23) rfl)
theorem mw_120 : Cond.instanceMethod yX0_clearInterrupt ∈ wsL_law := inR_6 _ (List.mem_of_getElem? (i := 0) rfl)
theorem mw_121 : Cond.selects RX0 yX0_clearInterrupt yX0_clearInterrupt ∈ wsL_law := inR_6 _ (List.mem_of_getElem? (i := 1) rfl)
theorem mw_122 : Cond.code yX0_clearInterrupt cX0_clearInterrupt 2 none ∈ wsL_law := inR_6 _ (List.mem_of_getElem? (i := 2) rfl)
theorem mw_123 : Cond.methodLink RX3 49 yX1_word ∈ wsL_law := inR_6 _ (List.mem_of_getElem? (i := 3) rfl)
theorem mw_124 : Cond.instanceMethod yX1_word ∈ wsL_law := inR_6 _ (List.mem_of_getElem? (i := 4) rfl)
theorem mw_125 : Cond.selects RX1 yX1_word yX1_word ∈ wsL_law := inR_6 _ (List.mem_of_getElem? (i := 5) rfl)
theorem mw_126 : Cond.code yX1_word cX1_word 2 (some .int) ∈ wsL_law := inR_6 _ (List.mem_of_getElem? (i := 6) rfl)
theorem mw_127 : Cond.methodLink RX3 100 yX3_push ∈ wsL_law := inR_6 _ (List.mem_of_getElem? (i := 7) rfl)
theorem mw_128 : Cond.instanceMethod yX3_push ∈ wsL_law := inR_6 _ (List.mem_of_getElem? (i := 8) rfl)
theorem mw_129 : Cond.selects RX3 yX3_push yX3_push ∈ wsL_law := inR_6 _ (List.mem_of_getElem? (i := 9) rfl)
theorem mw_130 : Cond.code yX3_push cX3_push 3 none ∈ wsL_law := inR_6 _ (List.mem_of_getElem? (i := 10) rfl)
theorem mw_131 : Cond.methodLink RX3 188 yX0_write ∈ wsL_law := inR_6 _ (List.mem_of_getElem? (i := 11) rfl)
theorem mw_132 : Cond.instanceMethod yX0_write ∈ wsL_law := inR_6 _ (List.mem_of_getElem? (i := 12) rfl)
theorem mw_133 : Cond.selects RX0 yX0_write yX0_write ∈ wsL_law := inR_6 _ (List.mem_of_getElem? (i := 13) rfl)
theorem mw_134 : Cond.code yX0_write cX0_write 3 none ∈ wsL_law := inR_6 _ (List.mem_of_getElem? (i := 14) rfl)
theorem mw_135 : Cond.constant RX0 21 (65284) ∈ wsL_law := inR_6 _ (List.mem_of_getElem? (i := 15) rfl)
theorem mw_136 : Cond.fieldLink RX0 22 "GameCore$Memory" "counter" "I" ∈ wsL_law := inR_6 _ (List.mem_of_getElem? (i := 16) rfl)
theorem mw_137 : Cond.methodLink RX3 54 yX1_setWord ∈ wsL_law := inR_6 _ (List.mem_of_getElem? (i := 17) rfl)
theorem mw_138 : Cond.instanceMethod yX1_setWord ∈ wsL_law := inR_6 _ (List.mem_of_getElem? (i := 18) rfl)
theorem mw_139 : Cond.selects RX1 yX1_setWord yX1_setWord ∈ wsL_law := inR_6 _ (List.mem_of_getElem? (i := 19) rfl)
theorem mw_140 : Cond.code yX1_setWord cX1_setWord 3 (some .boolean) ∈ wsL_law := inR_6 _ (List.mem_of_getElem? (i := 20) rfl)
theorem mw_141 : Cond.constant RX1 15 (65520) ∈ wsL_law := inR_6 _ (List.mem_of_getElem? (i := 21) rfl)
theorem mw_142 : Cond.constant RX1 16 (65535) ∈ wsL_law := inR_6 _ (List.mem_of_getElem? (i := 22) rfl)
theorem mw_143 : Cond.methodLink RX3 84 yX3_pass ∈ wsL_law := inR_6 _ (List.mem_of_getElem? (i := 23) rfl)
theorem mw_144 : Cond.instanceMethod yX3_pass ∈ wsL_law := inR_7 _ (List.mem_of_getElem? (i := 0) rfl)
theorem mw_145 : Cond.selects RX3 yX3_pass yX3_pass ∈ wsL_law := inR_7 _ (List.mem_of_getElem? (i := 1) rfl)
theorem mw_146 : Cond.code yX3_pass cX3_pass 3 none ∈ wsL_law := inR_7 _ (List.mem_of_getElem? (i := 2) rfl)
theorem mw_147 : Cond.fieldLink RX3 75 "GameCore" "cycles" "I" ∈ wsL_law := inR_7 _ (List.mem_of_getElem? (i := 3) rfl)
theorem mw_148 : Cond.constant RX3 103 (1073741823) ∈ wsL_law := inR_7 _ (List.mem_of_getElem? (i := 4) rfl)
theorem mw_149 : Cond.methodLink RX3 104 yX0_tick ∈ wsL_law := inR_7 _ (List.mem_of_getElem? (i := 5) rfl)
theorem mw_150 : Cond.instanceMethod yX0_tick ∈ wsL_law := inR_7 _ (List.mem_of_getElem? (i := 6) rfl)
theorem mw_151 : Cond.selects RX0 yX0_tick yX0_tick ∈ wsL_law := inR_7 _ (List.mem_of_getElem? (i := 7) rfl)
theorem mw_152 : Cond.code yX0_tick cX0_tick 2 none ∈ wsL_law := inR_7 _ (List.mem_of_getElem? (i := 8) rfl)
theorem mw_153 : Cond.constant RX0 31 (65287) ∈ wsL_law := inR_7 _ (List.mem_of_getElem? (i := 9) rfl)
theorem mw_154 : Cond.methodLink RX0 36 yX0_countTimer ∈ wsL_law := inR_7 _ (List.mem_of_getElem? (i := 10) rfl)
theorem mw_155 : Cond.instanceMethod yX0_countTimer ∈ wsL_law := inR_7 _ (List.mem_of_getElem? (i := 11) rfl)
theorem mw_156 : Cond.selects RX0 yX0_countTimer yX0_countTimer ∈ wsL_law := inR_7 _ (List.mem_of_getElem? (i := 12) rfl)
theorem mw_157 : Cond.code yX0_countTimer cX0_countTimer 1 none ∈ wsL_law := inR_7 _ (List.mem_of_getElem? (i := 13) rfl)
theorem mw_158 : Cond.constant RX0 39 (65285) ∈ wsL_law := inR_7 _ (List.mem_of_getElem? (i := 14) rfl)
theorem mw_159 : Cond.constant RX0 40 (65286) ∈ wsL_law := inR_7 _ (List.mem_of_getElem? (i := 15) rfl)
theorem mw_160 : Cond.methodLink RX0 41 yX0_raiseInterrupts ∈ wsL_law := inR_7 _ (List.mem_of_getElem? (i := 16) rfl)
theorem mw_161 : Cond.instanceMethod yX0_raiseInterrupts ∈ wsL_law := inR_7 _ (List.mem_of_getElem? (i := 17) rfl)
theorem mw_162 : Cond.selects RX0 yX0_raiseInterrupts yX0_raiseInterrupts ∈ wsL_law := inR_7 _ (List.mem_of_getElem? (i := 18) rfl)
theorem mw_163 : Cond.code yX0_raiseInterrupts cX0_raiseInterrupts 2 none ∈ wsL_law := inR_7 _ (List.mem_of_getElem? (i := 19) rfl)
theorem mw_164 : Cond.methodLink RX3 91 yX3_leaveOpcode ∈ wsL_law := inR_7 _ (List.mem_of_getElem? (i := 20) rfl)
theorem mw_165 : Cond.instanceMethod yX3_leaveOpcode ∈ wsL_law := inR_7 _ (List.mem_of_getElem? (i := 21) rfl)
theorem mw_166 : Cond.selects RX3 yX3_leaveOpcode yX3_leaveOpcode ∈ wsL_law := inR_7 _ (List.mem_of_getElem? (i := 22) rfl)
theorem mw_167 : Cond.code yX3_leaveOpcode cX3_leaveOpcode 1 none ∈ wsL_law := inR_7 _ (List.mem_of_getElem? (i := 23) rfl)
theorem mw_168 : Cond.fieldLink RX3 68 "GameCore" "haltBug" "Z" ∈ wsL_law := inR_8 _ (List.mem_of_getElem? (i := 0) rfl)
theorem mw_169 : Cond.methodLink RX3 94 yX3_execute ∈ wsL_law := inR_8 _ (List.mem_of_getElem? (i := 1) rfl)
theorem mw_170 : Cond.instanceMethod yX3_execute ∈ wsL_law := inR_8 _ (List.mem_of_getElem? (i := 2) rfl)
theorem mw_171 : Cond.selects RX3 yX3_execute yX3_execute ∈ wsL_law := inR_8 _ (List.mem_of_getElem? (i := 3) rfl)
theorem mw_172 : Cond.code yX3_execute cX3_execute 4 (some .int) ∈ wsL_law := inR_8 _ (List.mem_of_getElem? (i := 4) rfl)
theorem mw_173 : Cond.methodLink RX3 107 yX3_halt ∈ wsL_law := inR_8 _ (List.mem_of_getElem? (i := 5) rfl)
theorem mw_174 : Cond.instanceMethod yX3_halt ∈ wsL_law := inR_8 _ (List.mem_of_getElem? (i := 6) rfl)
theorem mw_175 : Cond.selects RX3 yX3_halt yX3_halt ∈ wsL_law := inR_8 _ (List.mem_of_getElem? (i := 7) rfl)
theorem mw_176 : Cond.code yX3_halt cX3_halt 1 none ∈ wsL_law := inR_8 _ (List.mem_of_getElem? (i := 8) rfl)
theorem mw_177 : Cond.methodLink RX3 110 yX3_executeBitPage ∈ wsL_law := inR_8 _ (List.mem_of_getElem? (i := 9) rfl)
theorem mw_178 : Cond.instanceMethod yX3_executeBitPage ∈ wsL_law := inR_8 _ (List.mem_of_getElem? (i := 10) rfl)
theorem mw_179 : Cond.selects RX3 yX3_executeBitPage yX3_executeBitPage ∈ wsL_law := inR_8 _ (List.mem_of_getElem? (i := 11) rfl)
theorem mw_180 : Cond.code yX3_executeBitPage cX3_executeBitPage 5 (some .int) ∈ wsL_law := inR_8 _ (List.mem_of_getElem? (i := 12) rfl)
theorem mw_181 : Cond.methodLink RX3 155 yX3_fetch ∈ wsL_law := inR_8 _ (List.mem_of_getElem? (i := 13) rfl)
theorem mw_182 : Cond.instanceMethod yX3_fetch ∈ wsL_law := inR_8 _ (List.mem_of_getElem? (i := 14) rfl)
theorem mw_183 : Cond.selects RX3 yX3_fetch yX3_fetch ∈ wsL_law := inR_8 _ (List.mem_of_getElem? (i := 15) rfl)
theorem mw_184 : Cond.code yX3_fetch cX3_fetch 2 (some .int) ∈ wsL_law := inR_8 _ (List.mem_of_getElem? (i := 16) rfl)
theorem mw_185 : Cond.methodLink RX3 117 yX3_operand ∈ wsL_law := inR_8 _ (List.mem_of_getElem? (i := 17) rfl)
theorem mw_186 : Cond.instanceMethod yX3_operand ∈ wsL_law := inR_8 _ (List.mem_of_getElem? (i := 18) rfl)
theorem mw_187 : Cond.selects RX3 yX3_operand yX3_operand ∈ wsL_law := inR_8 _ (List.mem_of_getElem? (i := 19) rfl)
theorem mw_188 : Cond.code yX3_operand cX3_operand 2 (some .int) ∈ wsL_law := inR_8 _ (List.mem_of_getElem? (i := 20) rfl)
theorem mw_189 : Cond.methodLink RX3 215 yX1_half ∈ wsL_law := inR_8 _ (List.mem_of_getElem? (i := 21) rfl)
theorem mw_190 : Cond.instanceMethod yX1_half ∈ wsL_law := inR_8 _ (List.mem_of_getElem? (i := 22) rfl)
theorem mw_191 : Cond.selects RX1 yX1_half yX1_half ∈ wsL_law := inR_8 _ (List.mem_of_getElem? (i := 23) rfl)
theorem mw_192 : Cond.code yX1_half cX1_half 3 (some .int) ∈ wsL_law := inR_9 _ (List.mem_of_getElem? (i := 0) rfl)
theorem mw_193 : Cond.methodLink RX1 17 yX1_pairOf ∈ wsL_law := inR_9 _ (List.mem_of_getElem? (i := 1) rfl)
theorem mw_194 : Cond.static yX1_pairOf ∈ wsL_law := inR_9 _ (List.mem_of_getElem? (i := 2) rfl)
theorem mw_195 : Cond.code yX1_pairOf cX1_pairOf 1 (some .int) ∈ wsL_law := inR_9 _ (List.mem_of_getElem? (i := 3) rfl)
theorem mw_196 : Cond.methodLink RX1 21 yX1_isHigh ∈ wsL_law := inR_9 _ (List.mem_of_getElem? (i := 4) rfl)
theorem mw_197 : Cond.static yX1_isHigh ∈ wsL_law := inR_9 _ (List.mem_of_getElem? (i := 5) rfl)
theorem mw_198 : Cond.code yX1_isHigh cX1_isHigh 1 (some .boolean) ∈ wsL_law := inR_9 _ (List.mem_of_getElem? (i := 6) rfl)
theorem mw_199 : Cond.methodLink RX3 218 yX2_shift ∈ wsL_law := inR_9 _ (List.mem_of_getElem? (i := 7) rfl)
theorem mw_200 : Cond.instanceMethod yX2_shift ∈ wsL_law := inR_9 _ (List.mem_of_getElem? (i := 8) rfl)
theorem mw_201 : Cond.selects RX2 yX2_shift yX2_shift ∈ wsL_law := inR_9 _ (List.mem_of_getElem? (i := 9) rfl)
theorem mw_202 : Cond.code yX2_shift cX2_shift 5 (some .int) ∈ wsL_law := inR_9 _ (List.mem_of_getElem? (i := 10) rfl)
theorem mw_203 : Cond.methodLink RX2 18 yX1_flag ∈ wsL_law := inR_9 _ (List.mem_of_getElem? (i := 11) rfl)
theorem mw_204 : Cond.instanceMethod yX1_flag ∈ wsL_law := inR_9 _ (List.mem_of_getElem? (i := 12) rfl)
theorem mw_205 : Cond.selects RX1 yX1_flag yX1_flag ∈ wsL_law := inR_9 _ (List.mem_of_getElem? (i := 13) rfl)
theorem mw_206 : Cond.code yX1_flag cX1_flag 2 (some .boolean) ∈ wsL_law := inR_9 _ (List.mem_of_getElem? (i := 14) rfl)
theorem mw_207 : Cond.methodLink RX2 62 yX2_carryOfShift ∈ wsL_law := inR_9 _ (List.mem_of_getElem? (i := 15) rfl)
theorem mw_208 : Cond.static yX2_carryOfShift ∈ wsL_law := inR_9 _ (List.mem_of_getElem? (i := 16) rfl)
theorem mw_209 : Cond.code yX2_carryOfShift cX2_carryOfShift 2 (some .boolean) ∈ wsL_law := inR_9 _ (List.mem_of_getElem? (i := 17) rfl)
theorem mw_210 : Cond.methodLink RX2 42 yX1_setFlags ∈ wsL_law := inR_9 _ (List.mem_of_getElem? (i := 18) rfl)
theorem mw_211 : Cond.instanceMethod yX1_setFlags ∈ wsL_law := inR_9 _ (List.mem_of_getElem? (i := 19) rfl)
theorem mw_212 : Cond.selects RX1 yX1_setFlags yX1_setFlags ∈ wsL_law := inR_9 _ (List.mem_of_getElem? (i := 20) rfl)
theorem mw_213 : Cond.code yX1_setFlags cX1_setFlags 6 none ∈ wsL_law := inR_9 _ (List.mem_of_getElem? (i := 21) rfl)
theorem mw_214 : Cond.constant RX1 25 (65280) ∈ wsL_law := inR_9 _ (List.mem_of_getElem? (i := 22) rfl)
theorem mw_215 : Cond.methodLink RX3 120 yX3_setOperand ∈ wsL_law := inR_9 _ (List.mem_of_getElem? (i := 23) rfl)
theorem mw_216 : Cond.instanceMethod yX3_setOperand ∈ wsL_law := inR_10 _ (List.mem_of_getElem? (i := 0) rfl)
theorem mw_217 : Cond.selects RX3 yX3_setOperand yX3_setOperand ∈ wsL_law := inR_10 _ (List.mem_of_getElem? (i := 1) rfl)
theorem mw_218 : Cond.code yX3_setOperand cX3_setOperand 3 none ∈ wsL_law := inR_10 _ (List.mem_of_getElem? (i := 2) rfl)
theorem mw_219 : Cond.methodLink RX3 227 yX1_setHalf ∈ wsL_law := inR_10 _ (List.mem_of_getElem? (i := 3) rfl)
theorem mw_220 : Cond.instanceMethod yX1_setHalf ∈ wsL_law := inR_10 _ (List.mem_of_getElem? (i := 4) rfl)
theorem mw_221 : Cond.selects RX1 yX1_setHalf yX1_setHalf ∈ wsL_law := inR_10 _ (List.mem_of_getElem? (i := 5) rfl)
theorem mw_222 : Cond.code yX1_setHalf cX1_setHalf 5 none ∈ wsL_law := inR_10 _ (List.mem_of_getElem? (i := 6) rfl)
theorem mw_223 : Cond.methodLink RX3 221 yX2_testBit ∈ wsL_law := inR_10 _ (List.mem_of_getElem? (i := 7) rfl)
theorem mw_224 : Cond.instanceMethod yX2_testBit ∈ wsL_law := inR_10 _ (List.mem_of_getElem? (i := 8) rfl)
theorem mw_225 : Cond.selects RX2 yX2_testBit yX2_testBit ∈ wsL_law := inR_10 _ (List.mem_of_getElem? (i := 9) rfl)
theorem mw_226 : Cond.code yX2_testBit cX2_testBit 3 none ∈ wsL_law := inR_10 _ (List.mem_of_getElem? (i := 10) rfl)
theorem mw_227 : Cond.methodLink RX3 113 yX3_executeFirstQuarter ∈ wsL_law := inR_10 _ (List.mem_of_getElem? (i := 11) rfl)
theorem mw_228 : Cond.instanceMethod yX3_executeFirstQuarter ∈ wsL_law := inR_10 _ (List.mem_of_getElem? (i := 12) rfl)
theorem mw_229 : Cond.selects RX3 yX3_executeFirstQuarter yX3_executeFirstQuarter ∈ wsL_law := inR_10 _ (List.mem_of_getElem? (i := 13) rfl)
theorem mw_230 : Cond.code yX3_executeFirstQuarter cX3_executeFirstQuarter 3 (some .int) ∈ wsL_law := inR_10 _ (List.mem_of_getElem? (i := 14) rfl)
theorem mw_231 : Cond.methodLink RX3 129 yX3_storeSp ∈ wsL_law := inR_10 _ (List.mem_of_getElem? (i := 15) rfl)
theorem mw_232 : Cond.instanceMethod yX3_storeSp ∈ wsL_law := inR_10 _ (List.mem_of_getElem? (i := 16) rfl)
theorem mw_233 : Cond.selects RX3 yX3_storeSp yX3_storeSp ∈ wsL_law := inR_10 _ (List.mem_of_getElem? (i := 17) rfl)
theorem mw_234 : Cond.code yX3_storeSp cX3_storeSp 3 none ∈ wsL_law := inR_10 _ (List.mem_of_getElem? (i := 18) rfl)
theorem mw_235 : Cond.methodLink RX3 185 yX3_fetchWord ∈ wsL_law := inR_10 _ (List.mem_of_getElem? (i := 19) rfl)
theorem mw_236 : Cond.instanceMethod yX3_fetchWord ∈ wsL_law := inR_10 _ (List.mem_of_getElem? (i := 20) rfl)
theorem mw_237 : Cond.selects RX3 yX3_fetchWord yX3_fetchWord ∈ wsL_law := inR_10 _ (List.mem_of_getElem? (i := 21) rfl)
theorem mw_238 : Cond.code yX3_fetchWord cX3_fetchWord 2 (some .int) ∈ wsL_law := inR_10 _ (List.mem_of_getElem? (i := 22) rfl)
theorem mw_239 : Cond.methodLink RX3 132 yX3_holds ∈ wsL_law := inR_10 _ (List.mem_of_getElem? (i := 23) rfl)
theorem mw_240 : Cond.instanceMethod yX3_holds ∈ wsL_law := inR_11 _ (List.mem_of_getElem? (i := 0) rfl)
theorem mw_241 : Cond.selects RX3 yX3_holds yX3_holds ∈ wsL_law := inR_11 _ (List.mem_of_getElem? (i := 1) rfl)
theorem mw_242 : Cond.code yX3_holds cX3_holds 3 (some .boolean) ∈ wsL_law := inR_11 _ (List.mem_of_getElem? (i := 2) rfl)
theorem mw_243 : Cond.methodLink RX3 224 yX1_flag ∈ wsL_law := inR_11 _ (List.mem_of_getElem? (i := 3) rfl)
theorem mw_244 : Cond.methodLink RX3 136 yX3_jumpRelativeIf ∈ wsL_law := inR_11 _ (List.mem_of_getElem? (i := 4) rfl)
theorem mw_245 : Cond.instanceMethod yX3_jumpRelativeIf ∈ wsL_law := inR_11 _ (List.mem_of_getElem? (i := 5) rfl)
theorem mw_246 : Cond.selects RX3 yX3_jumpRelativeIf yX3_jumpRelativeIf ∈ wsL_law := inR_11 _ (List.mem_of_getElem? (i := 6) rfl)
theorem mw_247 : Cond.code yX3_jumpRelativeIf cX3_jumpRelativeIf 3 (some .int) ∈ wsL_law := inR_11 _ (List.mem_of_getElem? (i := 7) rfl)
theorem mw_248 : Cond.methodLink RX3 140 yX3_loadOrAddWord ∈ wsL_law := inR_11 _ (List.mem_of_getElem? (i := 8) rfl)
theorem mw_249 : Cond.instanceMethod yX3_loadOrAddWord ∈ wsL_law := inR_11 _ (List.mem_of_getElem? (i := 9) rfl)
theorem mw_250 : Cond.selects RX3 yX3_loadOrAddWord yX3_loadOrAddWord ∈ wsL_law := inR_11 _ (List.mem_of_getElem? (i := 10) rfl)
theorem mw_251 : Cond.code yX3_loadOrAddWord cX3_loadOrAddWord 3 none ∈ wsL_law := inR_11 _ (List.mem_of_getElem? (i := 11) rfl)
theorem mw_252 : Cond.methodLink RX3 191 yX2_addToHl ∈ wsL_law := inR_11 _ (List.mem_of_getElem? (i := 12) rfl)
theorem mw_253 : Cond.instanceMethod yX2_addToHl ∈ wsL_law := inR_11 _ (List.mem_of_getElem? (i := 13) rfl)
theorem mw_254 : Cond.selects RX2 yX2_addToHl yX2_addToHl ∈ wsL_law := inR_11 _ (List.mem_of_getElem? (i := 14) rfl)
theorem mw_255 : Cond.code yX2_addToHl cX2_addToHl 4 none ∈ wsL_law := inR_11 _ (List.mem_of_getElem? (i := 15) rfl)
theorem mw_256 : Cond.constant RX2 54 (65535) ∈ wsL_law := inR_11 _ (List.mem_of_getElem? (i := 16) rfl)
theorem mw_257 : Cond.methodLink RX2 46 yX1_word ∈ wsL_law := inR_11 _ (List.mem_of_getElem? (i := 17) rfl)
theorem mw_258 : Cond.methodLink RX2 50 yX1_setWord ∈ wsL_law := inR_11 _ (List.mem_of_getElem? (i := 18) rfl)
theorem mw_259 : Cond.methodLink RX3 143 yX3_loadByPair ∈ wsL_law := inR_11 _ (List.mem_of_getElem? (i := 19) rfl)
theorem mw_260 : Cond.instanceMethod yX3_loadByPair ∈ wsL_law := inR_11 _ (List.mem_of_getElem? (i := 20) rfl)
theorem mw_261 : Cond.selects RX3 yX3_loadByPair yX3_loadByPair ∈ wsL_law := inR_11 _ (List.mem_of_getElem? (i := 21) rfl)
theorem mw_262 : Cond.code yX3_loadByPair cX3_loadByPair 4 none ∈ wsL_law := inR_11 _ (List.mem_of_getElem? (i := 22) rfl)
theorem mw_263 : Cond.methodLink RX3 194 Lib.Math.min.name ∈ wsL_law := inR_11 _ (List.mem_of_getElem? (i := 23) rfl)
theorem mw_264 : Cond.static Lib.Math.min.name ∈ wsL_law := inR_12 _ (List.mem_of_getElem? (i := 0) rfl)
theorem mw_265 : Cond.initialized "java/lang/Math" ∈ wsL_law := inR_12 _ (List.mem_of_getElem? (i := 1) rfl)
theorem mw_266 : Cond.code Lib.Math.min.name Lib.Math.min.code 2 (some .int) ∈ wsL_law := inR_12 _ (List.mem_of_getElem? (i := 2) rfl)
theorem mw_267 : Cond.methodLink RX3 199 yX1_a ∈ wsL_law := inR_12 _ (List.mem_of_getElem? (i := 3) rfl)
theorem mw_268 : Cond.instanceMethod yX1_a ∈ wsL_law := inR_12 _ (List.mem_of_getElem? (i := 4) rfl)
theorem mw_269 : Cond.selects RX1 yX1_a yX1_a ∈ wsL_law := inR_12 _ (List.mem_of_getElem? (i := 5) rfl)
theorem mw_270 : Cond.code yX1_a cX1_a 1 (some .int) ∈ wsL_law := inR_12 _ (List.mem_of_getElem? (i := 6) rfl)
theorem mw_271 : Cond.methodLink RX3 202 yX1_setA ∈ wsL_law := inR_12 _ (List.mem_of_getElem? (i := 7) rfl)
theorem mw_272 : Cond.instanceMethod yX1_setA ∈ wsL_law := inR_12 _ (List.mem_of_getElem? (i := 8) rfl)
theorem mw_273 : Cond.selects RX1 yX1_setA yX1_setA ∈ wsL_law := inR_12 _ (List.mem_of_getElem? (i := 9) rfl)
theorem mw_274 : Cond.code yX1_setA cX1_setA 2 none ∈ wsL_law := inR_12 _ (List.mem_of_getElem? (i := 10) rfl)
theorem mw_275 : Cond.methodLink RX3 146 yX3_stepPair ∈ wsL_law := inR_12 _ (List.mem_of_getElem? (i := 11) rfl)
theorem mw_276 : Cond.instanceMethod yX3_stepPair ∈ wsL_law := inR_12 _ (List.mem_of_getElem? (i := 12) rfl)
theorem mw_277 : Cond.selects RX3 yX3_stepPair yX3_stepPair ∈ wsL_law := inR_12 _ (List.mem_of_getElem? (i := 13) rfl)
theorem mw_278 : Cond.code yX3_stepPair cX3_stepPair 4 none ∈ wsL_law := inR_12 _ (List.mem_of_getElem? (i := 14) rfl)
theorem mw_279 : Cond.methodLink RX3 149 yX2_increment ∈ wsL_law := inR_12 _ (List.mem_of_getElem? (i := 15) rfl)
theorem mw_280 : Cond.instanceMethod yX2_increment ∈ wsL_law := inR_12 _ (List.mem_of_getElem? (i := 16) rfl)
theorem mw_281 : Cond.selects RX2 yX2_increment yX2_increment ∈ wsL_law := inR_12 _ (List.mem_of_getElem? (i := 17) rfl)
theorem mw_282 : Cond.code yX2_increment cX2_increment 3 (some .int) ∈ wsL_law := inR_12 _ (List.mem_of_getElem? (i := 18) rfl)
theorem mw_283 : Cond.methodLink RX3 152 yX2_decrement ∈ wsL_law := inR_12 _ (List.mem_of_getElem? (i := 19) rfl)
theorem mw_284 : Cond.instanceMethod yX2_decrement ∈ wsL_law := inR_12 _ (List.mem_of_getElem? (i := 20) rfl)
theorem mw_285 : Cond.selects RX2 yX2_decrement yX2_decrement ∈ wsL_law := inR_12 _ (List.mem_of_getElem? (i := 21) rfl)
theorem mw_286 : Cond.code yX2_decrement cX2_decrement 3 (some .int) ∈ wsL_law := inR_12 _ (List.mem_of_getElem? (i := 22) rfl)
theorem mw_287 : Cond.methodLink RX3 158 yX2_changeA ∈ wsL_law := inR_12 _ (List.mem_of_getElem? (i := 23) rfl)
theorem mw_288 : Cond.instanceMethod yX2_changeA ∈ wsL_law := inR_13 _ (List.mem_of_getElem? (i := 0) rfl)
theorem mw_289 : Cond.selects RX2 yX2_changeA yX2_changeA ∈ wsL_law := inR_13 _ (List.mem_of_getElem? (i := 1) rfl)
theorem mw_290 : Cond.code yX2_changeA cX2_changeA 3 none ∈ wsL_law := inR_13 _ (List.mem_of_getElem? (i := 2) rfl)
theorem mw_291 : Cond.methodLink RX2 55 yX2_adjustDecimal ∈ wsL_law := inR_13 _ (List.mem_of_getElem? (i := 3) rfl)
theorem mw_292 : Cond.instanceMethod yX2_adjustDecimal ∈ wsL_law := inR_13 _ (List.mem_of_getElem? (i := 4) rfl)
theorem mw_293 : Cond.selects RX2 yX2_adjustDecimal yX2_adjustDecimal ∈ wsL_law := inR_13 _ (List.mem_of_getElem? (i := 5) rfl)
theorem mw_294 : Cond.code yX2_adjustDecimal cX2_adjustDecimal 6 none ∈ wsL_law := inR_13 _ (List.mem_of_getElem? (i := 6) rfl)
theorem mw_295 : Cond.methodLink RX2 30 yX1_a ∈ wsL_law := inR_13 _ (List.mem_of_getElem? (i := 7) rfl)
theorem mw_296 : Cond.methodLink RX2 38 yX1_setA ∈ wsL_law := inR_13 _ (List.mem_of_getElem? (i := 8) rfl)
theorem mw_297 : Cond.methodLink RX2 58 yX2_shift ∈ wsL_law := inR_13 _ (List.mem_of_getElem? (i := 9) rfl)
theorem mw_298 : Cond.methodLink RX3 123 yX2_apply ∈ wsL_law := inR_13 _ (List.mem_of_getElem? (i := 10) rfl)
theorem mw_299 : Cond.instanceMethod yX2_apply ∈ wsL_law := inR_13 _ (List.mem_of_getElem? (i := 11) rfl)
theorem mw_300 : Cond.selects RX2 yX2_apply yX2_apply ∈ wsL_law := inR_13 _ (List.mem_of_getElem? (i := 12) rfl)
theorem mw_301 : Cond.code yX2_apply cX2_apply 4 none ∈ wsL_law := inR_13 _ (List.mem_of_getElem? (i := 13) rfl)
theorem mw_302 : Cond.methodLink RX2 22 yX2_add ∈ wsL_law := inR_13 _ (List.mem_of_getElem? (i := 14) rfl)
theorem mw_303 : Cond.instanceMethod yX2_add ∈ wsL_law := inR_13 _ (List.mem_of_getElem? (i := 15) rfl)
theorem mw_304 : Cond.selects RX2 yX2_add yX2_add ∈ wsL_law := inR_13 _ (List.mem_of_getElem? (i := 16) rfl)
theorem mw_305 : Cond.code yX2_add cX2_add 5 none ∈ wsL_law := inR_13 _ (List.mem_of_getElem? (i := 17) rfl)
theorem mw_306 : Cond.methodLink RX2 26 yX2_subtract ∈ wsL_law := inR_13 _ (List.mem_of_getElem? (i := 18) rfl)
theorem mw_307 : Cond.instanceMethod yX2_subtract ∈ wsL_law := inR_13 _ (List.mem_of_getElem? (i := 19) rfl)
theorem mw_308 : Cond.selects RX2 yX2_subtract yX2_subtract ∈ wsL_law := inR_13 _ (List.mem_of_getElem? (i := 20) rfl)
theorem mw_309 : Cond.code yX2_subtract cX2_subtract 6 none ∈ wsL_law := inR_13 _ (List.mem_of_getElem? (i := 21) rfl)
theorem mw_310 : Cond.methodLink RX2 34 yX2_putLogic ∈ wsL_law := inR_13 _ (List.mem_of_getElem? (i := 22) rfl)
theorem mw_311 : Cond.instanceMethod yX2_putLogic ∈ wsL_law := inR_13 _ (List.mem_of_getElem? (i := 23) rfl)
theorem mw_312 : Cond.selects RX2 yX2_putLogic yX2_putLogic ∈ wsL_law := inR_14 _ (List.mem_of_getElem? (i := 0) rfl)
theorem mw_313 : Cond.code yX2_putLogic cX2_putLogic 3 none ∈ wsL_law := inR_14 _ (List.mem_of_getElem? (i := 1) rfl)
theorem mw_314 : Cond.methodLink RX3 126 yX3_executeLastQuarter ∈ wsL_law := inR_14 _ (List.mem_of_getElem? (i := 2) rfl)
theorem mw_315 : Cond.instanceMethod yX3_executeLastQuarter ∈ wsL_law := inR_14 _ (List.mem_of_getElem? (i := 3) rfl)
theorem mw_316 : Cond.selects RX3 yX3_executeLastQuarter yX3_executeLastQuarter ∈ wsL_law := inR_14 _ (List.mem_of_getElem? (i := 4) rfl)
theorem mw_317 : Cond.code yX3_executeLastQuarter cX3_executeLastQuarter 3 (some .int) ∈ wsL_law := inR_14 _ (List.mem_of_getElem? (i := 5) rfl)
theorem mw_318 : Cond.methodLink RX3 161 yX3_returnIf ∈ wsL_law := inR_14 _ (List.mem_of_getElem? (i := 6) rfl)
theorem mw_319 : Cond.instanceMethod yX3_returnIf ∈ wsL_law := inR_14 _ (List.mem_of_getElem? (i := 7) rfl)
theorem mw_320 : Cond.selects RX3 yX3_returnIf yX3_returnIf ∈ wsL_law := inR_14 _ (List.mem_of_getElem? (i := 8) rfl)
theorem mw_321 : Cond.code yX3_returnIf cX3_returnIf 2 (some .int) ∈ wsL_law := inR_14 _ (List.mem_of_getElem? (i := 9) rfl)
theorem mw_322 : Cond.methodLink RX3 209 yX3_pop ∈ wsL_law := inR_14 _ (List.mem_of_getElem? (i := 10) rfl)
theorem mw_323 : Cond.instanceMethod yX3_pop ∈ wsL_law := inR_14 _ (List.mem_of_getElem? (i := 11) rfl)
theorem mw_324 : Cond.selects RX3 yX3_pop yX3_pop ∈ wsL_law := inR_14 _ (List.mem_of_getElem? (i := 12) rfl)
theorem mw_325 : Cond.code yX3_pop cX3_pop 2 (some .int) ∈ wsL_law := inR_14 _ (List.mem_of_getElem? (i := 13) rfl)
theorem mw_326 : Cond.methodLink RX3 164 yX3_executeWithByte ∈ wsL_law := inR_14 _ (List.mem_of_getElem? (i := 14) rfl)
theorem mw_327 : Cond.instanceMethod yX3_executeWithByte ∈ wsL_law := inR_14 _ (List.mem_of_getElem? (i := 15) rfl)
theorem mw_328 : Cond.selects RX3 yX3_executeWithByte yX3_executeWithByte ∈ wsL_law := inR_14 _ (List.mem_of_getElem? (i := 16) rfl)
theorem mw_329 : Cond.code yX3_executeWithByte cX3_executeWithByte 3 (some .int) ∈ wsL_law := inR_14 _ (List.mem_of_getElem? (i := 17) rfl)
theorem mw_330 : Cond.constant RX3 205 (65280) ∈ wsL_law := inR_14 _ (List.mem_of_getElem? (i := 18) rfl)
theorem mw_331 : Cond.methodLink RX3 206 yX2_spPlus ∈ wsL_law := inR_14 _ (List.mem_of_getElem? (i := 19) rfl)
theorem mw_332 : Cond.instanceMethod yX2_spPlus ∈ wsL_law := inR_14 _ (List.mem_of_getElem? (i := 20) rfl)
theorem mw_333 : Cond.selects RX2 yX2_spPlus yX2_spPlus ∈ wsL_law := inR_14 _ (List.mem_of_getElem? (i := 21) rfl)
theorem mw_334 : Cond.code yX2_spPlus cX2_spPlus 3 (some .int) ∈ wsL_law := inR_14 _ (List.mem_of_getElem? (i := 22) rfl)
theorem mw_335 : Cond.methodLink RX3 167 yX3_popOrMove ∈ wsL_law := inR_14 _ (List.mem_of_getElem? (i := 23) rfl)
theorem mw_336 : Cond.instanceMethod yX3_popOrMove ∈ wsL_law := inR_15 _ (List.mem_of_getElem? (i := 0) rfl)
theorem mw_337 : Cond.selects RX3 yX3_popOrMove yX3_popOrMove ∈ wsL_law := inR_15 _ (List.mem_of_getElem? (i := 1) rfl)
theorem mw_338 : Cond.code yX3_popOrMove cX3_popOrMove 2 none ∈ wsL_law := inR_15 _ (List.mem_of_getElem? (i := 2) rfl)
theorem mw_339 : Cond.methodLink RX3 212 yX3_stackPair ∈ wsL_law := inR_15 _ (List.mem_of_getElem? (i := 3) rfl)
theorem mw_340 : Cond.static yX3_stackPair ∈ wsL_law := inR_15 _ (List.mem_of_getElem? (i := 4) rfl)
theorem mw_341 : Cond.code yX3_stackPair cX3_stackPair 1 (some .int) ∈ wsL_law := inR_15 _ (List.mem_of_getElem? (i := 5) rfl)
theorem mw_342 : Cond.methodLink RX3 170 yX3_jumpIf ∈ wsL_law := inR_15 _ (List.mem_of_getElem? (i := 6) rfl)
theorem mw_343 : Cond.instanceMethod yX3_jumpIf ∈ wsL_law := inR_15 _ (List.mem_of_getElem? (i := 7) rfl)
theorem mw_344 : Cond.selects RX3 yX3_jumpIf yX3_jumpIf ∈ wsL_law := inR_15 _ (List.mem_of_getElem? (i := 8) rfl)
theorem mw_345 : Cond.code yX3_jumpIf cX3_jumpIf 3 (some .int) ∈ wsL_law := inR_15 _ (List.mem_of_getElem? (i := 9) rfl)
theorem mw_346 : Cond.methodLink RX3 173 yX3_loadFar ∈ wsL_law := inR_15 _ (List.mem_of_getElem? (i := 10) rfl)
theorem mw_347 : Cond.instanceMethod yX3_loadFar ∈ wsL_law := inR_15 _ (List.mem_of_getElem? (i := 11) rfl)
theorem mw_348 : Cond.selects RX3 yX3_loadFar yX3_loadFar ∈ wsL_law := inR_15 _ (List.mem_of_getElem? (i := 12) rfl)
theorem mw_349 : Cond.code yX3_loadFar cX3_loadFar 3 (some .int) ∈ wsL_law := inR_15 _ (List.mem_of_getElem? (i := 13) rfl)
theorem mw_350 : Cond.methodLink RX3 176 yX3_switchInterrupts ∈ wsL_law := inR_15 _ (List.mem_of_getElem? (i := 14) rfl)
theorem mw_351 : Cond.instanceMethod yX3_switchInterrupts ∈ wsL_law := inR_15 _ (List.mem_of_getElem? (i := 15) rfl)
theorem mw_352 : Cond.selects RX3 yX3_switchInterrupts yX3_switchInterrupts ∈ wsL_law := inR_15 _ (List.mem_of_getElem? (i := 16) rfl)
theorem mw_353 : Cond.code yX3_switchInterrupts cX3_switchInterrupts 2 (some .int) ∈ wsL_law := inR_15 _ (List.mem_of_getElem? (i := 17) rfl)
theorem mw_354 : Cond.methodLink RX3 179 yX3_callIf ∈ wsL_law := inR_15 _ (List.mem_of_getElem? (i := 18) rfl)
theorem mw_355 : Cond.instanceMethod yX3_callIf ∈ wsL_law := inR_15 _ (List.mem_of_getElem? (i := 19) rfl)
theorem mw_356 : Cond.selects RX3 yX3_callIf yX3_callIf ∈ wsL_law := inR_15 _ (List.mem_of_getElem? (i := 20) rfl)
theorem mw_357 : Cond.code yX3_callIf cX3_callIf 3 (some .int) ∈ wsL_law := inR_15 _ (List.mem_of_getElem? (i := 21) rfl)
theorem mw_358 : Cond.methodLink RX3 182 yX3_pushPair ∈ wsL_law := inR_15 _ (List.mem_of_getElem? (i := 22) rfl)
theorem mw_359 : Cond.instanceMethod yX3_pushPair ∈ wsL_law := inR_15 _ (List.mem_of_getElem? (i := 23) rfl)
theorem mw_360 : Cond.selects RX3 yX3_pushPair yX3_pushPair ∈ wsL_law := inR_16 _ (List.mem_of_getElem? (i := 0) rfl)
theorem mw_361 : Cond.code yX3_pushPair cX3_pushPair 2 (some .int) ∈ wsL_law := inR_16 _ (List.mem_of_getElem? (i := 1) rfl)
theorem mw_362 : Cond.methodLink RL 32 yX4_step ∈ wsL_law := inR_16 _ (List.mem_of_getElem? (i := 2) rfl)
theorem mw_363 : Cond.instanceMethod yX4_step ∈ wsL_law := inR_16 _ (List.mem_of_getElem? (i := 3) rfl)
theorem mw_364 : Cond.selects RX4 yX4_step yX4_step ∈ wsL_law := inR_16 _ (List.mem_of_getElem? (i := 4) rfl)
theorem mw_365 : Cond.code yX4_step cX4_step 2 (some .int) ∈ wsL_law := inR_16 _ (List.mem_of_getElem? (i := 5) rfl)
theorem mw_366 : Cond.constant RX4 103 (65295) ∈ wsL_law := inR_16 _ (List.mem_of_getElem? (i := 6) rfl)
theorem mw_367 : Cond.fieldLink RX4 23 "GameCoreModel" "cycles" "I" ∈ wsL_law := inR_16 _ (List.mem_of_getElem? (i := 7) rfl)
theorem mw_368 : Cond.fieldLink RX4 104 "GameCoreModel" "isOn" "Z" ∈ wsL_law := inR_16 _ (List.mem_of_getElem? (i := 8) rfl)
theorem mw_369 : Cond.fieldLink RX4 107 "GameCoreModel" "halted" "Z" ∈ wsL_law := inR_16 _ (List.mem_of_getElem? (i := 9) rfl)
theorem mw_370 : Cond.fieldLink RX4 38 "GameCoreModel" "pc" "I" ∈ wsL_law := inR_16 _ (List.mem_of_getElem? (i := 10) rfl)
theorem mw_371 : Cond.fieldLink RX4 197 "GameCoreModel" "waits" "Z" ∈ wsL_law := inR_16 _ (List.mem_of_getElem? (i := 11) rfl)
theorem mw_372 : Cond.fieldLink RX4 110 "GameCoreModel" "wasWaiting" "Z" ∈ wsL_law := inR_16 _ (List.mem_of_getElem? (i := 12) rfl)
theorem mw_373 : Cond.fieldLink RX4 203 "GameCoreModel" "isEi" "Z" ∈ wsL_law := inR_16 _ (List.mem_of_getElem? (i := 13) rfl)
theorem mw_374 : Cond.methodLink RX4 213 yX4_dispatch ∈ wsL_law := inR_16 _ (List.mem_of_getElem? (i := 14) rfl)
theorem mw_375 : Cond.instanceMethod yX4_dispatch ∈ wsL_law := inR_16 _ (List.mem_of_getElem? (i := 15) rfl)
theorem mw_376 : Cond.selects RX4 yX4_dispatch yX4_dispatch ∈ wsL_law := inR_16 _ (List.mem_of_getElem? (i := 16) rfl)
theorem mw_377 : Cond.code yX4_dispatch cX4_dispatch 3 none ∈ wsL_law := inR_16 _ (List.mem_of_getElem? (i := 17) rfl)
theorem mw_378 : Cond.methodLink RX4 181 yX4_push ∈ wsL_law := inR_16 _ (List.mem_of_getElem? (i := 18) rfl)
theorem mw_379 : Cond.instanceMethod yX4_push ∈ wsL_law := inR_16 _ (List.mem_of_getElem? (i := 19) rfl)
theorem mw_380 : Cond.selects RX4 yX4_push yX4_push ∈ wsL_law := inR_16 _ (List.mem_of_getElem? (i := 20) rfl)
theorem mw_381 : Cond.code yX4_push cX4_push 2 none ∈ wsL_law := inR_16 _ (List.mem_of_getElem? (i := 21) rfl)
theorem mw_382 : Cond.fieldLink RX4 48 "GameCoreModel" "sp" "I" ∈ wsL_law := inR_16 _ (List.mem_of_getElem? (i := 22) rfl)
theorem mw_383 : Cond.methodLink RX4 51 yX4_writes ∈ wsL_law := inR_16 _ (List.mem_of_getElem? (i := 23) rfl)
theorem mw_384 : Cond.instanceMethod yX4_writes ∈ wsL_law := inR_17 _ (List.mem_of_getElem? (i := 0) rfl)
theorem mw_385 : Cond.selects RX4 yX4_writes yX4_writes ∈ wsL_law := inR_17 _ (List.mem_of_getElem? (i := 1) rfl)
theorem mw_386 : Cond.code yX4_writes cX4_writes 3 none ∈ wsL_law := inR_17 _ (List.mem_of_getElem? (i := 2) rfl)
theorem mw_387 : Cond.constant RX4 30 (65284) ∈ wsL_law := inR_17 _ (List.mem_of_getElem? (i := 3) rfl)
theorem mw_388 : Cond.fieldLink RX4 35 "GameCoreModel" "counter" "I" ∈ wsL_law := inR_17 _ (List.mem_of_getElem? (i := 4) rfl)
theorem mw_389 : Cond.methodLink RX4 216 yX4_time ∈ wsL_law := inR_17 _ (List.mem_of_getElem? (i := 5) rfl)
theorem mw_390 : Cond.instanceMethod yX4_time ∈ wsL_law := inR_17 _ (List.mem_of_getElem? (i := 6) rfl)
theorem mw_391 : Cond.selects RX4 yX4_time yX4_time ∈ wsL_law := inR_17 _ (List.mem_of_getElem? (i := 7) rfl)
theorem mw_392 : Cond.code yX4_time cX4_time 4 none ∈ wsL_law := inR_17 _ (List.mem_of_getElem? (i := 8) rfl)
theorem mw_393 : Cond.constant RX4 206 (65287) ∈ wsL_law := inR_17 _ (List.mem_of_getElem? (i := 9) rfl)
theorem mw_394 : Cond.constant RX4 207 (65285) ∈ wsL_law := inR_17 _ (List.mem_of_getElem? (i := 10) rfl)
theorem mw_395 : Cond.constant RX4 208 (65286) ∈ wsL_law := inR_17 _ (List.mem_of_getElem? (i := 11) rfl)
theorem mw_396 : Cond.fieldLink RX4 209 "GameCoreModel" "all" "I" ∈ wsL_law := inR_17 _ (List.mem_of_getElem? (i := 12) rfl)
theorem mw_397 : Cond.constant RX4 212 (1073741823) ∈ wsL_law := inR_17 _ (List.mem_of_getElem? (i := 13) rfl)
theorem mw_398 : Cond.methodLink RX4 219 yX4_isNone ∈ wsL_law := inR_17 _ (List.mem_of_getElem? (i := 14) rfl)
theorem mw_399 : Cond.static yX4_isNone ∈ wsL_law := inR_17 _ (List.mem_of_getElem? (i := 15) rfl)
theorem mw_400 : Cond.code yX4_isNone cX4_isNone 1 (some .boolean) ∈ wsL_law := inR_17 _ (List.mem_of_getElem? (i := 16) rfl)
theorem mw_401 : Cond.methodLink RX4 222 yX4_instruction ∈ wsL_law := inR_17 _ (List.mem_of_getElem? (i := 17) rfl)
theorem mw_402 : Cond.instanceMethod yX4_instruction ∈ wsL_law := inR_17 _ (List.mem_of_getElem? (i := 18) rfl)
theorem mw_403 : Cond.selects RX4 yX4_instruction yX4_instruction ∈ wsL_law := inR_17 _ (List.mem_of_getElem? (i := 19) rfl)
theorem mw_404 : Cond.code yX4_instruction cX4_instruction 5 none ∈ wsL_law := inR_17 _ (List.mem_of_getElem? (i := 20) rfl)
theorem mw_405 : Cond.fieldLink RX4 81 "GameCoreModel" "bug" "Z" ∈ wsL_law := inR_17 _ (List.mem_of_getElem? (i := 21) rfl)
theorem mw_406 : Cond.methodLink RX4 41 yX4_reads ∈ wsL_law := inR_17 _ (List.mem_of_getElem? (i := 22) rfl)
theorem mw_407 : Cond.instanceMethod yX4_reads ∈ wsL_law := inR_17 _ (List.mem_of_getElem? (i := 23) rfl)
theorem mw_408 : Cond.selects RX4 yX4_reads yX4_reads ∈ wsL_law := inR_18 _ (List.mem_of_getElem? (i := 0) rfl)
theorem mw_409 : Cond.code yX4_reads cX4_reads 2 (some .int) ∈ wsL_law := inR_18 _ (List.mem_of_getElem? (i := 1) rfl)
theorem mw_410 : Cond.methodLink RX4 84 yX4_first ∈ wsL_law := inR_18 _ (List.mem_of_getElem? (i := 2) rfl)
theorem mw_411 : Cond.instanceMethod yX4_first ∈ wsL_law := inR_18 _ (List.mem_of_getElem? (i := 3) rfl)
theorem mw_412 : Cond.selects RX4 yX4_first yX4_first ∈ wsL_law := inR_18 _ (List.mem_of_getElem? (i := 4) rfl)
theorem mw_413 : Cond.code yX4_first cX4_first 5 none ∈ wsL_law := inR_18 _ (List.mem_of_getElem? (i := 5) rfl)
theorem mw_414 : Cond.methodLink RX4 113 yX4_jumpsNear ∈ wsL_law := inR_18 _ (List.mem_of_getElem? (i := 6) rfl)
theorem mw_415 : Cond.instanceMethod yX4_jumpsNear ∈ wsL_law := inR_18 _ (List.mem_of_getElem? (i := 7) rfl)
theorem mw_416 : Cond.selects RX4 yX4_jumpsNear yX4_jumpsNear ∈ wsL_law := inR_18 _ (List.mem_of_getElem? (i := 8) rfl)
theorem mw_417 : Cond.code yX4_jumpsNear cX4_jumpsNear 3 none ∈ wsL_law := inR_18 _ (List.mem_of_getElem? (i := 9) rfl)
theorem mw_418 : Cond.methodLink RX4 119 yX4_fetchWord ∈ wsL_law := inR_18 _ (List.mem_of_getElem? (i := 10) rfl)
theorem mw_419 : Cond.instanceMethod yX4_fetchWord ∈ wsL_law := inR_18 _ (List.mem_of_getElem? (i := 11) rfl)
theorem mw_420 : Cond.selects RX4 yX4_fetchWord yX4_fetchWord ∈ wsL_law := inR_18 _ (List.mem_of_getElem? (i := 12) rfl)
theorem mw_421 : Cond.code yX4_fetchWord cX4_fetchWord 2 (some .int) ∈ wsL_law := inR_18 _ (List.mem_of_getElem? (i := 13) rfl)
theorem mw_422 : Cond.methodLink RX4 44 yX4_fetch ∈ wsL_law := inR_18 _ (List.mem_of_getElem? (i := 14) rfl)
theorem mw_423 : Cond.instanceMethod yX4_fetch ∈ wsL_law := inR_18 _ (List.mem_of_getElem? (i := 15) rfl)
theorem mw_424 : Cond.selects RX4 yX4_fetch yX4_fetch ∈ wsL_law := inR_18 _ (List.mem_of_getElem? (i := 16) rfl)
theorem mw_425 : Cond.code yX4_fetch cX4_fetch 2 (some .int) ∈ wsL_law := inR_18 _ (List.mem_of_getElem? (i := 17) rfl)
theorem mw_426 : Cond.methodLink RX4 147 yX4_holds ∈ wsL_law := inR_18 _ (List.mem_of_getElem? (i := 18) rfl)
theorem mw_427 : Cond.instanceMethod yX4_holds ∈ wsL_law := inR_18 _ (List.mem_of_getElem? (i := 19) rfl)
theorem mw_428 : Cond.selects RX4 yX4_holds yX4_holds ∈ wsL_law := inR_18 _ (List.mem_of_getElem? (i := 20) rfl)
theorem mw_429 : Cond.code yX4_holds cX4_holds 2 (some .boolean) ∈ wsL_law := inR_18 _ (List.mem_of_getElem? (i := 21) rfl)
theorem mw_430 : Cond.fieldLink RX4 54 "GameCoreModel" "zero" "Z" ∈ wsL_law := inR_18 _ (List.mem_of_getElem? (i := 22) rfl)
theorem mw_431 : Cond.fieldLink RX4 64 "GameCoreModel" "carry" "Z" ∈ wsL_law := inR_18 _ (List.mem_of_getElem? (i := 23) rfl)
theorem mw_432 : Cond.methodLink RX4 116 yX4_addsPair ∈ wsL_law := inR_19 _ (List.mem_of_getElem? (i := 0) rfl)
theorem mw_433 : Cond.instanceMethod yX4_addsPair ∈ wsL_law := inR_19 _ (List.mem_of_getElem? (i := 1) rfl)
theorem mw_434 : Cond.selects RX4 yX4_addsPair yX4_addsPair ∈ wsL_law := inR_19 _ (List.mem_of_getElem? (i := 2) rfl)
theorem mw_435 : Cond.code yX4_addsPair cX4_addsPair 4 none ∈ wsL_law := inR_19 _ (List.mem_of_getElem? (i := 3) rfl)
theorem mw_436 : Cond.methodLink RX4 67 yX4_hl ∈ wsL_law := inR_19 _ (List.mem_of_getElem? (i := 4) rfl)
theorem mw_437 : Cond.instanceMethod yX4_hl ∈ wsL_law := inR_19 _ (List.mem_of_getElem? (i := 5) rfl)
theorem mw_438 : Cond.selects RX4 yX4_hl yX4_hl ∈ wsL_law := inR_19 _ (List.mem_of_getElem? (i := 6) rfl)
theorem mw_439 : Cond.code yX4_hl cX4_hl 1 (some .int) ∈ wsL_law := inR_19 _ (List.mem_of_getElem? (i := 7) rfl)
theorem mw_440 : Cond.methodLink RX4 129 yX4_wide ∈ wsL_law := inR_19 _ (List.mem_of_getElem? (i := 8) rfl)
theorem mw_441 : Cond.instanceMethod yX4_wide ∈ wsL_law := inR_19 _ (List.mem_of_getElem? (i := 9) rfl)
theorem mw_442 : Cond.selects RX4 yX4_wide yX4_wide ∈ wsL_law := inR_19 _ (List.mem_of_getElem? (i := 10) rfl)
theorem mw_443 : Cond.code yX4_wide cX4_wide 2 (some .int) ∈ wsL_law := inR_19 _ (List.mem_of_getElem? (i := 11) rfl)
theorem mw_444 : Cond.methodLink RX4 141 yX4_pair ∈ wsL_law := inR_19 _ (List.mem_of_getElem? (i := 12) rfl)
theorem mw_445 : Cond.instanceMethod yX4_pair ∈ wsL_law := inR_19 _ (List.mem_of_getElem? (i := 13) rfl)
theorem mw_446 : Cond.selects RX4 yX4_pair yX4_pair ∈ wsL_law := inR_19 _ (List.mem_of_getElem? (i := 14) rfl)
theorem mw_447 : Cond.code yX4_pair cX4_pair 2 (some .int) ∈ wsL_law := inR_19 _ (List.mem_of_getElem? (i := 15) rfl)
theorem mw_448 : Cond.methodLink RX4 70 yX4_flagsAre ∈ wsL_law := inR_19 _ (List.mem_of_getElem? (i := 16) rfl)
theorem mw_449 : Cond.instanceMethod yX4_flagsAre ∈ wsL_law := inR_19 _ (List.mem_of_getElem? (i := 17) rfl)
theorem mw_450 : Cond.selects RX4 yX4_flagsAre yX4_flagsAre ∈ wsL_law := inR_19 _ (List.mem_of_getElem? (i := 18) rfl)
theorem mw_451 : Cond.code yX4_flagsAre cX4_flagsAre 5 none ∈ wsL_law := inR_19 _ (List.mem_of_getElem? (i := 19) rfl)
theorem mw_452 : Cond.fieldLink RX4 58 "GameCoreModel" "minus" "Z" ∈ wsL_law := inR_19 _ (List.mem_of_getElem? (i := 20) rfl)
theorem mw_453 : Cond.fieldLink RX4 61 "GameCoreModel" "half" "Z" ∈ wsL_law := inR_19 _ (List.mem_of_getElem? (i := 21) rfl)
theorem mw_454 : Cond.methodLink RX4 144 yX4_setPair ∈ wsL_law := inR_19 _ (List.mem_of_getElem? (i := 22) rfl)
theorem mw_455 : Cond.instanceMethod yX4_setPair ∈ wsL_law := inR_19 _ (List.mem_of_getElem? (i := 23) rfl)
theorem mw_456 : Cond.selects RX4 yX4_setPair yX4_setPair ∈ wsL_law := inR_20 _ (List.mem_of_getElem? (i := 0) rfl)
theorem mw_457 : Cond.code yX4_setPair cX4_setPair 3 none ∈ wsL_law := inR_20 _ (List.mem_of_getElem? (i := 1) rfl)
theorem mw_458 : Cond.methodLink RX4 122 yX4_setWide ∈ wsL_law := inR_20 _ (List.mem_of_getElem? (i := 2) rfl)
theorem mw_459 : Cond.instanceMethod yX4_setWide ∈ wsL_law := inR_20 _ (List.mem_of_getElem? (i := 3) rfl)
theorem mw_460 : Cond.selects RX4 yX4_setWide yX4_setWide ∈ wsL_law := inR_20 _ (List.mem_of_getElem? (i := 4) rfl)
theorem mw_461 : Cond.code yX4_setWide cX4_setWide 3 none ∈ wsL_law := inR_20 _ (List.mem_of_getElem? (i := 5) rfl)
theorem mw_462 : Cond.methodLink RX4 125 yX4_byPair ∈ wsL_law := inR_20 _ (List.mem_of_getElem? (i := 6) rfl)
theorem mw_463 : Cond.instanceMethod yX4_byPair ∈ wsL_law := inR_20 _ (List.mem_of_getElem? (i := 7) rfl)
theorem mw_464 : Cond.selects RX4 yX4_byPair yX4_byPair ∈ wsL_law := inR_20 _ (List.mem_of_getElem? (i := 8) rfl)
theorem mw_465 : Cond.code yX4_byPair cX4_byPair 4 none ∈ wsL_law := inR_20 _ (List.mem_of_getElem? (i := 9) rfl)
theorem mw_466 : Cond.methodLink RX4 91 yX4_operand ∈ wsL_law := inR_20 _ (List.mem_of_getElem? (i := 10) rfl)
theorem mw_467 : Cond.instanceMethod yX4_operand ∈ wsL_law := inR_20 _ (List.mem_of_getElem? (i := 11) rfl)
theorem mw_468 : Cond.selects RX4 yX4_operand yX4_operand ∈ wsL_law := inR_20 _ (List.mem_of_getElem? (i := 12) rfl)
theorem mw_469 : Cond.code yX4_operand cX4_operand 2 (some .int) ∈ wsL_law := inR_20 _ (List.mem_of_getElem? (i := 13) rfl)
theorem mw_470 : Cond.methodLink RX4 132 yX4_increased ∈ wsL_law := inR_20 _ (List.mem_of_getElem? (i := 14) rfl)
theorem mw_471 : Cond.instanceMethod yX4_increased ∈ wsL_law := inR_20 _ (List.mem_of_getElem? (i := 15) rfl)
theorem mw_472 : Cond.selects RX4 yX4_increased yX4_increased ∈ wsL_law := inR_20 _ (List.mem_of_getElem? (i := 16) rfl)
theorem mw_473 : Cond.code yX4_increased cX4_increased 3 (some .int) ∈ wsL_law := inR_20 _ (List.mem_of_getElem? (i := 17) rfl)
theorem mw_474 : Cond.methodLink RX4 94 yX4_setOperand ∈ wsL_law := inR_20 _ (List.mem_of_getElem? (i := 18) rfl)
theorem mw_475 : Cond.instanceMethod yX4_setOperand ∈ wsL_law := inR_20 _ (List.mem_of_getElem? (i := 19) rfl)
theorem mw_476 : Cond.selects RX4 yX4_setOperand yX4_setOperand ∈ wsL_law := inR_20 _ (List.mem_of_getElem? (i := 20) rfl)
theorem mw_477 : Cond.code yX4_setOperand cX4_setOperand 3 none ∈ wsL_law := inR_20 _ (List.mem_of_getElem? (i := 21) rfl)
theorem mw_478 : Cond.methodLink RX4 135 yX4_decreased ∈ wsL_law := inR_20 _ (List.mem_of_getElem? (i := 22) rfl)
theorem mw_479 : Cond.instanceMethod yX4_decreased ∈ wsL_law := inR_20 _ (List.mem_of_getElem? (i := 23) rfl)
theorem mw_480 : Cond.selects RX4 yX4_decreased yX4_decreased ∈ wsL_law := inR_21 _ (List.mem_of_getElem? (i := 0) rfl)
theorem mw_481 : Cond.code yX4_decreased cX4_decreased 3 (some .int) ∈ wsL_law := inR_21 _ (List.mem_of_getElem? (i := 1) rfl)
theorem mw_482 : Cond.methodLink RX4 138 yX4_onA ∈ wsL_law := inR_21 _ (List.mem_of_getElem? (i := 2) rfl)
theorem mw_483 : Cond.instanceMethod yX4_onA ∈ wsL_law := inR_21 _ (List.mem_of_getElem? (i := 3) rfl)
theorem mw_484 : Cond.selects RX4 yX4_onA yX4_onA ∈ wsL_law := inR_21 _ (List.mem_of_getElem? (i := 4) rfl)
theorem mw_485 : Cond.code yX4_onA cX4_onA 2 none ∈ wsL_law := inR_21 _ (List.mem_of_getElem? (i := 5) rfl)
theorem mw_486 : Cond.methodLink RX4 151 yX4_turned ∈ wsL_law := inR_21 _ (List.mem_of_getElem? (i := 6) rfl)
theorem mw_487 : Cond.instanceMethod yX4_turned ∈ wsL_law := inR_21 _ (List.mem_of_getElem? (i := 7) rfl)
theorem mw_488 : Cond.selects RX4 yX4_turned yX4_turned ∈ wsL_law := inR_21 _ (List.mem_of_getElem? (i := 8) rfl)
theorem mw_489 : Cond.code yX4_turned cX4_turned 6 (some .int) ∈ wsL_law := inR_21 _ (List.mem_of_getElem? (i := 9) rfl)
theorem mw_490 : Cond.methodLink RX4 154 yX4_adjusts ∈ wsL_law := inR_21 _ (List.mem_of_getElem? (i := 10) rfl)
theorem mw_491 : Cond.instanceMethod yX4_adjusts ∈ wsL_law := inR_21 _ (List.mem_of_getElem? (i := 11) rfl)
theorem mw_492 : Cond.selects RX4 yX4_adjusts yX4_adjusts ∈ wsL_law := inR_21 _ (List.mem_of_getElem? (i := 12) rfl)
theorem mw_493 : Cond.code yX4_adjusts cX4_adjusts 4 none ∈ wsL_law := inR_21 _ (List.mem_of_getElem? (i := 13) rfl)
theorem mw_494 : Cond.methodLink RX4 87 yX4_halts ∈ wsL_law := inR_21 _ (List.mem_of_getElem? (i := 14) rfl)
theorem mw_495 : Cond.instanceMethod yX4_halts ∈ wsL_law := inR_21 _ (List.mem_of_getElem? (i := 15) rfl)
theorem mw_496 : Cond.selects RX4 yX4_halts yX4_halts ∈ wsL_law := inR_21 _ (List.mem_of_getElem? (i := 16) rfl)
theorem mw_497 : Cond.code yX4_halts cX4_halts 2 none ∈ wsL_law := inR_21 _ (List.mem_of_getElem? (i := 17) rfl)
theorem mw_498 : Cond.methodLink RX4 97 yX4_sums ∈ wsL_law := inR_21 _ (List.mem_of_getElem? (i := 18) rfl)
theorem mw_499 : Cond.instanceMethod yX4_sums ∈ wsL_law := inR_21 _ (List.mem_of_getElem? (i := 19) rfl)
theorem mw_500 : Cond.selects RX4 yX4_sums yX4_sums ∈ wsL_law := inR_21 _ (List.mem_of_getElem? (i := 20) rfl)
theorem mw_501 : Cond.code yX4_sums cX4_sums 5 none ∈ wsL_law := inR_21 _ (List.mem_of_getElem? (i := 21) rfl)
theorem mw_502 : Cond.methodLink RX4 74 yX4_adds ∈ wsL_law := inR_21 _ (List.mem_of_getElem? (i := 22) rfl)
theorem mw_503 : Cond.instanceMethod yX4_adds ∈ wsL_law := inR_21 _ (List.mem_of_getElem? (i := 23) rfl)
theorem mw_504 : Cond.selects RX4 yX4_adds yX4_adds ∈ wsL_law := inR_22 _ (List.mem_of_getElem? (i := 0) rfl)
theorem mw_505 : Cond.code yX4_adds cX4_adds 5 none ∈ wsL_law := inR_22 _ (List.mem_of_getElem? (i := 1) rfl)
theorem mw_506 : Cond.methodLink RX4 77 yX4_less ∈ wsL_law := inR_22 _ (List.mem_of_getElem? (i := 2) rfl)
theorem mw_507 : Cond.instanceMethod yX4_less ∈ wsL_law := inR_22 _ (List.mem_of_getElem? (i := 3) rfl)
theorem mw_508 : Cond.selects RX4 yX4_less yX4_less ∈ wsL_law := inR_22 _ (List.mem_of_getElem? (i := 4) rfl)
theorem mw_509 : Cond.code yX4_less cX4_less 5 (some .int) ∈ wsL_law := inR_22 _ (List.mem_of_getElem? (i := 5) rfl)
theorem mw_510 : Cond.methodLink RX4 100 yX4_last ∈ wsL_law := inR_22 _ (List.mem_of_getElem? (i := 6) rfl)
theorem mw_511 : Cond.instanceMethod yX4_last ∈ wsL_law := inR_22 _ (List.mem_of_getElem? (i := 7) rfl)
theorem mw_512 : Cond.selects RX4 yX4_last yX4_last ∈ wsL_law := inR_22 _ (List.mem_of_getElem? (i := 8) rfl)
theorem mw_513 : Cond.code yX4_last cX4_last 3 none ∈ wsL_law := inR_22 _ (List.mem_of_getElem? (i := 9) rfl)
theorem mw_514 : Cond.methodLink RX4 157 yX4_returnsIf ∈ wsL_law := inR_22 _ (List.mem_of_getElem? (i := 10) rfl)
theorem mw_515 : Cond.instanceMethod yX4_returnsIf ∈ wsL_law := inR_22 _ (List.mem_of_getElem? (i := 11) rfl)
theorem mw_516 : Cond.selects RX4 yX4_returnsIf yX4_returnsIf ∈ wsL_law := inR_22 _ (List.mem_of_getElem? (i := 12) rfl)
theorem mw_517 : Cond.code yX4_returnsIf cX4_returnsIf 2 none ∈ wsL_law := inR_22 _ (List.mem_of_getElem? (i := 13) rfl)
theorem mw_518 : Cond.methodLink RX4 187 yX4_pop ∈ wsL_law := inR_22 _ (List.mem_of_getElem? (i := 14) rfl)
theorem mw_519 : Cond.instanceMethod yX4_pop ∈ wsL_law := inR_22 _ (List.mem_of_getElem? (i := 15) rfl)
theorem mw_520 : Cond.selects RX4 yX4_pop yX4_pop ∈ wsL_law := inR_22 _ (List.mem_of_getElem? (i := 16) rfl)
theorem mw_521 : Cond.code yX4_pop cX4_pop 3 (some .int) ∈ wsL_law := inR_22 _ (List.mem_of_getElem? (i := 17) rfl)
theorem mw_522 : Cond.methodLink RX4 160 yX4_high ∈ wsL_law := inR_22 _ (List.mem_of_getElem? (i := 18) rfl)
theorem mw_523 : Cond.instanceMethod yX4_high ∈ wsL_law := inR_22 _ (List.mem_of_getElem? (i := 19) rfl)
theorem mw_524 : Cond.selects RX4 yX4_high yX4_high ∈ wsL_law := inR_22 _ (List.mem_of_getElem? (i := 20) rfl)
theorem mw_525 : Cond.code yX4_high cX4_high 3 none ∈ wsL_law := inR_22 _ (List.mem_of_getElem? (i := 21) rfl)
theorem mw_526 : Cond.constant RX4 190 (65280) ∈ wsL_law := inR_22 _ (List.mem_of_getElem? (i := 22) rfl)
theorem mw_527 : Cond.methodLink RX4 191 yX4_moved ∈ wsL_law := inR_22 _ (List.mem_of_getElem? (i := 23) rfl)
theorem mw_528 : Cond.instanceMethod yX4_moved ∈ wsL_law := inR_23 _ (List.mem_of_getElem? (i := 0) rfl)
theorem mw_529 : Cond.selects RX4 yX4_moved yX4_moved ∈ wsL_law := inR_23 _ (List.mem_of_getElem? (i := 1) rfl)
theorem mw_530 : Cond.code yX4_moved cX4_moved 3 (some .int) ∈ wsL_law := inR_23 _ (List.mem_of_getElem? (i := 2) rfl)
theorem mw_531 : Cond.methodLink RX4 163 yX4_popsOr ∈ wsL_law := inR_23 _ (List.mem_of_getElem? (i := 3) rfl)
theorem mw_532 : Cond.instanceMethod yX4_popsOr ∈ wsL_law := inR_23 _ (List.mem_of_getElem? (i := 4) rfl)
theorem mw_533 : Cond.selects RX4 yX4_popsOr yX4_popsOr ∈ wsL_law := inR_23 _ (List.mem_of_getElem? (i := 5) rfl)
theorem mw_534 : Cond.code yX4_popsOr cX4_popsOr 3 none ∈ wsL_law := inR_23 _ (List.mem_of_getElem? (i := 6) rfl)
theorem mw_535 : Cond.methodLink RX4 194 yX4_setFlags ∈ wsL_law := inR_23 _ (List.mem_of_getElem? (i := 7) rfl)
theorem mw_536 : Cond.instanceMethod yX4_setFlags ∈ wsL_law := inR_23 _ (List.mem_of_getElem? (i := 8) rfl)
theorem mw_537 : Cond.selects RX4 yX4_setFlags yX4_setFlags ∈ wsL_law := inR_23 _ (List.mem_of_getElem? (i := 9) rfl)
theorem mw_538 : Cond.code yX4_setFlags cX4_setFlags 2 none ∈ wsL_law := inR_23 _ (List.mem_of_getElem? (i := 10) rfl)
theorem mw_539 : Cond.methodLink RX4 166 yX4_jumpsIf ∈ wsL_law := inR_23 _ (List.mem_of_getElem? (i := 11) rfl)
theorem mw_540 : Cond.instanceMethod yX4_jumpsIf ∈ wsL_law := inR_23 _ (List.mem_of_getElem? (i := 12) rfl)
theorem mw_541 : Cond.selects RX4 yX4_jumpsIf yX4_jumpsIf ∈ wsL_law := inR_23 _ (List.mem_of_getElem? (i := 13) rfl)
theorem mw_542 : Cond.code yX4_jumpsIf cX4_jumpsIf 3 none ∈ wsL_law := inR_23 _ (List.mem_of_getElem? (i := 14) rfl)
theorem mw_543 : Cond.methodLink RX4 169 yX4_far ∈ wsL_law := inR_23 _ (List.mem_of_getElem? (i := 15) rfl)
theorem mw_544 : Cond.instanceMethod yX4_far ∈ wsL_law := inR_23 _ (List.mem_of_getElem? (i := 16) rfl)
theorem mw_545 : Cond.selects RX4 yX4_far yX4_far ∈ wsL_law := inR_23 _ (List.mem_of_getElem? (i := 17) rfl)
theorem mw_546 : Cond.code yX4_far cX4_far 3 none ∈ wsL_law := inR_23 _ (List.mem_of_getElem? (i := 18) rfl)
theorem mw_547 : Cond.methodLink RX4 172 yX4_others ∈ wsL_law := inR_23 _ (List.mem_of_getElem? (i := 19) rfl)
theorem mw_548 : Cond.instanceMethod yX4_others ∈ wsL_law := inR_23 _ (List.mem_of_getElem? (i := 20) rfl)
theorem mw_549 : Cond.selects RX4 yX4_others yX4_others ∈ wsL_law := inR_23 _ (List.mem_of_getElem? (i := 21) rfl)
theorem mw_550 : Cond.code yX4_others cX4_others 2 none ∈ wsL_law := inR_23 _ (List.mem_of_getElem? (i := 22) rfl)
theorem mw_551 : Cond.methodLink RX4 200 yX4_extended ∈ wsL_law := inR_23 _ (List.mem_of_getElem? (i := 23) rfl)
theorem mw_552 : Cond.instanceMethod yX4_extended ∈ wsL_law := inR_24 _ (List.mem_of_getElem? (i := 0) rfl)
theorem mw_553 : Cond.selects RX4 yX4_extended yX4_extended ∈ wsL_law := inR_24 _ (List.mem_of_getElem? (i := 1) rfl)
theorem mw_554 : Cond.code yX4_extended cX4_extended 5 none ∈ wsL_law := inR_24 _ (List.mem_of_getElem? (i := 2) rfl)
theorem mw_555 : Cond.methodLink RX4 175 yX4_callsIf ∈ wsL_law := inR_24 _ (List.mem_of_getElem? (i := 3) rfl)
theorem mw_556 : Cond.instanceMethod yX4_callsIf ∈ wsL_law := inR_24 _ (List.mem_of_getElem? (i := 4) rfl)
theorem mw_557 : Cond.selects RX4 yX4_callsIf yX4_callsIf ∈ wsL_law := inR_24 _ (List.mem_of_getElem? (i := 5) rfl)
theorem mw_558 : Cond.code yX4_callsIf cX4_callsIf 3 none ∈ wsL_law := inR_24 _ (List.mem_of_getElem? (i := 6) rfl)
theorem mw_559 : Cond.methodLink RX4 184 yX4_calls ∈ wsL_law := inR_24 _ (List.mem_of_getElem? (i := 7) rfl)
theorem mw_560 : Cond.instanceMethod yX4_calls ∈ wsL_law := inR_24 _ (List.mem_of_getElem? (i := 8) rfl)
theorem mw_561 : Cond.selects RX4 yX4_calls yX4_calls ∈ wsL_law := inR_24 _ (List.mem_of_getElem? (i := 9) rfl)
theorem mw_562 : Cond.code yX4_calls cX4_calls 2 none ∈ wsL_law := inR_24 _ (List.mem_of_getElem? (i := 10) rfl)
theorem mw_563 : Cond.methodLink RX4 178 yX4_flags ∈ wsL_law := inR_24 _ (List.mem_of_getElem? (i := 11) rfl)
theorem mw_564 : Cond.instanceMethod yX4_flags ∈ wsL_law := inR_24 _ (List.mem_of_getElem? (i := 12) rfl)
theorem mw_565 : Cond.selects RX4 yX4_flags yX4_flags ∈ wsL_law := inR_24 _ (List.mem_of_getElem? (i := 13) rfl)
theorem mw_566 : Cond.code yX4_flags cX4_flags 1 (some .int) ∈ wsL_law := inR_24 _ (List.mem_of_getElem? (i := 14) rfl)
theorem mw_567 : Cond.methodLink RL 33 yX3_run ∈ wsL_law := inR_24 _ (List.mem_of_getElem? (i := 15) rfl)
theorem mw_568 : Cond.instanceMethod yX3_run ∈ wsL_law := inR_24 _ (List.mem_of_getElem? (i := 16) rfl)
theorem mw_569 : Cond.selects RX3 yX3_run yX3_run ∈ wsL_law := inR_24 _ (List.mem_of_getElem? (i := 17) rfl)
theorem mw_570 : Cond.code yX3_run cX3_run 3 (some .int) ∈ wsL_law := inR_24 _ (List.mem_of_getElem? (i := 18) rfl)
theorem mw_571 : Cond.methodLink RL 36 yX4_run ∈ wsL_law := inR_24 _ (List.mem_of_getElem? (i := 19) rfl)
theorem mw_572 : Cond.instanceMethod yX4_run ∈ wsL_law := inR_24 _ (List.mem_of_getElem? (i := 20) rfl)
theorem mw_573 : Cond.selects RX4 yX4_run yX4_run ∈ wsL_law := inR_24 _ (List.mem_of_getElem? (i := 21) rfl)
theorem mw_574 : Cond.code yX4_run cX4_run 3 (some .int) ∈ wsL_law := inR_24 _ (List.mem_of_getElem? (i := 22) rfl)
theorem mw_575 : Cond.methodLink RX4 225 yX4_step ∈ wsL_law := inR_24 _ (List.mem_of_getElem? (i := 23) rfl)
theorem mw_576 : Cond.methodLink RL 37 yX3_request ∈ wsL_law := inR_25 _ (List.mem_of_getElem? (i := 0) rfl)
theorem mw_577 : Cond.instanceMethod yX3_request ∈ wsL_law := inR_25 _ (List.mem_of_getElem? (i := 1) rfl)
theorem mw_578 : Cond.selects RX3 yX3_request yX3_request ∈ wsL_law := inR_25 _ (List.mem_of_getElem? (i := 2) rfl)
theorem mw_579 : Cond.code yX3_request cX3_request 2 (some .boolean) ∈ wsL_law := inR_25 _ (List.mem_of_getElem? (i := 3) rfl)
theorem mw_580 : Cond.methodLink RX3 45 yX0_raiseInterrupts ∈ wsL_law := inR_25 _ (List.mem_of_getElem? (i := 4) rfl)
theorem mw_581 : Cond.methodLink RL 41 yX4_request ∈ wsL_law := inR_25 _ (List.mem_of_getElem? (i := 5) rfl)
theorem mw_582 : Cond.instanceMethod yX4_request ∈ wsL_law := inR_25 _ (List.mem_of_getElem? (i := 6) rfl)
theorem mw_583 : Cond.selects RX4 yX4_request yX4_request ∈ wsL_law := inR_25 _ (List.mem_of_getElem? (i := 7) rfl)
theorem mw_584 : Cond.code yX4_request cX4_request 2 (some .boolean) ∈ wsL_law := inR_25 _ (List.mem_of_getElem? (i := 8) rfl)
theorem mw_585 : Cond.methodLink RL 42 yX3_reg ∈ wsL_law := inR_25 _ (List.mem_of_getElem? (i := 9) rfl)
theorem mw_586 : Cond.instanceMethod yX3_reg ∈ wsL_law := inR_25 _ (List.mem_of_getElem? (i := 10) rfl)
theorem mw_587 : Cond.selects RX3 yX3_reg yX3_reg ∈ wsL_law := inR_25 _ (List.mem_of_getElem? (i := 11) rfl)
theorem mw_588 : Cond.code yX3_reg cX3_reg 2 (some .int) ∈ wsL_law := inR_25 _ (List.mem_of_getElem? (i := 12) rfl)
theorem mw_589 : Cond.methodLink RL 45 yX4_reg ∈ wsL_law := inR_25 _ (List.mem_of_getElem? (i := 13) rfl)
theorem mw_590 : Cond.instanceMethod yX4_reg ∈ wsL_law := inR_25 _ (List.mem_of_getElem? (i := 14) rfl)
theorem mw_591 : Cond.selects RX4 yX4_reg yX4_reg ∈ wsL_law := inR_25 _ (List.mem_of_getElem? (i := 15) rfl)
theorem mw_592 : Cond.code yX4_reg cX4_reg 2 (some .int) ∈ wsL_law := inR_25 _ (List.mem_of_getElem? (i := 16) rfl)
theorem mw_593 : Cond.methodLink RL 46 yX3_set ∈ wsL_law := inR_25 _ (List.mem_of_getElem? (i := 17) rfl)
theorem mw_594 : Cond.instanceMethod yX3_set ∈ wsL_law := inR_25 _ (List.mem_of_getElem? (i := 18) rfl)
theorem mw_595 : Cond.selects RX3 yX3_set yX3_set ∈ wsL_law := inR_25 _ (List.mem_of_getElem? (i := 19) rfl)
theorem mw_596 : Cond.code yX3_set cX3_set 3 (some .boolean) ∈ wsL_law := inR_25 _ (List.mem_of_getElem? (i := 20) rfl)
theorem mw_597 : Cond.methodLink RL 49 yX4_set ∈ wsL_law := inR_25 _ (List.mem_of_getElem? (i := 21) rfl)
theorem mw_598 : Cond.instanceMethod yX4_set ∈ wsL_law := inR_25 _ (List.mem_of_getElem? (i := 22) rfl)
theorem mw_599 : Cond.selects RX4 yX4_set yX4_set ∈ wsL_law := inR_25 _ (List.mem_of_getElem? (i := 23) rfl)
theorem mw_600 : Cond.code yX4_set cX4_set 3 (some .boolean) ∈ wsL_law := inR_26 _ (List.mem_of_getElem? (i := 0) rfl)
theorem mw_601 : Cond.methodLink RL 50 yX3_look ∈ wsL_law := inR_26 _ (List.mem_of_getElem? (i := 1) rfl)
theorem mw_602 : Cond.instanceMethod yX3_look ∈ wsL_law := inR_26 _ (List.mem_of_getElem? (i := 2) rfl)
theorem mw_603 : Cond.selects RX3 yX3_look yX3_look ∈ wsL_law := inR_26 _ (List.mem_of_getElem? (i := 3) rfl)
theorem mw_604 : Cond.code yX3_look cX3_look 2 (some .int) ∈ wsL_law := inR_26 _ (List.mem_of_getElem? (i := 4) rfl)
theorem mw_605 : Cond.methodLink RL 53 yX4_look ∈ wsL_law := inR_26 _ (List.mem_of_getElem? (i := 5) rfl)
theorem mw_606 : Cond.instanceMethod yX4_look ∈ wsL_law := inR_26 _ (List.mem_of_getElem? (i := 6) rfl)
theorem mw_607 : Cond.selects RX4 yX4_look yX4_look ∈ wsL_law := inR_26 _ (List.mem_of_getElem? (i := 7) rfl)
theorem mw_608 : Cond.code yX4_look cX4_look 2 (some .int) ∈ wsL_law := inR_26 _ (List.mem_of_getElem? (i := 8) rfl)
theorem mw_609 : Cond.methodLink RL 54 yX3_mcycles ∈ wsL_law := inR_26 _ (List.mem_of_getElem? (i := 9) rfl)
theorem mw_610 : Cond.instanceMethod yX3_mcycles ∈ wsL_law := inR_26 _ (List.mem_of_getElem? (i := 10) rfl)
theorem mw_611 : Cond.selects RX3 yX3_mcycles yX3_mcycles ∈ wsL_law := inR_26 _ (List.mem_of_getElem? (i := 11) rfl)
theorem mw_612 : Cond.code yX3_mcycles cX3_mcycles 1 (some .int) ∈ wsL_law := inR_26 _ (List.mem_of_getElem? (i := 12) rfl)
theorem mw_613 : Cond.methodLink RL 57 yX4_mcycles ∈ wsL_law := inR_26 _ (List.mem_of_getElem? (i := 13) rfl)
theorem mw_614 : Cond.instanceMethod yX4_mcycles ∈ wsL_law := inR_26 _ (List.mem_of_getElem? (i := 14) rfl)
theorem mw_615 : Cond.selects RX4 yX4_mcycles yX4_mcycles ∈ wsL_law := inR_26 _ (List.mem_of_getElem? (i := 15) rfl)
theorem mw_616 : Cond.code yX4_mcycles cX4_mcycles 1 (some .int) ∈ wsL_law := inR_26 _ (List.mem_of_getElem? (i := 16) rfl)
theorem mw_good : ∀ w ∈ wsL_law, goodWord w = true := List.all_eq_true.mp (by decide +kernel)
theorem gw_V {own C : String} {idx : Nat} {y : MethodName} {cc : ByteArray} {ml : Nat} {ret : Option FieldType} (h1 : Cond.methodLink own idx y ∈ wsL_law) (h2 : Cond.instanceMethod y ∈ wsL_law) (h3 : Cond.selects C y y ∈ wsL_law) (h4 : Cond.initialized C ∈ wsL_law) (h5 : Cond.code y cc ml ret ∈ wsL_law) : GoodIn wsL_law (wsV own idx C y (Cond.code y cc ml ret :: wsL_law)) := by
  have key : ∀ w, w ∈ wsL_law → w ∈ wsL_law ∧ ((w.onTables && w.keeps) = true ∨ ∃ ty, w = .arrayClass ty) := fun w h => ⟨h, good_of_word (mw_good w h)⟩
  intro w hw
  unfold wsV at hw
  simp only [List.mem_append, List.mem_cons, List.not_mem_nil, or_false] at hw
  rcases hw with (rfl | rfl | rfl | rfl) | rfl | h
  · exact key _ h1
  · exact key _ h2
  · exact key _ h3
  · exact key _ h4
  · exact key _ h5
  · exact key _ h
theorem gw_S {own : String} {idx : Nat} {y : MethodName} {cc : ByteArray} {ml : Nat} {ret : Option FieldType} (h1 : Cond.methodLink own idx y ∈ wsL_law) (h2 : Cond.static y ∈ wsL_law) (h4 : Cond.initialized y.cls ∈ wsL_law) (h5 : Cond.code y cc ml ret ∈ wsL_law) : GoodIn wsL_law (va_wsS own idx y (Cond.code y cc ml ret :: wsL_law)) := by
  have key : ∀ w, w ∈ wsL_law → w ∈ wsL_law ∧ ((w.onTables && w.keeps) = true ∨ ∃ ty, w = .arrayClass ty) := fun w h => ⟨h, good_of_word (mw_good w h)⟩
  intro w hw
  unfold va_wsS at hw
  simp only [List.mem_append, List.mem_cons, List.not_mem_nil, or_false] at hw
  rcases hw with (rfl | rfl | rfl) | rfl | h
  · exact key _ h1
  · exact key _ h2
  · exact key _ h4
  · exact key _ h5
  · exact key _ h
theorem gw_I {y : MethodName} {cc : ByteArray} {ml : Nat} {ret : Option FieldType} (h5 : Cond.code y cc ml ret ∈ wsL_law) : GoodIn wsL_law (Cond.code y cc ml ret :: wsL_law) := by
  intro w hw
  rcases List.mem_cons.mp hw with rfl | h
  · exact ⟨h5, good_of_word (mw_good _ h5)⟩
  · exact ⟨h, good_of_word (mw_good w h)⟩
end
section
theorem dX0_init_0 : decode cX0_init 0 = .ok (.aload_n 0, 1) := by decide +kernel
theorem dX0_init_1 : decode cX0_init 1 = .ok (.invokespecial 3, 3) := by decide +kernel
theorem dX0_init_4 : decode cX0_init 4 = .ok (.aload_n 0, 1) := by decide +kernel
theorem dX0_init_5 : decode cX0_init 5 = .ok (.ldc 9, 2) := by decide +kernel
theorem dX0_init_7 : decode cX0_init 7 = .ok (.newarray .byte, 2) := by decide +kernel
theorem dX0_init_9 : decode cX0_init 9 = .ok (.putfield 10, 3) := by decide +kernel
theorem dX0_init_12 : decode cX0_init 12 = .ok (.return_, 1) := by decide +kernel
theorem dX0_at_0 : decode cX0_at 0 = .ok (.aload_n 0, 1) := by decide +kernel
theorem dX0_at_1 : decode cX0_at 1 = .ok (.getfield 10, 3) := by decide +kernel
theorem dX0_at_4 : decode cX0_at 4 = .ok (.iload_n 1, 1) := by decide +kernel
theorem dX0_at_5 : decode cX0_at 5 = .ok (.ldc 16, 2) := by decide +kernel
theorem dX0_at_7 : decode cX0_at 7 = .ok (.iand, 1) := by decide +kernel
theorem dX0_at_8 : decode cX0_at 8 = .ok (.baload, 1) := by decide +kernel
theorem dX0_at_9 : decode cX0_at 9 = .ok (.sipush 255, 3) := by decide +kernel
theorem dX0_at_12 : decode cX0_at 12 = .ok (.iand, 1) := by decide +kernel
theorem dX0_at_13 : decode cX0_at 13 = .ok (.ireturn, 1) := by decide +kernel
theorem dX0_store_0 : decode cX0_store 0 = .ok (.aload_n 0, 1) := by decide +kernel
theorem dX0_store_1 : decode cX0_store 1 = .ok (.getfield 10, 3) := by decide +kernel
theorem dX0_store_4 : decode cX0_store 4 = .ok (.iload_n 1, 1) := by decide +kernel
theorem dX0_store_5 : decode cX0_store 5 = .ok (.ldc 16, 2) := by decide +kernel
theorem dX0_store_7 : decode cX0_store 7 = .ok (.iand, 1) := by decide +kernel
theorem dX0_store_8 : decode cX0_store 8 = .ok (.iload_n 2, 1) := by decide +kernel
theorem dX0_store_9 : decode cX0_store 9 = .ok (.i2b, 1) := by decide +kernel
theorem dX0_store_10 : decode cX0_store 10 = .ok (.bastore, 1) := by decide +kernel
theorem dX0_store_11 : decode cX0_store 11 = .ok (.return_, 1) := by decide +kernel
theorem dX0_storeNumber_0 : decode cX0_storeNumber 0 = .ok (.iconst 0, 1) := by decide +kernel
theorem dX0_storeNumber_1 : decode cX0_storeNumber 1 = .ok (.istore_n 3, 1) := by decide +kernel
theorem dX0_storeNumber_2 : decode cX0_storeNumber 2 = .ok (.iload_n 3, 1) := by decide +kernel
theorem dX0_storeNumber_3 : decode cX0_storeNumber 3 = .ok (.iconst 4, 1) := by decide +kernel
theorem dX0_storeNumber_4 : decode cX0_storeNumber 4 = .ok (.if_icmp .ge 25, 3) := by decide +kernel
theorem dX0_storeNumber_7 : decode cX0_storeNumber 7 = .ok (.aload_n 0, 1) := by decide +kernel
theorem dX0_storeNumber_8 : decode cX0_storeNumber 8 = .ok (.iload_n 1, 1) := by decide +kernel
theorem dX0_storeNumber_9 : decode cX0_storeNumber 9 = .ok (.iload_n 3, 1) := by decide +kernel
theorem dX0_storeNumber_10 : decode cX0_storeNumber 10 = .ok (.iadd, 1) := by decide +kernel
theorem dX0_storeNumber_11 : decode cX0_storeNumber 11 = .ok (.iload_n 2, 1) := by decide +kernel
theorem dX0_storeNumber_12 : decode cX0_storeNumber 12 = .ok (.bipush 24, 2) := by decide +kernel
theorem dX0_storeNumber_14 : decode cX0_storeNumber 14 = .ok (.bipush 8, 2) := by decide +kernel
theorem dX0_storeNumber_16 : decode cX0_storeNumber 16 = .ok (.iload_n 3, 1) := by decide +kernel
theorem dX0_storeNumber_17 : decode cX0_storeNumber 17 = .ok (.imul, 1) := by decide +kernel
theorem dX0_storeNumber_18 : decode cX0_storeNumber 18 = .ok (.isub, 1) := by decide +kernel
theorem dX0_storeNumber_19 : decode cX0_storeNumber 19 = .ok (.ishr, 1) := by decide +kernel
theorem dX0_storeNumber_20 : decode cX0_storeNumber 20 = .ok (.invokevirtual 17, 3) := by decide +kernel
theorem dX0_storeNumber_23 : decode cX0_storeNumber 23 = .ok (.iinc 3 1, 3) := by decide +kernel
theorem dX0_storeNumber_26 : decode cX0_storeNumber 26 = .ok (.goto (-24), 3) := by decide +kernel
theorem dX0_storeNumber_29 : decode cX0_storeNumber 29 = .ok (.return_, 1) := by decide +kernel
theorem dX0_write_0 : decode cX0_write 0 = .ok (.iload_n 1, 1) := by decide +kernel
theorem dX0_write_1 : decode cX0_write 1 = .ok (.ldc 16, 2) := by decide +kernel
theorem dX0_write_3 : decode cX0_write 3 = .ok (.iand, 1) := by decide +kernel
theorem dX0_write_4 : decode cX0_write 4 = .ok (.ldc 21, 2) := by decide +kernel
theorem dX0_write_6 : decode cX0_write 6 = .ok (.if_icmp .ne 19, 3) := by decide +kernel
theorem dX0_write_9 : decode cX0_write 9 = .ok (.aload_n 0, 1) := by decide +kernel
theorem dX0_write_10 : decode cX0_write 10 = .ok (.iconst 0, 1) := by decide +kernel
theorem dX0_write_11 : decode cX0_write 11 = .ok (.putfield 22, 3) := by decide +kernel
theorem dX0_write_14 : decode cX0_write 14 = .ok (.aload_n 0, 1) := by decide +kernel
theorem dX0_write_15 : decode cX0_write 15 = .ok (.getfield 10, 3) := by decide +kernel
theorem dX0_write_18 : decode cX0_write 18 = .ok (.ldc 21, 2) := by decide +kernel
theorem dX0_write_20 : decode cX0_write 20 = .ok (.iconst 0, 1) := by decide +kernel
theorem dX0_write_21 : decode cX0_write 21 = .ok (.bastore, 1) := by decide +kernel
theorem dX0_write_22 : decode cX0_write 22 = .ok (.goto 14, 3) := by decide +kernel
theorem dX0_write_25 : decode cX0_write 25 = .ok (.aload_n 0, 1) := by decide +kernel
theorem dX0_write_26 : decode cX0_write 26 = .ok (.getfield 10, 3) := by decide +kernel
theorem dX0_write_29 : decode cX0_write 29 = .ok (.iload_n 1, 1) := by decide +kernel
theorem dX0_write_30 : decode cX0_write 30 = .ok (.ldc 16, 2) := by decide +kernel
theorem dX0_write_32 : decode cX0_write 32 = .ok (.iand, 1) := by decide +kernel
theorem dX0_write_33 : decode cX0_write 33 = .ok (.iload_n 2, 1) := by decide +kernel
theorem dX0_write_34 : decode cX0_write 34 = .ok (.i2b, 1) := by decide +kernel
theorem dX0_write_35 : decode cX0_write 35 = .ok (.bastore, 1) := by decide +kernel
theorem dX0_write_36 : decode cX0_write 36 = .ok (.return_, 1) := by decide +kernel
theorem dX0_pending_0 : decode cX0_pending 0 = .ok (.aload_n 0, 1) := by decide +kernel
theorem dX0_pending_1 : decode cX0_pending 1 = .ok (.ldc 16, 2) := by decide +kernel
theorem dX0_pending_3 : decode cX0_pending 3 = .ok (.invokevirtual 26, 3) := by decide +kernel
theorem dX0_pending_6 : decode cX0_pending 6 = .ok (.aload_n 0, 1) := by decide +kernel
theorem dX0_pending_7 : decode cX0_pending 7 = .ok (.ldc 30, 2) := by decide +kernel
theorem dX0_pending_9 : decode cX0_pending 9 = .ok (.invokevirtual 26, 3) := by decide +kernel
theorem dX0_pending_12 : decode cX0_pending 12 = .ok (.iand, 1) := by decide +kernel
theorem dX0_pending_13 : decode cX0_pending 13 = .ok (.bipush 31, 2) := by decide +kernel
theorem dX0_pending_15 : decode cX0_pending 15 = .ok (.iand, 1) := by decide +kernel
theorem dX0_pending_16 : decode cX0_pending 16 = .ok (.ireturn, 1) := by decide +kernel
theorem dX0_raiseInterrupts_0 : decode cX0_raiseInterrupts 0 = .ok (.aload_n 0, 1) := by decide +kernel
theorem dX0_raiseInterrupts_1 : decode cX0_raiseInterrupts 1 = .ok (.ldc 30, 2) := by decide +kernel
theorem dX0_raiseInterrupts_3 : decode cX0_raiseInterrupts 3 = .ok (.aload_n 0, 1) := by decide +kernel
theorem dX0_raiseInterrupts_4 : decode cX0_raiseInterrupts 4 = .ok (.ldc 30, 2) := by decide +kernel
theorem dX0_raiseInterrupts_6 : decode cX0_raiseInterrupts 6 = .ok (.invokevirtual 26, 3) := by decide +kernel
theorem dX0_raiseInterrupts_9 : decode cX0_raiseInterrupts 9 = .ok (.iload_n 1, 1) := by decide +kernel
theorem dX0_raiseInterrupts_10 : decode cX0_raiseInterrupts 10 = .ok (.ior, 1) := by decide +kernel
theorem dX0_raiseInterrupts_11 : decode cX0_raiseInterrupts 11 = .ok (.invokevirtual 17, 3) := by decide +kernel
theorem dX0_raiseInterrupts_14 : decode cX0_raiseInterrupts 14 = .ok (.return_, 1) := by decide +kernel
theorem dX0_clearInterrupt_0 : decode cX0_clearInterrupt 0 = .ok (.aload_n 0, 1) := by decide +kernel
theorem dX0_clearInterrupt_1 : decode cX0_clearInterrupt 1 = .ok (.ldc 30, 2) := by decide +kernel
theorem dX0_clearInterrupt_3 : decode cX0_clearInterrupt 3 = .ok (.aload_n 0, 1) := by decide +kernel
theorem dX0_clearInterrupt_4 : decode cX0_clearInterrupt 4 = .ok (.ldc 30, 2) := by decide +kernel
theorem dX0_clearInterrupt_6 : decode cX0_clearInterrupt 6 = .ok (.invokevirtual 26, 3) := by decide +kernel
theorem dX0_clearInterrupt_9 : decode cX0_clearInterrupt 9 = .ok (.iconst 1, 1) := by decide +kernel
theorem dX0_clearInterrupt_10 : decode cX0_clearInterrupt 10 = .ok (.iload_n 1, 1) := by decide +kernel
theorem dX0_clearInterrupt_11 : decode cX0_clearInterrupt 11 = .ok (.ishl, 1) := by decide +kernel
theorem dX0_clearInterrupt_12 : decode cX0_clearInterrupt 12 = .ok (.iconst (-1), 1) := by decide +kernel
theorem dX0_clearInterrupt_13 : decode cX0_clearInterrupt 13 = .ok (.ixor, 1) := by decide +kernel
theorem dX0_clearInterrupt_14 : decode cX0_clearInterrupt 14 = .ok (.iand, 1) := by decide +kernel
theorem dX0_clearInterrupt_15 : decode cX0_clearInterrupt 15 = .ok (.invokevirtual 17, 3) := by decide +kernel
theorem dX0_clearInterrupt_18 : decode cX0_clearInterrupt 18 = .ok (.return_, 1) := by decide +kernel
theorem dX0_tick_0 : decode cX0_tick 0 = .ok (.aload_n 0, 1) := by decide +kernel
theorem dX0_tick_1 : decode cX0_tick 1 = .ok (.aload_n 0, 1) := by decide +kernel
theorem dX0_tick_2 : decode cX0_tick 2 = .ok (.getfield 22, 3) := by decide +kernel
theorem dX0_tick_5 : decode cX0_tick 5 = .ok (.iconst 1, 1) := by decide +kernel
theorem dX0_tick_6 : decode cX0_tick 6 = .ok (.iadd, 1) := by decide +kernel
theorem dX0_tick_7 : decode cX0_tick 7 = .ok (.sipush 255, 3) := by decide +kernel
theorem dX0_tick_10 : decode cX0_tick 10 = .ok (.iand, 1) := by decide +kernel
theorem dX0_tick_11 : decode cX0_tick 11 = .ok (.putfield 22, 3) := by decide +kernel
theorem dX0_tick_14 : decode cX0_tick 14 = .ok (.aload_n 0, 1) := by decide +kernel
theorem dX0_tick_15 : decode cX0_tick 15 = .ok (.getfield 22, 3) := by decide +kernel
theorem dX0_tick_18 : decode cX0_tick 18 = .ok (.bipush 63, 2) := by decide +kernel
theorem dX0_tick_20 : decode cX0_tick 20 = .ok (.iand, 1) := by decide +kernel
theorem dX0_tick_21 : decode cX0_tick 21 = .ok (.ifCond .ne 17, 3) := by decide +kernel
theorem dX0_tick_24 : decode cX0_tick 24 = .ok (.aload_n 0, 1) := by decide +kernel
theorem dX0_tick_25 : decode cX0_tick 25 = .ok (.ldc 21, 2) := by decide +kernel
theorem dX0_tick_27 : decode cX0_tick 27 = .ok (.aload_n 0, 1) := by decide +kernel
theorem dX0_tick_28 : decode cX0_tick 28 = .ok (.ldc 21, 2) := by decide +kernel
theorem dX0_tick_30 : decode cX0_tick 30 = .ok (.invokevirtual 26, 3) := by decide +kernel
theorem dX0_tick_33 : decode cX0_tick 33 = .ok (.iconst 1, 1) := by decide +kernel
theorem dX0_tick_34 : decode cX0_tick 34 = .ok (.iadd, 1) := by decide +kernel
theorem dX0_tick_35 : decode cX0_tick 35 = .ok (.invokevirtual 17, 3) := by decide +kernel
theorem dX0_tick_38 : decode cX0_tick 38 = .ok (.aload_n 0, 1) := by decide +kernel
theorem dX0_tick_39 : decode cX0_tick 39 = .ok (.ldc 31, 2) := by decide +kernel
theorem dX0_tick_41 : decode cX0_tick 41 = .ok (.invokevirtual 26, 3) := by decide +kernel
theorem dX0_tick_44 : decode cX0_tick 44 = .ok (.istore_n 1, 1) := by decide +kernel
theorem dX0_tick_45 : decode cX0_tick 45 = .ok (.iload_n 1, 1) := by decide +kernel
theorem dX0_tick_46 : decode cX0_tick 46 = .ok (.iconst 4, 1) := by decide +kernel
theorem dX0_tick_47 : decode cX0_tick 47 = .ok (.iand, 1) := by decide +kernel
theorem dX0_tick_48 : decode cX0_tick 48 = .ok (.ifCond .eq 22, 3) := by decide +kernel
theorem dX0_tick_51 : decode cX0_tick 51 = .ok (.aload_n 0, 1) := by decide +kernel
theorem dX0_tick_52 : decode cX0_tick 52 = .ok (.getfield 22, 3) := by decide +kernel
theorem dX0_tick_55 : decode cX0_tick 55 = .ok (.getstatic 32, 3) := by decide +kernel
theorem dX0_tick_58 : decode cX0_tick 58 = .ok (.iload_n 1, 1) := by decide +kernel
theorem dX0_tick_59 : decode cX0_tick 59 = .ok (.iconst 3, 1) := by decide +kernel
theorem dX0_tick_60 : decode cX0_tick 60 = .ok (.iand, 1) := by decide +kernel
theorem dX0_tick_61 : decode cX0_tick 61 = .ok (.iaload, 1) := by decide +kernel
theorem dX0_tick_62 : decode cX0_tick 62 = .ok (.iand, 1) := by decide +kernel
theorem dX0_tick_63 : decode cX0_tick 63 = .ok (.ifCond .ne 7, 3) := by decide +kernel
theorem dX0_tick_66 : decode cX0_tick 66 = .ok (.aload_n 0, 1) := by decide +kernel
theorem dX0_tick_67 : decode cX0_tick 67 = .ok (.invokevirtual 36, 3) := by decide +kernel
theorem dX0_tick_70 : decode cX0_tick 70 = .ok (.return_, 1) := by decide +kernel
theorem dX0_countTimer_0 : decode cX0_countTimer 0 = .ok (.aload_n 0, 1) := by decide +kernel
theorem dX0_countTimer_1 : decode cX0_countTimer 1 = .ok (.ldc 39, 2) := by decide +kernel
theorem dX0_countTimer_3 : decode cX0_countTimer 3 = .ok (.aload_n 0, 1) := by decide +kernel
theorem dX0_countTimer_4 : decode cX0_countTimer 4 = .ok (.ldc 39, 2) := by decide +kernel
theorem dX0_countTimer_6 : decode cX0_countTimer 6 = .ok (.invokevirtual 26, 3) := by decide +kernel
theorem dX0_countTimer_9 : decode cX0_countTimer 9 = .ok (.iconst 1, 1) := by decide +kernel
theorem dX0_countTimer_10 : decode cX0_countTimer 10 = .ok (.iadd, 1) := by decide +kernel
theorem dX0_countTimer_11 : decode cX0_countTimer 11 = .ok (.invokevirtual 17, 3) := by decide +kernel
theorem dX0_countTimer_14 : decode cX0_countTimer 14 = .ok (.aload_n 0, 1) := by decide +kernel
theorem dX0_countTimer_15 : decode cX0_countTimer 15 = .ok (.ldc 39, 2) := by decide +kernel
theorem dX0_countTimer_17 : decode cX0_countTimer 17 = .ok (.invokevirtual 26, 3) := by decide +kernel
theorem dX0_countTimer_20 : decode cX0_countTimer 20 = .ok (.ifCond .ne 20, 3) := by decide +kernel
theorem dX0_countTimer_23 : decode cX0_countTimer 23 = .ok (.aload_n 0, 1) := by decide +kernel
theorem dX0_countTimer_24 : decode cX0_countTimer 24 = .ok (.ldc 39, 2) := by decide +kernel
theorem dX0_countTimer_26 : decode cX0_countTimer 26 = .ok (.aload_n 0, 1) := by decide +kernel
theorem dX0_countTimer_27 : decode cX0_countTimer 27 = .ok (.ldc 40, 2) := by decide +kernel
theorem dX0_countTimer_29 : decode cX0_countTimer 29 = .ok (.invokevirtual 26, 3) := by decide +kernel
theorem dX0_countTimer_32 : decode cX0_countTimer 32 = .ok (.invokevirtual 17, 3) := by decide +kernel
theorem dX0_countTimer_35 : decode cX0_countTimer 35 = .ok (.aload_n 0, 1) := by decide +kernel
theorem dX0_countTimer_36 : decode cX0_countTimer 36 = .ok (.iconst 4, 1) := by decide +kernel
theorem dX0_countTimer_37 : decode cX0_countTimer 37 = .ok (.invokevirtual 41, 3) := by decide +kernel
theorem dX0_countTimer_40 : decode cX0_countTimer 40 = .ok (.return_, 1) := by decide +kernel
theorem dX1_init_0 : decode cX1_init 0 = .ok (.aload_n 0, 1) := by decide +kernel
theorem dX1_init_1 : decode cX1_init 1 = .ok (.invokespecial 3, 3) := by decide +kernel
theorem dX1_init_4 : decode cX1_init 4 = .ok (.aload_n 0, 1) := by decide +kernel
theorem dX1_init_5 : decode cX1_init 5 = .ok (.bipush 6, 2) := by decide +kernel
theorem dX1_init_7 : decode cX1_init 7 = .ok (.newarray .int, 2) := by decide +kernel
theorem dX1_init_9 : decode cX1_init 9 = .ok (.putfield 9, 3) := by decide +kernel
theorem dX1_init_12 : decode cX1_init 12 = .ok (.return_, 1) := by decide +kernel
theorem dX1_word_0 : decode cX1_word 0 = .ok (.iload_n 1, 1) := by decide +kernel
theorem dX1_word_1 : decode cX1_word 1 = .ok (.ifCond .lt 12, 3) := by decide +kernel
theorem dX1_word_4 : decode cX1_word 4 = .ok (.iload_n 1, 1) := by decide +kernel
theorem dX1_word_5 : decode cX1_word 5 = .ok (.aload_n 0, 1) := by decide +kernel
theorem dX1_word_6 : decode cX1_word 6 = .ok (.getfield 9, 3) := by decide +kernel
theorem dX1_word_9 : decode cX1_word 9 = .ok (.arraylength, 1) := by decide +kernel
theorem dX1_word_10 : decode cX1_word 10 = .ok (.if_icmp .lt 5, 3) := by decide +kernel
theorem dX1_word_13 : decode cX1_word 13 = .ok (.iconst (-1), 1) := by decide +kernel
theorem dX1_word_14 : decode cX1_word 14 = .ok (.ireturn, 1) := by decide +kernel
theorem dX1_word_15 : decode cX1_word 15 = .ok (.aload_n 0, 1) := by decide +kernel
theorem dX1_word_16 : decode cX1_word 16 = .ok (.getfield 9, 3) := by decide +kernel
theorem dX1_word_19 : decode cX1_word 19 = .ok (.iload_n 1, 1) := by decide +kernel
theorem dX1_word_20 : decode cX1_word 20 = .ok (.iaload, 1) := by decide +kernel
theorem dX1_word_21 : decode cX1_word 21 = .ok (.ireturn, 1) := by decide +kernel
theorem dX1_setWord_0 : decode cX1_setWord 0 = .ok (.iload_n 1, 1) := by decide +kernel
theorem dX1_setWord_1 : decode cX1_setWord 1 = .ok (.ifCond .lt 12, 3) := by decide +kernel
theorem dX1_setWord_4 : decode cX1_setWord 4 = .ok (.iload_n 1, 1) := by decide +kernel
theorem dX1_setWord_5 : decode cX1_setWord 5 = .ok (.aload_n 0, 1) := by decide +kernel
theorem dX1_setWord_6 : decode cX1_setWord 6 = .ok (.getfield 9, 3) := by decide +kernel
theorem dX1_setWord_9 : decode cX1_setWord 9 = .ok (.arraylength, 1) := by decide +kernel
theorem dX1_setWord_10 : decode cX1_setWord 10 = .ok (.if_icmp .lt 5, 3) := by decide +kernel
theorem dX1_setWord_13 : decode cX1_setWord 13 = .ok (.iconst 0, 1) := by decide +kernel
theorem dX1_setWord_14 : decode cX1_setWord 14 = .ok (.ireturn, 1) := by decide +kernel
theorem dX1_setWord_15 : decode cX1_setWord 15 = .ok (.aload_n 0, 1) := by decide +kernel
theorem dX1_setWord_16 : decode cX1_setWord 16 = .ok (.getfield 9, 3) := by decide +kernel
theorem dX1_setWord_19 : decode cX1_setWord 19 = .ok (.iload_n 1, 1) := by decide +kernel
theorem dX1_setWord_20 : decode cX1_setWord 20 = .ok (.iload_n 2, 1) := by decide +kernel
theorem dX1_setWord_21 : decode cX1_setWord 21 = .ok (.iload_n 1, 1) := by decide +kernel
theorem dX1_setWord_22 : decode cX1_setWord 22 = .ok (.ifCond .ne 8, 3) := by decide +kernel
theorem dX1_setWord_25 : decode cX1_setWord 25 = .ok (.ldc 15, 2) := by decide +kernel
theorem dX1_setWord_27 : decode cX1_setWord 27 = .ok (.goto 5, 3) := by decide +kernel
theorem dX1_setWord_30 : decode cX1_setWord 30 = .ok (.ldc 16, 2) := by decide +kernel
theorem dX1_setWord_32 : decode cX1_setWord 32 = .ok (.iand, 1) := by decide +kernel
theorem dX1_setWord_33 : decode cX1_setWord 33 = .ok (.iastore, 1) := by decide +kernel
theorem dX1_setWord_34 : decode cX1_setWord 34 = .ok (.iconst 1, 1) := by decide +kernel
theorem dX1_setWord_35 : decode cX1_setWord 35 = .ok (.ireturn, 1) := by decide +kernel
theorem dX1_half_0 : decode cX1_half 0 = .ok (.aload_n 0, 1) := by decide +kernel
theorem dX1_half_1 : decode cX1_half 1 = .ok (.getfield 9, 3) := by decide +kernel
theorem dX1_half_4 : decode cX1_half 4 = .ok (.iload_n 1, 1) := by decide +kernel
theorem dX1_half_5 : decode cX1_half 5 = .ok (.invokestatic 17, 3) := by decide +kernel
theorem dX1_half_8 : decode cX1_half 8 = .ok (.iaload, 1) := by decide +kernel
theorem dX1_half_9 : decode cX1_half 9 = .ok (.istore_n 2, 1) := by decide +kernel
theorem dX1_half_10 : decode cX1_half 10 = .ok (.iload_n 1, 1) := by decide +kernel
theorem dX1_half_11 : decode cX1_half 11 = .ok (.invokestatic 21, 3) := by decide +kernel
theorem dX1_half_14 : decode cX1_half 14 = .ok (.ifCond .eq 10, 3) := by decide +kernel
theorem dX1_half_17 : decode cX1_half 17 = .ok (.iload_n 2, 1) := by decide +kernel
theorem dX1_half_18 : decode cX1_half 18 = .ok (.bipush 8, 2) := by decide +kernel
theorem dX1_half_20 : decode cX1_half 20 = .ok (.ishr, 1) := by decide +kernel
theorem dX1_half_21 : decode cX1_half 21 = .ok (.goto 8, 3) := by decide +kernel
theorem dX1_half_24 : decode cX1_half 24 = .ok (.iload_n 2, 1) := by decide +kernel
theorem dX1_half_25 : decode cX1_half 25 = .ok (.sipush 255, 3) := by decide +kernel
theorem dX1_half_28 : decode cX1_half 28 = .ok (.iand, 1) := by decide +kernel
theorem dX1_half_29 : decode cX1_half 29 = .ok (.ireturn, 1) := by decide +kernel
theorem dX1_setHalf_0 : decode cX1_setHalf 0 = .ok (.iload_n 1, 1) := by decide +kernel
theorem dX1_setHalf_1 : decode cX1_setHalf 1 = .ok (.invokestatic 17, 3) := by decide +kernel
theorem dX1_setHalf_4 : decode cX1_setHalf 4 = .ok (.istore_n 3, 1) := by decide +kernel
theorem dX1_setHalf_5 : decode cX1_setHalf 5 = .ok (.iload_n 2, 1) := by decide +kernel
theorem dX1_setHalf_6 : decode cX1_setHalf 6 = .ok (.sipush 255, 3) := by decide +kernel
theorem dX1_setHalf_9 : decode cX1_setHalf 9 = .ok (.iand, 1) := by decide +kernel
theorem dX1_setHalf_10 : decode cX1_setHalf 10 = .ok (.istore 4, 2) := by decide +kernel
theorem dX1_setHalf_12 : decode cX1_setHalf 12 = .ok (.aload_n 0, 1) := by decide +kernel
theorem dX1_setHalf_13 : decode cX1_setHalf 13 = .ok (.getfield 9, 3) := by decide +kernel
theorem dX1_setHalf_16 : decode cX1_setHalf 16 = .ok (.iload_n 3, 1) := by decide +kernel
theorem dX1_setHalf_17 : decode cX1_setHalf 17 = .ok (.iload_n 1, 1) := by decide +kernel
theorem dX1_setHalf_18 : decode cX1_setHalf 18 = .ok (.invokestatic 21, 3) := by decide +kernel
theorem dX1_setHalf_21 : decode cX1_setHalf 21 = .ok (.ifCond .eq 22, 3) := by decide +kernel
theorem dX1_setHalf_24 : decode cX1_setHalf 24 = .ok (.iload 4, 2) := by decide +kernel
theorem dX1_setHalf_26 : decode cX1_setHalf 26 = .ok (.bipush 8, 2) := by decide +kernel
theorem dX1_setHalf_28 : decode cX1_setHalf 28 = .ok (.ishl, 1) := by decide +kernel
theorem dX1_setHalf_29 : decode cX1_setHalf 29 = .ok (.aload_n 0, 1) := by decide +kernel
theorem dX1_setHalf_30 : decode cX1_setHalf 30 = .ok (.getfield 9, 3) := by decide +kernel
theorem dX1_setHalf_33 : decode cX1_setHalf 33 = .ok (.iload_n 3, 1) := by decide +kernel
theorem dX1_setHalf_34 : decode cX1_setHalf 34 = .ok (.iaload, 1) := by decide +kernel
theorem dX1_setHalf_35 : decode cX1_setHalf 35 = .ok (.sipush 255, 3) := by decide +kernel
theorem dX1_setHalf_38 : decode cX1_setHalf 38 = .ok (.iand, 1) := by decide +kernel
theorem dX1_setHalf_39 : decode cX1_setHalf 39 = .ok (.ior, 1) := by decide +kernel
theorem dX1_setHalf_40 : decode cX1_setHalf 40 = .ok (.goto 15, 3) := by decide +kernel
theorem dX1_setHalf_43 : decode cX1_setHalf 43 = .ok (.aload_n 0, 1) := by decide +kernel
theorem dX1_setHalf_44 : decode cX1_setHalf 44 = .ok (.getfield 9, 3) := by decide +kernel
theorem dX1_setHalf_47 : decode cX1_setHalf 47 = .ok (.iload_n 3, 1) := by decide +kernel
theorem dX1_setHalf_48 : decode cX1_setHalf 48 = .ok (.iaload, 1) := by decide +kernel
theorem dX1_setHalf_49 : decode cX1_setHalf 49 = .ok (.ldc 25, 2) := by decide +kernel
theorem dX1_setHalf_51 : decode cX1_setHalf 51 = .ok (.iand, 1) := by decide +kernel
theorem dX1_setHalf_52 : decode cX1_setHalf 52 = .ok (.iload 4, 2) := by decide +kernel
theorem dX1_setHalf_54 : decode cX1_setHalf 54 = .ok (.ior, 1) := by decide +kernel
theorem dX1_setHalf_55 : decode cX1_setHalf 55 = .ok (.iastore, 1) := by decide +kernel
theorem dX1_setHalf_56 : decode cX1_setHalf 56 = .ok (.return_, 1) := by decide +kernel
theorem dX1_a_0 : decode cX1_a 0 = .ok (.aload_n 0, 1) := by decide +kernel
theorem dX1_a_1 : decode cX1_a 1 = .ok (.getfield 9, 3) := by decide +kernel
theorem dX1_a_4 : decode cX1_a 4 = .ok (.iconst 0, 1) := by decide +kernel
theorem dX1_a_5 : decode cX1_a 5 = .ok (.iaload, 1) := by decide +kernel
theorem dX1_a_6 : decode cX1_a 6 = .ok (.bipush 8, 2) := by decide +kernel
theorem dX1_a_8 : decode cX1_a 8 = .ok (.ishr, 1) := by decide +kernel
theorem dX1_a_9 : decode cX1_a 9 = .ok (.ireturn, 1) := by decide +kernel
theorem dX1_setA_0 : decode cX1_setA 0 = .ok (.aload_n 0, 1) := by decide +kernel
theorem dX1_setA_1 : decode cX1_setA 1 = .ok (.getfield 9, 3) := by decide +kernel
theorem dX1_setA_4 : decode cX1_setA 4 = .ok (.iconst 0, 1) := by decide +kernel
theorem dX1_setA_5 : decode cX1_setA 5 = .ok (.iload_n 1, 1) := by decide +kernel
theorem dX1_setA_6 : decode cX1_setA 6 = .ok (.sipush 255, 3) := by decide +kernel
theorem dX1_setA_9 : decode cX1_setA 9 = .ok (.iand, 1) := by decide +kernel
theorem dX1_setA_10 : decode cX1_setA 10 = .ok (.bipush 8, 2) := by decide +kernel
theorem dX1_setA_12 : decode cX1_setA 12 = .ok (.ishl, 1) := by decide +kernel
theorem dX1_setA_13 : decode cX1_setA 13 = .ok (.aload_n 0, 1) := by decide +kernel
theorem dX1_setA_14 : decode cX1_setA 14 = .ok (.getfield 9, 3) := by decide +kernel
theorem dX1_setA_17 : decode cX1_setA 17 = .ok (.iconst 0, 1) := by decide +kernel
theorem dX1_setA_18 : decode cX1_setA 18 = .ok (.iaload, 1) := by decide +kernel
theorem dX1_setA_19 : decode cX1_setA 19 = .ok (.sipush 255, 3) := by decide +kernel
theorem dX1_setA_22 : decode cX1_setA 22 = .ok (.iand, 1) := by decide +kernel
theorem dX1_setA_23 : decode cX1_setA 23 = .ok (.ior, 1) := by decide +kernel
theorem dX1_setA_24 : decode cX1_setA 24 = .ok (.iastore, 1) := by decide +kernel
theorem dX1_setA_25 : decode cX1_setA 25 = .ok (.return_, 1) := by decide +kernel
theorem dX1_flag_0 : decode cX1_flag 0 = .ok (.aload_n 0, 1) := by decide +kernel
theorem dX1_flag_1 : decode cX1_flag 1 = .ok (.getfield 9, 3) := by decide +kernel
theorem dX1_flag_4 : decode cX1_flag 4 = .ok (.iconst 0, 1) := by decide +kernel
theorem dX1_flag_5 : decode cX1_flag 5 = .ok (.iaload, 1) := by decide +kernel
theorem dX1_flag_6 : decode cX1_flag 6 = .ok (.iload_n 1, 1) := by decide +kernel
theorem dX1_flag_7 : decode cX1_flag 7 = .ok (.iand, 1) := by decide +kernel
theorem dX1_flag_8 : decode cX1_flag 8 = .ok (.ifCond .eq 7, 3) := by decide +kernel
theorem dX1_flag_11 : decode cX1_flag 11 = .ok (.iconst 1, 1) := by decide +kernel
theorem dX1_flag_12 : decode cX1_flag 12 = .ok (.goto 4, 3) := by decide +kernel
theorem dX1_flag_15 : decode cX1_flag 15 = .ok (.iconst 0, 1) := by decide +kernel
theorem dX1_flag_16 : decode cX1_flag 16 = .ok (.ireturn, 1) := by decide +kernel
theorem dX1_setFlags_0 : decode cX1_setFlags 0 = .ok (.iload_n 1, 1) := by decide +kernel
theorem dX1_setFlags_1 : decode cX1_setFlags 1 = .ok (.ifCond .eq 9, 3) := by decide +kernel
theorem dX1_setFlags_4 : decode cX1_setFlags 4 = .ok (.sipush 128, 3) := by decide +kernel
theorem dX1_setFlags_7 : decode cX1_setFlags 7 = .ok (.goto 4, 3) := by decide +kernel
theorem dX1_setFlags_10 : decode cX1_setFlags 10 = .ok (.iconst 0, 1) := by decide +kernel
theorem dX1_setFlags_11 : decode cX1_setFlags 11 = .ok (.iload_n 2, 1) := by decide +kernel
theorem dX1_setFlags_12 : decode cX1_setFlags 12 = .ok (.ifCond .eq 8, 3) := by decide +kernel
theorem dX1_setFlags_15 : decode cX1_setFlags 15 = .ok (.bipush 64, 2) := by decide +kernel
theorem dX1_setFlags_17 : decode cX1_setFlags 17 = .ok (.goto 4, 3) := by decide +kernel
theorem dX1_setFlags_20 : decode cX1_setFlags 20 = .ok (.iconst 0, 1) := by decide +kernel
theorem dX1_setFlags_21 : decode cX1_setFlags 21 = .ok (.ior, 1) := by decide +kernel
theorem dX1_setFlags_22 : decode cX1_setFlags 22 = .ok (.iload_n 3, 1) := by decide +kernel
theorem dX1_setFlags_23 : decode cX1_setFlags 23 = .ok (.ifCond .eq 8, 3) := by decide +kernel
theorem dX1_setFlags_26 : decode cX1_setFlags 26 = .ok (.bipush 32, 2) := by decide +kernel
theorem dX1_setFlags_28 : decode cX1_setFlags 28 = .ok (.goto 4, 3) := by decide +kernel
theorem dX1_setFlags_31 : decode cX1_setFlags 31 = .ok (.iconst 0, 1) := by decide +kernel
theorem dX1_setFlags_32 : decode cX1_setFlags 32 = .ok (.ior, 1) := by decide +kernel
theorem dX1_setFlags_33 : decode cX1_setFlags 33 = .ok (.iload 4, 2) := by decide +kernel
theorem dX1_setFlags_35 : decode cX1_setFlags 35 = .ok (.ifCond .eq 8, 3) := by decide +kernel
theorem dX1_setFlags_38 : decode cX1_setFlags 38 = .ok (.bipush 16, 2) := by decide +kernel
theorem dX1_setFlags_40 : decode cX1_setFlags 40 = .ok (.goto 4, 3) := by decide +kernel
theorem dX1_setFlags_43 : decode cX1_setFlags 43 = .ok (.iconst 0, 1) := by decide +kernel
theorem dX1_setFlags_44 : decode cX1_setFlags 44 = .ok (.ior, 1) := by decide +kernel
theorem dX1_setFlags_45 : decode cX1_setFlags 45 = .ok (.istore 5, 2) := by decide +kernel
theorem dX1_setFlags_47 : decode cX1_setFlags 47 = .ok (.aload_n 0, 1) := by decide +kernel
theorem dX1_setFlags_48 : decode cX1_setFlags 48 = .ok (.getfield 9, 3) := by decide +kernel
theorem dX1_setFlags_51 : decode cX1_setFlags 51 = .ok (.iconst 0, 1) := by decide +kernel
theorem dX1_setFlags_52 : decode cX1_setFlags 52 = .ok (.aload_n 0, 1) := by decide +kernel
theorem dX1_setFlags_53 : decode cX1_setFlags 53 = .ok (.getfield 9, 3) := by decide +kernel
theorem dX1_setFlags_56 : decode cX1_setFlags 56 = .ok (.iconst 0, 1) := by decide +kernel
theorem dX1_setFlags_57 : decode cX1_setFlags 57 = .ok (.iaload, 1) := by decide +kernel
theorem dX1_setFlags_58 : decode cX1_setFlags 58 = .ok (.ldc 25, 2) := by decide +kernel
theorem dX1_setFlags_60 : decode cX1_setFlags 60 = .ok (.iand, 1) := by decide +kernel
theorem dX1_setFlags_61 : decode cX1_setFlags 61 = .ok (.iload 5, 2) := by decide +kernel
theorem dX1_setFlags_63 : decode cX1_setFlags 63 = .ok (.ior, 1) := by decide +kernel
theorem dX1_setFlags_64 : decode cX1_setFlags 64 = .ok (.iastore, 1) := by decide +kernel
theorem dX1_setFlags_65 : decode cX1_setFlags 65 = .ok (.return_, 1) := by decide +kernel
theorem dX1_pairOf_0 : decode cX1_pairOf 0 = .ok (.iconst 1, 1) := by decide +kernel
theorem dX1_pairOf_1 : decode cX1_pairOf 1 = .ok (.iload_n 0, 1) := by decide +kernel
theorem dX1_pairOf_2 : decode cX1_pairOf 2 = .ok (.iconst 1, 1) := by decide +kernel
theorem dX1_pairOf_3 : decode cX1_pairOf 3 = .ok (.ishr, 1) := by decide +kernel
theorem dX1_pairOf_4 : decode cX1_pairOf 4 = .ok (.iadd, 1) := by decide +kernel
theorem dX1_pairOf_5 : decode cX1_pairOf 5 = .ok (.iconst 3, 1) := by decide +kernel
theorem dX1_pairOf_6 : decode cX1_pairOf 6 = .ok (.iand, 1) := by decide +kernel
theorem dX1_pairOf_7 : decode cX1_pairOf 7 = .ok (.ireturn, 1) := by decide +kernel
theorem dX1_isHigh_0 : decode cX1_isHigh 0 = .ok (.iload_n 0, 1) := by decide +kernel
theorem dX1_isHigh_1 : decode cX1_isHigh 1 = .ok (.bipush 7, 2) := by decide +kernel
theorem dX1_isHigh_3 : decode cX1_isHigh 3 = .ok (.if_icmp .eq 9, 3) := by decide +kernel
theorem dX1_isHigh_6 : decode cX1_isHigh 6 = .ok (.iload_n 0, 1) := by decide +kernel
theorem dX1_isHigh_7 : decode cX1_isHigh 7 = .ok (.iconst 1, 1) := by decide +kernel
theorem dX1_isHigh_8 : decode cX1_isHigh 8 = .ok (.iand, 1) := by decide +kernel
theorem dX1_isHigh_9 : decode cX1_isHigh 9 = .ok (.ifCond .ne 7, 3) := by decide +kernel
theorem dX1_isHigh_12 : decode cX1_isHigh 12 = .ok (.iconst 1, 1) := by decide +kernel
theorem dX1_isHigh_13 : decode cX1_isHigh 13 = .ok (.goto 4, 3) := by decide +kernel
theorem dX1_isHigh_16 : decode cX1_isHigh 16 = .ok (.iconst 0, 1) := by decide +kernel
theorem dX1_isHigh_17 : decode cX1_isHigh 17 = .ok (.ireturn, 1) := by decide +kernel
theorem dX2_init_0 : decode cX2_init 0 = .ok (.aload_n 0, 1) := by decide +kernel
theorem dX2_init_1 : decode cX2_init 1 = .ok (.invokespecial 3, 3) := by decide +kernel
theorem dX2_init_4 : decode cX2_init 4 = .ok (.aload_n 0, 1) := by decide +kernel
theorem dX2_init_5 : decode cX2_init 5 = .ok (.new 9, 3) := by decide +kernel
theorem dX2_init_8 : decode cX2_init 8 = .ok (.dup, 1) := by decide +kernel
theorem dX2_init_9 : decode cX2_init 9 = .ok (.invokespecial 11, 3) := by decide +kernel
theorem dX2_init_12 : decode cX2_init 12 = .ok (.putfield 12, 3) := by decide +kernel
theorem dX2_init_15 : decode cX2_init 15 = .ok (.return_, 1) := by decide +kernel
theorem dX2_apply_0 : decode cX2_apply 0 = .ok (.aload_n 0, 1) := by decide +kernel
theorem dX2_apply_1 : decode cX2_apply 1 = .ok (.getfield 12, 3) := by decide +kernel
theorem dX2_apply_4 : decode cX2_apply 4 = .ok (.bipush 16, 2) := by decide +kernel
theorem dX2_apply_6 : decode cX2_apply 6 = .ok (.invokevirtual 18, 3) := by decide +kernel
theorem dX2_apply_9 : decode cX2_apply 9 = .ok (.ifCond .eq 7, 3) := by decide +kernel
theorem dX2_apply_12 : decode cX2_apply 12 = .ok (.iconst 1, 1) := by decide +kernel
theorem dX2_apply_13 : decode cX2_apply 13 = .ok (.goto 4, 3) := by decide +kernel
theorem dX2_apply_16 : decode cX2_apply 16 = .ok (.iconst 0, 1) := by decide +kernel
theorem dX2_apply_17 : decode cX2_apply 17 = .ok (.istore_n 3, 1) := by decide +kernel
theorem dX2_apply_18 : decode cX2_apply 18 = .ok (.iload_n 1, 1) := by decide +kernel
theorem dX2_apply_19 : decode cX2_apply 19 = .ok (.tableswitch 127 0 7 #[45, 54, 63, 83, 93, 110, 127, 63], 45) := by decide +kernel
theorem dX2_apply_64 : decode cX2_apply 64 = .ok (.aload_n 0, 1) := by decide +kernel
theorem dX2_apply_65 : decode cX2_apply 65 = .ok (.iload_n 2, 1) := by decide +kernel
theorem dX2_apply_66 : decode cX2_apply 66 = .ok (.iconst 0, 1) := by decide +kernel
theorem dX2_apply_67 : decode cX2_apply 67 = .ok (.invokevirtual 22, 3) := by decide +kernel
theorem dX2_apply_70 : decode cX2_apply 70 = .ok (.goto 90, 3) := by decide +kernel
theorem dX2_apply_73 : decode cX2_apply 73 = .ok (.aload_n 0, 1) := by decide +kernel
theorem dX2_apply_74 : decode cX2_apply 74 = .ok (.iload_n 2, 1) := by decide +kernel
theorem dX2_apply_75 : decode cX2_apply 75 = .ok (.iload_n 3, 1) := by decide +kernel
theorem dX2_apply_76 : decode cX2_apply 76 = .ok (.invokevirtual 22, 3) := by decide +kernel
theorem dX2_apply_79 : decode cX2_apply 79 = .ok (.goto 81, 3) := by decide +kernel
theorem dX2_apply_82 : decode cX2_apply 82 = .ok (.aload_n 0, 1) := by decide +kernel
theorem dX2_apply_83 : decode cX2_apply 83 = .ok (.iload_n 2, 1) := by decide +kernel
theorem dX2_apply_84 : decode cX2_apply 84 = .ok (.iconst 0, 1) := by decide +kernel
theorem dX2_apply_85 : decode cX2_apply 85 = .ok (.iload_n 1, 1) := by decide +kernel
theorem dX2_apply_86 : decode cX2_apply 86 = .ok (.bipush 7, 2) := by decide +kernel
theorem dX2_apply_88 : decode cX2_apply 88 = .ok (.if_icmp .eq 7, 3) := by decide +kernel
theorem dX2_apply_91 : decode cX2_apply 91 = .ok (.iconst 1, 1) := by decide +kernel
theorem dX2_apply_92 : decode cX2_apply 92 = .ok (.goto 4, 3) := by decide +kernel
theorem dX2_apply_95 : decode cX2_apply 95 = .ok (.iconst 0, 1) := by decide +kernel
theorem dX2_apply_96 : decode cX2_apply 96 = .ok (.invokevirtual 26, 3) := by decide +kernel
theorem dX2_apply_99 : decode cX2_apply 99 = .ok (.goto 61, 3) := by decide +kernel
theorem dX2_apply_102 : decode cX2_apply 102 = .ok (.aload_n 0, 1) := by decide +kernel
theorem dX2_apply_103 : decode cX2_apply 103 = .ok (.iload_n 2, 1) := by decide +kernel
theorem dX2_apply_104 : decode cX2_apply 104 = .ok (.iload_n 3, 1) := by decide +kernel
theorem dX2_apply_105 : decode cX2_apply 105 = .ok (.iconst 1, 1) := by decide +kernel
theorem dX2_apply_106 : decode cX2_apply 106 = .ok (.invokevirtual 26, 3) := by decide +kernel
theorem dX2_apply_109 : decode cX2_apply 109 = .ok (.goto 51, 3) := by decide +kernel
theorem dX2_apply_112 : decode cX2_apply 112 = .ok (.aload_n 0, 1) := by decide +kernel
theorem dX2_apply_113 : decode cX2_apply 113 = .ok (.aload_n 0, 1) := by decide +kernel
theorem dX2_apply_114 : decode cX2_apply 114 = .ok (.getfield 12, 3) := by decide +kernel
theorem dX2_apply_117 : decode cX2_apply 117 = .ok (.invokevirtual 30, 3) := by decide +kernel
theorem dX2_apply_120 : decode cX2_apply 120 = .ok (.iload_n 2, 1) := by decide +kernel
theorem dX2_apply_121 : decode cX2_apply 121 = .ok (.iand, 1) := by decide +kernel
theorem dX2_apply_122 : decode cX2_apply 122 = .ok (.iconst 1, 1) := by decide +kernel
theorem dX2_apply_123 : decode cX2_apply 123 = .ok (.invokevirtual 34, 3) := by decide +kernel
theorem dX2_apply_126 : decode cX2_apply 126 = .ok (.goto 34, 3) := by decide +kernel
theorem dX2_apply_129 : decode cX2_apply 129 = .ok (.aload_n 0, 1) := by decide +kernel
theorem dX2_apply_130 : decode cX2_apply 130 = .ok (.aload_n 0, 1) := by decide +kernel
theorem dX2_apply_131 : decode cX2_apply 131 = .ok (.getfield 12, 3) := by decide +kernel
theorem dX2_apply_134 : decode cX2_apply 134 = .ok (.invokevirtual 30, 3) := by decide +kernel
theorem dX2_apply_137 : decode cX2_apply 137 = .ok (.iload_n 2, 1) := by decide +kernel
theorem dX2_apply_138 : decode cX2_apply 138 = .ok (.ixor, 1) := by decide +kernel
theorem dX2_apply_139 : decode cX2_apply 139 = .ok (.iconst 0, 1) := by decide +kernel
theorem dX2_apply_140 : decode cX2_apply 140 = .ok (.invokevirtual 34, 3) := by decide +kernel
theorem dX2_apply_143 : decode cX2_apply 143 = .ok (.goto 17, 3) := by decide +kernel
theorem dX2_apply_146 : decode cX2_apply 146 = .ok (.aload_n 0, 1) := by decide +kernel
theorem dX2_apply_147 : decode cX2_apply 147 = .ok (.aload_n 0, 1) := by decide +kernel
theorem dX2_apply_148 : decode cX2_apply 148 = .ok (.getfield 12, 3) := by decide +kernel
theorem dX2_apply_151 : decode cX2_apply 151 = .ok (.invokevirtual 30, 3) := by decide +kernel
theorem dX2_apply_154 : decode cX2_apply 154 = .ok (.iload_n 2, 1) := by decide +kernel
theorem dX2_apply_155 : decode cX2_apply 155 = .ok (.ior, 1) := by decide +kernel
theorem dX2_apply_156 : decode cX2_apply 156 = .ok (.iconst 0, 1) := by decide +kernel
theorem dX2_apply_157 : decode cX2_apply 157 = .ok (.invokevirtual 34, 3) := by decide +kernel
theorem dX2_apply_160 : decode cX2_apply 160 = .ok (.return_, 1) := by decide +kernel
theorem dX2_add_0 : decode cX2_add 0 = .ok (.aload_n 0, 1) := by decide +kernel
theorem dX2_add_1 : decode cX2_add 1 = .ok (.getfield 12, 3) := by decide +kernel
theorem dX2_add_4 : decode cX2_add 4 = .ok (.invokevirtual 30, 3) := by decide +kernel
theorem dX2_add_7 : decode cX2_add 7 = .ok (.istore_n 3, 1) := by decide +kernel
theorem dX2_add_8 : decode cX2_add 8 = .ok (.iload_n 3, 1) := by decide +kernel
theorem dX2_add_9 : decode cX2_add 9 = .ok (.iload_n 1, 1) := by decide +kernel
theorem dX2_add_10 : decode cX2_add 10 = .ok (.iadd, 1) := by decide +kernel
theorem dX2_add_11 : decode cX2_add 11 = .ok (.iload_n 2, 1) := by decide +kernel
theorem dX2_add_12 : decode cX2_add 12 = .ok (.iadd, 1) := by decide +kernel
theorem dX2_add_13 : decode cX2_add 13 = .ok (.istore 4, 2) := by decide +kernel
theorem dX2_add_15 : decode cX2_add 15 = .ok (.aload_n 0, 1) := by decide +kernel
theorem dX2_add_16 : decode cX2_add 16 = .ok (.getfield 12, 3) := by decide +kernel
theorem dX2_add_19 : decode cX2_add 19 = .ok (.iload 4, 2) := by decide +kernel
theorem dX2_add_21 : decode cX2_add 21 = .ok (.invokevirtual 38, 3) := by decide +kernel
theorem dX2_add_24 : decode cX2_add 24 = .ok (.aload_n 0, 1) := by decide +kernel
theorem dX2_add_25 : decode cX2_add 25 = .ok (.getfield 12, 3) := by decide +kernel
theorem dX2_add_28 : decode cX2_add 28 = .ok (.iload 4, 2) := by decide +kernel
theorem dX2_add_30 : decode cX2_add 30 = .ok (.sipush 255, 3) := by decide +kernel
theorem dX2_add_33 : decode cX2_add 33 = .ok (.iand, 1) := by decide +kernel
theorem dX2_add_34 : decode cX2_add 34 = .ok (.ifCond .ne 7, 3) := by decide +kernel
theorem dX2_add_37 : decode cX2_add 37 = .ok (.iconst 1, 1) := by decide +kernel
theorem dX2_add_38 : decode cX2_add 38 = .ok (.goto 4, 3) := by decide +kernel
theorem dX2_add_41 : decode cX2_add 41 = .ok (.iconst 0, 1) := by decide +kernel
theorem dX2_add_42 : decode cX2_add 42 = .ok (.iconst 0, 1) := by decide +kernel
theorem dX2_add_43 : decode cX2_add 43 = .ok (.iload_n 3, 1) := by decide +kernel
theorem dX2_add_44 : decode cX2_add 44 = .ok (.bipush 15, 2) := by decide +kernel
theorem dX2_add_46 : decode cX2_add 46 = .ok (.iand, 1) := by decide +kernel
theorem dX2_add_47 : decode cX2_add 47 = .ok (.iload_n 1, 1) := by decide +kernel
theorem dX2_add_48 : decode cX2_add 48 = .ok (.bipush 15, 2) := by decide +kernel
theorem dX2_add_50 : decode cX2_add 50 = .ok (.iand, 1) := by decide +kernel
theorem dX2_add_51 : decode cX2_add 51 = .ok (.iadd, 1) := by decide +kernel
theorem dX2_add_52 : decode cX2_add 52 = .ok (.iload_n 2, 1) := by decide +kernel
theorem dX2_add_53 : decode cX2_add 53 = .ok (.iadd, 1) := by decide +kernel
theorem dX2_add_54 : decode cX2_add 54 = .ok (.bipush 15, 2) := by decide +kernel
theorem dX2_add_56 : decode cX2_add 56 = .ok (.if_icmp .le 7, 3) := by decide +kernel
theorem dX2_add_59 : decode cX2_add 59 = .ok (.iconst 1, 1) := by decide +kernel
theorem dX2_add_60 : decode cX2_add 60 = .ok (.goto 4, 3) := by decide +kernel
theorem dX2_add_63 : decode cX2_add 63 = .ok (.iconst 0, 1) := by decide +kernel
theorem dX2_add_64 : decode cX2_add 64 = .ok (.iload 4, 2) := by decide +kernel
theorem dX2_add_66 : decode cX2_add 66 = .ok (.sipush 255, 3) := by decide +kernel
theorem dX2_add_69 : decode cX2_add 69 = .ok (.if_icmp .le 7, 3) := by decide +kernel
theorem dX2_add_72 : decode cX2_add 72 = .ok (.iconst 1, 1) := by decide +kernel
theorem dX2_add_73 : decode cX2_add 73 = .ok (.goto 4, 3) := by decide +kernel
theorem dX2_add_76 : decode cX2_add 76 = .ok (.iconst 0, 1) := by decide +kernel
theorem dX2_add_77 : decode cX2_add 77 = .ok (.invokevirtual 42, 3) := by decide +kernel
theorem dX2_add_80 : decode cX2_add 80 = .ok (.return_, 1) := by decide +kernel
theorem dX2_subtract_0 : decode cX2_subtract 0 = .ok (.aload_n 0, 1) := by decide +kernel
theorem dX2_subtract_1 : decode cX2_subtract 1 = .ok (.getfield 12, 3) := by decide +kernel
theorem dX2_subtract_4 : decode cX2_subtract 4 = .ok (.invokevirtual 30, 3) := by decide +kernel
theorem dX2_subtract_7 : decode cX2_subtract 7 = .ok (.istore 4, 2) := by decide +kernel
theorem dX2_subtract_9 : decode cX2_subtract 9 = .ok (.iload 4, 2) := by decide +kernel
theorem dX2_subtract_11 : decode cX2_subtract 11 = .ok (.iload_n 1, 1) := by decide +kernel
theorem dX2_subtract_12 : decode cX2_subtract 12 = .ok (.isub, 1) := by decide +kernel
theorem dX2_subtract_13 : decode cX2_subtract 13 = .ok (.iload_n 2, 1) := by decide +kernel
theorem dX2_subtract_14 : decode cX2_subtract 14 = .ok (.isub, 1) := by decide +kernel
theorem dX2_subtract_15 : decode cX2_subtract 15 = .ok (.istore 5, 2) := by decide +kernel
theorem dX2_subtract_17 : decode cX2_subtract 17 = .ok (.iload_n 3, 1) := by decide +kernel
theorem dX2_subtract_18 : decode cX2_subtract 18 = .ok (.ifCond .eq 12, 3) := by decide +kernel
theorem dX2_subtract_21 : decode cX2_subtract 21 = .ok (.aload_n 0, 1) := by decide +kernel
theorem dX2_subtract_22 : decode cX2_subtract 22 = .ok (.getfield 12, 3) := by decide +kernel
theorem dX2_subtract_25 : decode cX2_subtract 25 = .ok (.iload 5, 2) := by decide +kernel
theorem dX2_subtract_27 : decode cX2_subtract 27 = .ok (.invokevirtual 38, 3) := by decide +kernel
theorem dX2_subtract_30 : decode cX2_subtract 30 = .ok (.aload_n 0, 1) := by decide +kernel
theorem dX2_subtract_31 : decode cX2_subtract 31 = .ok (.getfield 12, 3) := by decide +kernel
theorem dX2_subtract_34 : decode cX2_subtract 34 = .ok (.iload 5, 2) := by decide +kernel
theorem dX2_subtract_36 : decode cX2_subtract 36 = .ok (.sipush 255, 3) := by decide +kernel
theorem dX2_subtract_39 : decode cX2_subtract 39 = .ok (.iand, 1) := by decide +kernel
theorem dX2_subtract_40 : decode cX2_subtract 40 = .ok (.ifCond .ne 7, 3) := by decide +kernel
theorem dX2_subtract_43 : decode cX2_subtract 43 = .ok (.iconst 1, 1) := by decide +kernel
theorem dX2_subtract_44 : decode cX2_subtract 44 = .ok (.goto 4, 3) := by decide +kernel
theorem dX2_subtract_47 : decode cX2_subtract 47 = .ok (.iconst 0, 1) := by decide +kernel
theorem dX2_subtract_48 : decode cX2_subtract 48 = .ok (.iconst 1, 1) := by decide +kernel
theorem dX2_subtract_49 : decode cX2_subtract 49 = .ok (.iload 4, 2) := by decide +kernel
theorem dX2_subtract_51 : decode cX2_subtract 51 = .ok (.bipush 15, 2) := by decide +kernel
theorem dX2_subtract_53 : decode cX2_subtract 53 = .ok (.iand, 1) := by decide +kernel
theorem dX2_subtract_54 : decode cX2_subtract 54 = .ok (.iload_n 1, 1) := by decide +kernel
theorem dX2_subtract_55 : decode cX2_subtract 55 = .ok (.bipush 15, 2) := by decide +kernel
theorem dX2_subtract_57 : decode cX2_subtract 57 = .ok (.iand, 1) := by decide +kernel
theorem dX2_subtract_58 : decode cX2_subtract 58 = .ok (.isub, 1) := by decide +kernel
theorem dX2_subtract_59 : decode cX2_subtract 59 = .ok (.iload_n 2, 1) := by decide +kernel
theorem dX2_subtract_60 : decode cX2_subtract 60 = .ok (.isub, 1) := by decide +kernel
theorem dX2_subtract_61 : decode cX2_subtract 61 = .ok (.ifCond .ge 7, 3) := by decide +kernel
theorem dX2_subtract_64 : decode cX2_subtract 64 = .ok (.iconst 1, 1) := by decide +kernel
theorem dX2_subtract_65 : decode cX2_subtract 65 = .ok (.goto 4, 3) := by decide +kernel
theorem dX2_subtract_68 : decode cX2_subtract 68 = .ok (.iconst 0, 1) := by decide +kernel
theorem dX2_subtract_69 : decode cX2_subtract 69 = .ok (.iload 5, 2) := by decide +kernel
theorem dX2_subtract_71 : decode cX2_subtract 71 = .ok (.ifCond .ge 7, 3) := by decide +kernel
theorem dX2_subtract_74 : decode cX2_subtract 74 = .ok (.iconst 1, 1) := by decide +kernel
theorem dX2_subtract_75 : decode cX2_subtract 75 = .ok (.goto 4, 3) := by decide +kernel
theorem dX2_subtract_78 : decode cX2_subtract 78 = .ok (.iconst 0, 1) := by decide +kernel
theorem dX2_subtract_79 : decode cX2_subtract 79 = .ok (.invokevirtual 42, 3) := by decide +kernel
theorem dX2_subtract_82 : decode cX2_subtract 82 = .ok (.return_, 1) := by decide +kernel
theorem dX2_putLogic_0 : decode cX2_putLogic 0 = .ok (.aload_n 0, 1) := by decide +kernel
theorem dX2_putLogic_1 : decode cX2_putLogic 1 = .ok (.getfield 12, 3) := by decide +kernel
theorem dX2_putLogic_4 : decode cX2_putLogic 4 = .ok (.iload_n 1, 1) := by decide +kernel
theorem dX2_putLogic_5 : decode cX2_putLogic 5 = .ok (.invokevirtual 38, 3) := by decide +kernel
theorem dX2_putLogic_8 : decode cX2_putLogic 8 = .ok (.aload_n 0, 1) := by decide +kernel
theorem dX2_putLogic_9 : decode cX2_putLogic 9 = .ok (.getfield 12, 3) := by decide +kernel
theorem dX2_putLogic_12 : decode cX2_putLogic 12 = .ok (.iload_n 1, 1) := by decide +kernel
theorem dX2_putLogic_13 : decode cX2_putLogic 13 = .ok (.ifCond .ne 7, 3) := by decide +kernel
theorem dX2_putLogic_16 : decode cX2_putLogic 16 = .ok (.iconst 1, 1) := by decide +kernel
theorem dX2_putLogic_17 : decode cX2_putLogic 17 = .ok (.goto 4, 3) := by decide +kernel
theorem dX2_putLogic_20 : decode cX2_putLogic 20 = .ok (.iconst 0, 1) := by decide +kernel
theorem dX2_putLogic_21 : decode cX2_putLogic 21 = .ok (.iconst 0, 1) := by decide +kernel
theorem dX2_putLogic_22 : decode cX2_putLogic 22 = .ok (.iload_n 2, 1) := by decide +kernel
theorem dX2_putLogic_23 : decode cX2_putLogic 23 = .ok (.iconst 0, 1) := by decide +kernel
theorem dX2_putLogic_24 : decode cX2_putLogic 24 = .ok (.invokevirtual 42, 3) := by decide +kernel
theorem dX2_putLogic_27 : decode cX2_putLogic 27 = .ok (.return_, 1) := by decide +kernel
theorem dX2_increment_0 : decode cX2_increment 0 = .ok (.iload_n 1, 1) := by decide +kernel
theorem dX2_increment_1 : decode cX2_increment 1 = .ok (.iconst 1, 1) := by decide +kernel
theorem dX2_increment_2 : decode cX2_increment 2 = .ok (.iadd, 1) := by decide +kernel
theorem dX2_increment_3 : decode cX2_increment 3 = .ok (.sipush 255, 3) := by decide +kernel
theorem dX2_increment_6 : decode cX2_increment 6 = .ok (.iand, 1) := by decide +kernel
theorem dX2_increment_7 : decode cX2_increment 7 = .ok (.istore_n 2, 1) := by decide +kernel
theorem dX2_increment_8 : decode cX2_increment 8 = .ok (.aload_n 0, 1) := by decide +kernel
theorem dX2_increment_9 : decode cX2_increment 9 = .ok (.getfield 12, 3) := by decide +kernel
theorem dX2_increment_12 : decode cX2_increment 12 = .ok (.iload_n 2, 1) := by decide +kernel
theorem dX2_increment_13 : decode cX2_increment 13 = .ok (.ifCond .ne 7, 3) := by decide +kernel
theorem dX2_increment_16 : decode cX2_increment 16 = .ok (.iconst 1, 1) := by decide +kernel
theorem dX2_increment_17 : decode cX2_increment 17 = .ok (.goto 4, 3) := by decide +kernel
theorem dX2_increment_20 : decode cX2_increment 20 = .ok (.iconst 0, 1) := by decide +kernel
theorem dX2_increment_21 : decode cX2_increment 21 = .ok (.iconst 0, 1) := by decide +kernel
theorem dX2_increment_22 : decode cX2_increment 22 = .ok (.iload_n 2, 1) := by decide +kernel
theorem dX2_increment_23 : decode cX2_increment 23 = .ok (.bipush 15, 2) := by decide +kernel
theorem dX2_increment_25 : decode cX2_increment 25 = .ok (.iand, 1) := by decide +kernel
theorem dX2_increment_26 : decode cX2_increment 26 = .ok (.ifCond .ne 7, 3) := by decide +kernel
theorem dX2_increment_29 : decode cX2_increment 29 = .ok (.iconst 1, 1) := by decide +kernel
theorem dX2_increment_30 : decode cX2_increment 30 = .ok (.goto 4, 3) := by decide +kernel
theorem dX2_increment_33 : decode cX2_increment 33 = .ok (.iconst 0, 1) := by decide +kernel
theorem dX2_increment_34 : decode cX2_increment 34 = .ok (.aload_n 0, 1) := by decide +kernel
theorem dX2_increment_35 : decode cX2_increment 35 = .ok (.getfield 12, 3) := by decide +kernel
theorem dX2_increment_38 : decode cX2_increment 38 = .ok (.bipush 16, 2) := by decide +kernel
theorem dX2_increment_40 : decode cX2_increment 40 = .ok (.invokevirtual 18, 3) := by decide +kernel
theorem dX2_increment_43 : decode cX2_increment 43 = .ok (.invokevirtual 42, 3) := by decide +kernel
theorem dX2_increment_46 : decode cX2_increment 46 = .ok (.iload_n 2, 1) := by decide +kernel
theorem dX2_increment_47 : decode cX2_increment 47 = .ok (.ireturn, 1) := by decide +kernel
theorem dX2_decrement_0 : decode cX2_decrement 0 = .ok (.iload_n 1, 1) := by decide +kernel
theorem dX2_decrement_1 : decode cX2_decrement 1 = .ok (.iconst 1, 1) := by decide +kernel
theorem dX2_decrement_2 : decode cX2_decrement 2 = .ok (.isub, 1) := by decide +kernel
theorem dX2_decrement_3 : decode cX2_decrement 3 = .ok (.sipush 255, 3) := by decide +kernel
theorem dX2_decrement_6 : decode cX2_decrement 6 = .ok (.iand, 1) := by decide +kernel
theorem dX2_decrement_7 : decode cX2_decrement 7 = .ok (.istore_n 2, 1) := by decide +kernel
theorem dX2_decrement_8 : decode cX2_decrement 8 = .ok (.aload_n 0, 1) := by decide +kernel
theorem dX2_decrement_9 : decode cX2_decrement 9 = .ok (.getfield 12, 3) := by decide +kernel
theorem dX2_decrement_12 : decode cX2_decrement 12 = .ok (.iload_n 2, 1) := by decide +kernel
theorem dX2_decrement_13 : decode cX2_decrement 13 = .ok (.ifCond .ne 7, 3) := by decide +kernel
theorem dX2_decrement_16 : decode cX2_decrement 16 = .ok (.iconst 1, 1) := by decide +kernel
theorem dX2_decrement_17 : decode cX2_decrement 17 = .ok (.goto 4, 3) := by decide +kernel
theorem dX2_decrement_20 : decode cX2_decrement 20 = .ok (.iconst 0, 1) := by decide +kernel
theorem dX2_decrement_21 : decode cX2_decrement 21 = .ok (.iconst 1, 1) := by decide +kernel
theorem dX2_decrement_22 : decode cX2_decrement 22 = .ok (.iload_n 2, 1) := by decide +kernel
theorem dX2_decrement_23 : decode cX2_decrement 23 = .ok (.bipush 15, 2) := by decide +kernel
theorem dX2_decrement_25 : decode cX2_decrement 25 = .ok (.iand, 1) := by decide +kernel
theorem dX2_decrement_26 : decode cX2_decrement 26 = .ok (.bipush 15, 2) := by decide +kernel
theorem dX2_decrement_28 : decode cX2_decrement 28 = .ok (.if_icmp .ne 7, 3) := by decide +kernel
theorem dX2_decrement_31 : decode cX2_decrement 31 = .ok (.iconst 1, 1) := by decide +kernel
theorem dX2_decrement_32 : decode cX2_decrement 32 = .ok (.goto 4, 3) := by decide +kernel
theorem dX2_decrement_35 : decode cX2_decrement 35 = .ok (.iconst 0, 1) := by decide +kernel
theorem dX2_decrement_36 : decode cX2_decrement 36 = .ok (.aload_n 0, 1) := by decide +kernel
theorem dX2_decrement_37 : decode cX2_decrement 37 = .ok (.getfield 12, 3) := by decide +kernel
theorem dX2_decrement_40 : decode cX2_decrement 40 = .ok (.bipush 16, 2) := by decide +kernel
theorem dX2_decrement_42 : decode cX2_decrement 42 = .ok (.invokevirtual 18, 3) := by decide +kernel
theorem dX2_decrement_45 : decode cX2_decrement 45 = .ok (.invokevirtual 42, 3) := by decide +kernel
theorem dX2_decrement_48 : decode cX2_decrement 48 = .ok (.iload_n 2, 1) := by decide +kernel
theorem dX2_decrement_49 : decode cX2_decrement 49 = .ok (.ireturn, 1) := by decide +kernel
theorem dX2_addToHl_0 : decode cX2_addToHl 0 = .ok (.aload_n 0, 1) := by decide +kernel
theorem dX2_addToHl_1 : decode cX2_addToHl 1 = .ok (.getfield 12, 3) := by decide +kernel
theorem dX2_addToHl_4 : decode cX2_addToHl 4 = .ok (.iconst 3, 1) := by decide +kernel
theorem dX2_addToHl_5 : decode cX2_addToHl 5 = .ok (.invokevirtual 46, 3) := by decide +kernel
theorem dX2_addToHl_8 : decode cX2_addToHl 8 = .ok (.istore_n 2, 1) := by decide +kernel
theorem dX2_addToHl_9 : decode cX2_addToHl 9 = .ok (.aload_n 0, 1) := by decide +kernel
theorem dX2_addToHl_10 : decode cX2_addToHl 10 = .ok (.getfield 12, 3) := by decide +kernel
theorem dX2_addToHl_13 : decode cX2_addToHl 13 = .ok (.iconst 3, 1) := by decide +kernel
theorem dX2_addToHl_14 : decode cX2_addToHl 14 = .ok (.iload_n 2, 1) := by decide +kernel
theorem dX2_addToHl_15 : decode cX2_addToHl 15 = .ok (.iload_n 1, 1) := by decide +kernel
theorem dX2_addToHl_16 : decode cX2_addToHl 16 = .ok (.iadd, 1) := by decide +kernel
theorem dX2_addToHl_17 : decode cX2_addToHl 17 = .ok (.invokevirtual 50, 3) := by decide +kernel
theorem dX2_addToHl_20 : decode cX2_addToHl 20 = .ok (.pop, 1) := by decide +kernel
theorem dX2_addToHl_21 : decode cX2_addToHl 21 = .ok (.iload_n 2, 1) := by decide +kernel
theorem dX2_addToHl_22 : decode cX2_addToHl 22 = .ok (.sipush 4095, 3) := by decide +kernel
theorem dX2_addToHl_25 : decode cX2_addToHl 25 = .ok (.iand, 1) := by decide +kernel
theorem dX2_addToHl_26 : decode cX2_addToHl 26 = .ok (.iload_n 1, 1) := by decide +kernel
theorem dX2_addToHl_27 : decode cX2_addToHl 27 = .ok (.sipush 4095, 3) := by decide +kernel
theorem dX2_addToHl_30 : decode cX2_addToHl 30 = .ok (.iand, 1) := by decide +kernel
theorem dX2_addToHl_31 : decode cX2_addToHl 31 = .ok (.iadd, 1) := by decide +kernel
theorem dX2_addToHl_32 : decode cX2_addToHl 32 = .ok (.sipush 4095, 3) := by decide +kernel
theorem dX2_addToHl_35 : decode cX2_addToHl 35 = .ok (.if_icmp .le 7, 3) := by decide +kernel
theorem dX2_addToHl_38 : decode cX2_addToHl 38 = .ok (.iconst 1, 1) := by decide +kernel
theorem dX2_addToHl_39 : decode cX2_addToHl 39 = .ok (.goto 4, 3) := by decide +kernel
theorem dX2_addToHl_42 : decode cX2_addToHl 42 = .ok (.iconst 0, 1) := by decide +kernel
theorem dX2_addToHl_43 : decode cX2_addToHl 43 = .ok (.istore_n 3, 1) := by decide +kernel
theorem dX2_addToHl_44 : decode cX2_addToHl 44 = .ok (.aload_n 0, 1) := by decide +kernel
theorem dX2_addToHl_45 : decode cX2_addToHl 45 = .ok (.getfield 12, 3) := by decide +kernel
theorem dX2_addToHl_48 : decode cX2_addToHl 48 = .ok (.aload_n 0, 1) := by decide +kernel
theorem dX2_addToHl_49 : decode cX2_addToHl 49 = .ok (.getfield 12, 3) := by decide +kernel
theorem dX2_addToHl_52 : decode cX2_addToHl 52 = .ok (.sipush 128, 3) := by decide +kernel
theorem dX2_addToHl_55 : decode cX2_addToHl 55 = .ok (.invokevirtual 18, 3) := by decide +kernel
theorem dX2_addToHl_58 : decode cX2_addToHl 58 = .ok (.iconst 0, 1) := by decide +kernel
theorem dX2_addToHl_59 : decode cX2_addToHl 59 = .ok (.iload_n 3, 1) := by decide +kernel
theorem dX2_addToHl_60 : decode cX2_addToHl 60 = .ok (.iload_n 2, 1) := by decide +kernel
theorem dX2_addToHl_61 : decode cX2_addToHl 61 = .ok (.iload_n 1, 1) := by decide +kernel
theorem dX2_addToHl_62 : decode cX2_addToHl 62 = .ok (.iadd, 1) := by decide +kernel
theorem dX2_addToHl_63 : decode cX2_addToHl 63 = .ok (.ldc 54, 2) := by decide +kernel
theorem dX2_addToHl_65 : decode cX2_addToHl 65 = .ok (.if_icmp .le 7, 3) := by decide +kernel
theorem dX2_addToHl_68 : decode cX2_addToHl 68 = .ok (.iconst 1, 1) := by decide +kernel
theorem dX2_addToHl_69 : decode cX2_addToHl 69 = .ok (.goto 4, 3) := by decide +kernel
theorem dX2_addToHl_72 : decode cX2_addToHl 72 = .ok (.iconst 0, 1) := by decide +kernel
theorem dX2_addToHl_73 : decode cX2_addToHl 73 = .ok (.invokevirtual 42, 3) := by decide +kernel
theorem dX2_addToHl_76 : decode cX2_addToHl 76 = .ok (.return_, 1) := by decide +kernel
theorem dX2_spPlus_0 : decode cX2_spPlus 0 = .ok (.aload_n 0, 1) := by decide +kernel
theorem dX2_spPlus_1 : decode cX2_spPlus 1 = .ok (.getfield 12, 3) := by decide +kernel
theorem dX2_spPlus_4 : decode cX2_spPlus 4 = .ok (.iconst 4, 1) := by decide +kernel
theorem dX2_spPlus_5 : decode cX2_spPlus 5 = .ok (.invokevirtual 46, 3) := by decide +kernel
theorem dX2_spPlus_8 : decode cX2_spPlus 8 = .ok (.istore_n 2, 1) := by decide +kernel
theorem dX2_spPlus_9 : decode cX2_spPlus 9 = .ok (.aload_n 0, 1) := by decide +kernel
theorem dX2_spPlus_10 : decode cX2_spPlus 10 = .ok (.getfield 12, 3) := by decide +kernel
theorem dX2_spPlus_13 : decode cX2_spPlus 13 = .ok (.iconst 0, 1) := by decide +kernel
theorem dX2_spPlus_14 : decode cX2_spPlus 14 = .ok (.iconst 0, 1) := by decide +kernel
theorem dX2_spPlus_15 : decode cX2_spPlus 15 = .ok (.iload_n 2, 1) := by decide +kernel
theorem dX2_spPlus_16 : decode cX2_spPlus 16 = .ok (.bipush 15, 2) := by decide +kernel
theorem dX2_spPlus_18 : decode cX2_spPlus 18 = .ok (.iand, 1) := by decide +kernel
theorem dX2_spPlus_19 : decode cX2_spPlus 19 = .ok (.iload_n 1, 1) := by decide +kernel
theorem dX2_spPlus_20 : decode cX2_spPlus 20 = .ok (.bipush 15, 2) := by decide +kernel
theorem dX2_spPlus_22 : decode cX2_spPlus 22 = .ok (.iand, 1) := by decide +kernel
theorem dX2_spPlus_23 : decode cX2_spPlus 23 = .ok (.iadd, 1) := by decide +kernel
theorem dX2_spPlus_24 : decode cX2_spPlus 24 = .ok (.bipush 15, 2) := by decide +kernel
theorem dX2_spPlus_26 : decode cX2_spPlus 26 = .ok (.if_icmp .le 7, 3) := by decide +kernel
theorem dX2_spPlus_29 : decode cX2_spPlus 29 = .ok (.iconst 1, 1) := by decide +kernel
theorem dX2_spPlus_30 : decode cX2_spPlus 30 = .ok (.goto 4, 3) := by decide +kernel
theorem dX2_spPlus_33 : decode cX2_spPlus 33 = .ok (.iconst 0, 1) := by decide +kernel
theorem dX2_spPlus_34 : decode cX2_spPlus 34 = .ok (.iload_n 2, 1) := by decide +kernel
theorem dX2_spPlus_35 : decode cX2_spPlus 35 = .ok (.sipush 255, 3) := by decide +kernel
theorem dX2_spPlus_38 : decode cX2_spPlus 38 = .ok (.iand, 1) := by decide +kernel
theorem dX2_spPlus_39 : decode cX2_spPlus 39 = .ok (.iload_n 1, 1) := by decide +kernel
theorem dX2_spPlus_40 : decode cX2_spPlus 40 = .ok (.iadd, 1) := by decide +kernel
theorem dX2_spPlus_41 : decode cX2_spPlus 41 = .ok (.sipush 255, 3) := by decide +kernel
theorem dX2_spPlus_44 : decode cX2_spPlus 44 = .ok (.if_icmp .le 7, 3) := by decide +kernel
theorem dX2_spPlus_47 : decode cX2_spPlus 47 = .ok (.iconst 1, 1) := by decide +kernel
theorem dX2_spPlus_48 : decode cX2_spPlus 48 = .ok (.goto 4, 3) := by decide +kernel
theorem dX2_spPlus_51 : decode cX2_spPlus 51 = .ok (.iconst 0, 1) := by decide +kernel
theorem dX2_spPlus_52 : decode cX2_spPlus 52 = .ok (.invokevirtual 42, 3) := by decide +kernel
theorem dX2_spPlus_55 : decode cX2_spPlus 55 = .ok (.iload_n 2, 1) := by decide +kernel
theorem dX2_spPlus_56 : decode cX2_spPlus 56 = .ok (.iload_n 1, 1) := by decide +kernel
theorem dX2_spPlus_57 : decode cX2_spPlus 57 = .ok (.i2b, 1) := by decide +kernel
theorem dX2_spPlus_58 : decode cX2_spPlus 58 = .ok (.iadd, 1) := by decide +kernel
theorem dX2_spPlus_59 : decode cX2_spPlus 59 = .ok (.ireturn, 1) := by decide +kernel
theorem dX2_changeA_0 : decode cX2_changeA 0 = .ok (.aload_n 0, 1) := by decide +kernel
theorem dX2_changeA_1 : decode cX2_changeA 1 = .ok (.getfield 12, 3) := by decide +kernel
theorem dX2_changeA_4 : decode cX2_changeA 4 = .ok (.sipush 128, 3) := by decide +kernel
theorem dX2_changeA_7 : decode cX2_changeA 7 = .ok (.invokevirtual 18, 3) := by decide +kernel
theorem dX2_changeA_10 : decode cX2_changeA 10 = .ok (.istore_n 2, 1) := by decide +kernel
theorem dX2_changeA_11 : decode cX2_changeA 11 = .ok (.iload_n 1, 1) := by decide +kernel
theorem dX2_changeA_12 : decode cX2_changeA 12 = .ok (.tableswitch 121 4 7 #[32, 39, 77, 91], 32) := by decide +kernel
theorem dX2_changeA_44 : decode cX2_changeA 44 = .ok (.aload_n 0, 1) := by decide +kernel
theorem dX2_changeA_45 : decode cX2_changeA 45 = .ok (.invokevirtual 55, 3) := by decide +kernel
theorem dX2_changeA_48 : decode cX2_changeA 48 = .ok (.goto 123, 3) := by decide +kernel
theorem dX2_changeA_51 : decode cX2_changeA 51 = .ok (.aload_n 0, 1) := by decide +kernel
theorem dX2_changeA_52 : decode cX2_changeA 52 = .ok (.getfield 12, 3) := by decide +kernel
theorem dX2_changeA_55 : decode cX2_changeA 55 = .ok (.aload_n 0, 1) := by decide +kernel
theorem dX2_changeA_56 : decode cX2_changeA 56 = .ok (.getfield 12, 3) := by decide +kernel
theorem dX2_changeA_59 : decode cX2_changeA 59 = .ok (.invokevirtual 30, 3) := by decide +kernel
theorem dX2_changeA_62 : decode cX2_changeA 62 = .ok (.iconst (-1), 1) := by decide +kernel
theorem dX2_changeA_63 : decode cX2_changeA 63 = .ok (.ixor, 1) := by decide +kernel
theorem dX2_changeA_64 : decode cX2_changeA 64 = .ok (.invokevirtual 38, 3) := by decide +kernel
theorem dX2_changeA_67 : decode cX2_changeA 67 = .ok (.aload_n 0, 1) := by decide +kernel
theorem dX2_changeA_68 : decode cX2_changeA 68 = .ok (.getfield 12, 3) := by decide +kernel
theorem dX2_changeA_71 : decode cX2_changeA 71 = .ok (.iload_n 2, 1) := by decide +kernel
theorem dX2_changeA_72 : decode cX2_changeA 72 = .ok (.iconst 1, 1) := by decide +kernel
theorem dX2_changeA_73 : decode cX2_changeA 73 = .ok (.iconst 1, 1) := by decide +kernel
theorem dX2_changeA_74 : decode cX2_changeA 74 = .ok (.aload_n 0, 1) := by decide +kernel
theorem dX2_changeA_75 : decode cX2_changeA 75 = .ok (.getfield 12, 3) := by decide +kernel
theorem dX2_changeA_78 : decode cX2_changeA 78 = .ok (.bipush 16, 2) := by decide +kernel
theorem dX2_changeA_80 : decode cX2_changeA 80 = .ok (.invokevirtual 18, 3) := by decide +kernel
theorem dX2_changeA_83 : decode cX2_changeA 83 = .ok (.invokevirtual 42, 3) := by decide +kernel
theorem dX2_changeA_86 : decode cX2_changeA 86 = .ok (.goto 85, 3) := by decide +kernel
theorem dX2_changeA_89 : decode cX2_changeA 89 = .ok (.aload_n 0, 1) := by decide +kernel
theorem dX2_changeA_90 : decode cX2_changeA 90 = .ok (.getfield 12, 3) := by decide +kernel
theorem dX2_changeA_93 : decode cX2_changeA 93 = .ok (.iload_n 2, 1) := by decide +kernel
theorem dX2_changeA_94 : decode cX2_changeA 94 = .ok (.iconst 0, 1) := by decide +kernel
theorem dX2_changeA_95 : decode cX2_changeA 95 = .ok (.iconst 0, 1) := by decide +kernel
theorem dX2_changeA_96 : decode cX2_changeA 96 = .ok (.iconst 1, 1) := by decide +kernel
theorem dX2_changeA_97 : decode cX2_changeA 97 = .ok (.invokevirtual 42, 3) := by decide +kernel
theorem dX2_changeA_100 : decode cX2_changeA 100 = .ok (.goto 71, 3) := by decide +kernel
theorem dX2_changeA_103 : decode cX2_changeA 103 = .ok (.aload_n 0, 1) := by decide +kernel
theorem dX2_changeA_104 : decode cX2_changeA 104 = .ok (.getfield 12, 3) := by decide +kernel
theorem dX2_changeA_107 : decode cX2_changeA 107 = .ok (.iload_n 2, 1) := by decide +kernel
theorem dX2_changeA_108 : decode cX2_changeA 108 = .ok (.iconst 0, 1) := by decide +kernel
theorem dX2_changeA_109 : decode cX2_changeA 109 = .ok (.iconst 0, 1) := by decide +kernel
theorem dX2_changeA_110 : decode cX2_changeA 110 = .ok (.aload_n 0, 1) := by decide +kernel
theorem dX2_changeA_111 : decode cX2_changeA 111 = .ok (.getfield 12, 3) := by decide +kernel
theorem dX2_changeA_114 : decode cX2_changeA 114 = .ok (.bipush 16, 2) := by decide +kernel
theorem dX2_changeA_116 : decode cX2_changeA 116 = .ok (.invokevirtual 18, 3) := by decide +kernel
theorem dX2_changeA_119 : decode cX2_changeA 119 = .ok (.ifCond .ne 7, 3) := by decide +kernel
theorem dX2_changeA_122 : decode cX2_changeA 122 = .ok (.iconst 1, 1) := by decide +kernel
theorem dX2_changeA_123 : decode cX2_changeA 123 = .ok (.goto 4, 3) := by decide +kernel
theorem dX2_changeA_126 : decode cX2_changeA 126 = .ok (.iconst 0, 1) := by decide +kernel
theorem dX2_changeA_127 : decode cX2_changeA 127 = .ok (.invokevirtual 42, 3) := by decide +kernel
theorem dX2_changeA_130 : decode cX2_changeA 130 = .ok (.goto 41, 3) := by decide +kernel
theorem dX2_changeA_133 : decode cX2_changeA 133 = .ok (.aload_n 0, 1) := by decide +kernel
theorem dX2_changeA_134 : decode cX2_changeA 134 = .ok (.getfield 12, 3) := by decide +kernel
theorem dX2_changeA_137 : decode cX2_changeA 137 = .ok (.aload_n 0, 1) := by decide +kernel
theorem dX2_changeA_138 : decode cX2_changeA 138 = .ok (.iload_n 1, 1) := by decide +kernel
theorem dX2_changeA_139 : decode cX2_changeA 139 = .ok (.aload_n 0, 1) := by decide +kernel
theorem dX2_changeA_140 : decode cX2_changeA 140 = .ok (.getfield 12, 3) := by decide +kernel
theorem dX2_changeA_143 : decode cX2_changeA 143 = .ok (.invokevirtual 30, 3) := by decide +kernel
theorem dX2_changeA_146 : decode cX2_changeA 146 = .ok (.invokevirtual 58, 3) := by decide +kernel
theorem dX2_changeA_149 : decode cX2_changeA 149 = .ok (.invokevirtual 38, 3) := by decide +kernel
theorem dX2_changeA_152 : decode cX2_changeA 152 = .ok (.aload_n 0, 1) := by decide +kernel
theorem dX2_changeA_153 : decode cX2_changeA 153 = .ok (.getfield 12, 3) := by decide +kernel
theorem dX2_changeA_156 : decode cX2_changeA 156 = .ok (.iconst 0, 1) := by decide +kernel
theorem dX2_changeA_157 : decode cX2_changeA 157 = .ok (.iconst 0, 1) := by decide +kernel
theorem dX2_changeA_158 : decode cX2_changeA 158 = .ok (.iconst 0, 1) := by decide +kernel
theorem dX2_changeA_159 : decode cX2_changeA 159 = .ok (.aload_n 0, 1) := by decide +kernel
theorem dX2_changeA_160 : decode cX2_changeA 160 = .ok (.getfield 12, 3) := by decide +kernel
theorem dX2_changeA_163 : decode cX2_changeA 163 = .ok (.bipush 16, 2) := by decide +kernel
theorem dX2_changeA_165 : decode cX2_changeA 165 = .ok (.invokevirtual 18, 3) := by decide +kernel
theorem dX2_changeA_168 : decode cX2_changeA 168 = .ok (.invokevirtual 42, 3) := by decide +kernel
theorem dX2_changeA_171 : decode cX2_changeA 171 = .ok (.return_, 1) := by decide +kernel
theorem dX2_adjustDecimal_0 : decode cX2_adjustDecimal 0 = .ok (.aload_n 0, 1) := by decide +kernel
theorem dX2_adjustDecimal_1 : decode cX2_adjustDecimal 1 = .ok (.getfield 12, 3) := by decide +kernel
theorem dX2_adjustDecimal_4 : decode cX2_adjustDecimal 4 = .ok (.invokevirtual 30, 3) := by decide +kernel
theorem dX2_adjustDecimal_7 : decode cX2_adjustDecimal 7 = .ok (.istore_n 1, 1) := by decide +kernel
theorem dX2_adjustDecimal_8 : decode cX2_adjustDecimal 8 = .ok (.aload_n 0, 1) := by decide +kernel
theorem dX2_adjustDecimal_9 : decode cX2_adjustDecimal 9 = .ok (.getfield 12, 3) := by decide +kernel
theorem dX2_adjustDecimal_12 : decode cX2_adjustDecimal 12 = .ok (.bipush 64, 2) := by decide +kernel
theorem dX2_adjustDecimal_14 : decode cX2_adjustDecimal 14 = .ok (.invokevirtual 18, 3) := by decide +kernel
theorem dX2_adjustDecimal_17 : decode cX2_adjustDecimal 17 = .ok (.istore_n 2, 1) := by decide +kernel
theorem dX2_adjustDecimal_18 : decode cX2_adjustDecimal 18 = .ok (.aload_n 0, 1) := by decide +kernel
theorem dX2_adjustDecimal_19 : decode cX2_adjustDecimal 19 = .ok (.getfield 12, 3) := by decide +kernel
theorem dX2_adjustDecimal_22 : decode cX2_adjustDecimal 22 = .ok (.bipush 32, 2) := by decide +kernel
theorem dX2_adjustDecimal_24 : decode cX2_adjustDecimal 24 = .ok (.invokevirtual 18, 3) := by decide +kernel
theorem dX2_adjustDecimal_27 : decode cX2_adjustDecimal 27 = .ok (.ifCond .ne 16, 3) := by decide +kernel
theorem dX2_adjustDecimal_30 : decode cX2_adjustDecimal 30 = .ok (.iload_n 2, 1) := by decide +kernel
theorem dX2_adjustDecimal_31 : decode cX2_adjustDecimal 31 = .ok (.ifCond .ne 16, 3) := by decide +kernel
theorem dX2_adjustDecimal_34 : decode cX2_adjustDecimal 34 = .ok (.iload_n 1, 1) := by decide +kernel
theorem dX2_adjustDecimal_35 : decode cX2_adjustDecimal 35 = .ok (.bipush 15, 2) := by decide +kernel
theorem dX2_adjustDecimal_37 : decode cX2_adjustDecimal 37 = .ok (.iand, 1) := by decide +kernel
theorem dX2_adjustDecimal_38 : decode cX2_adjustDecimal 38 = .ok (.bipush 9, 2) := by decide +kernel
theorem dX2_adjustDecimal_40 : decode cX2_adjustDecimal 40 = .ok (.if_icmp .le 7, 3) := by decide +kernel
theorem dX2_adjustDecimal_43 : decode cX2_adjustDecimal 43 = .ok (.iconst 1, 1) := by decide +kernel
theorem dX2_adjustDecimal_44 : decode cX2_adjustDecimal 44 = .ok (.goto 4, 3) := by decide +kernel
theorem dX2_adjustDecimal_47 : decode cX2_adjustDecimal 47 = .ok (.iconst 0, 1) := by decide +kernel
theorem dX2_adjustDecimal_48 : decode cX2_adjustDecimal 48 = .ok (.istore_n 3, 1) := by decide +kernel
theorem dX2_adjustDecimal_49 : decode cX2_adjustDecimal 49 = .ok (.aload_n 0, 1) := by decide +kernel
theorem dX2_adjustDecimal_50 : decode cX2_adjustDecimal 50 = .ok (.getfield 12, 3) := by decide +kernel
theorem dX2_adjustDecimal_53 : decode cX2_adjustDecimal 53 = .ok (.bipush 16, 2) := by decide +kernel
theorem dX2_adjustDecimal_55 : decode cX2_adjustDecimal 55 = .ok (.invokevirtual 18, 3) := by decide +kernel
theorem dX2_adjustDecimal_58 : decode cX2_adjustDecimal 58 = .ok (.ifCond .ne 14, 3) := by decide +kernel
theorem dX2_adjustDecimal_61 : decode cX2_adjustDecimal 61 = .ok (.iload_n 2, 1) := by decide +kernel
theorem dX2_adjustDecimal_62 : decode cX2_adjustDecimal 62 = .ok (.ifCond .ne 14, 3) := by decide +kernel
theorem dX2_adjustDecimal_65 : decode cX2_adjustDecimal 65 = .ok (.iload_n 1, 1) := by decide +kernel
theorem dX2_adjustDecimal_66 : decode cX2_adjustDecimal 66 = .ok (.sipush 153, 3) := by decide +kernel
theorem dX2_adjustDecimal_69 : decode cX2_adjustDecimal 69 = .ok (.if_icmp .le 7, 3) := by decide +kernel
theorem dX2_adjustDecimal_72 : decode cX2_adjustDecimal 72 = .ok (.iconst 1, 1) := by decide +kernel
theorem dX2_adjustDecimal_73 : decode cX2_adjustDecimal 73 = .ok (.goto 4, 3) := by decide +kernel
theorem dX2_adjustDecimal_76 : decode cX2_adjustDecimal 76 = .ok (.iconst 0, 1) := by decide +kernel
theorem dX2_adjustDecimal_77 : decode cX2_adjustDecimal 77 = .ok (.istore 4, 2) := by decide +kernel
theorem dX2_adjustDecimal_79 : decode cX2_adjustDecimal 79 = .ok (.iload_n 3, 1) := by decide +kernel
theorem dX2_adjustDecimal_80 : decode cX2_adjustDecimal 80 = .ok (.ifCond .eq 8, 3) := by decide +kernel
theorem dX2_adjustDecimal_83 : decode cX2_adjustDecimal 83 = .ok (.bipush 6, 2) := by decide +kernel
theorem dX2_adjustDecimal_85 : decode cX2_adjustDecimal 85 = .ok (.goto 4, 3) := by decide +kernel
theorem dX2_adjustDecimal_88 : decode cX2_adjustDecimal 88 = .ok (.iconst 0, 1) := by decide +kernel
theorem dX2_adjustDecimal_89 : decode cX2_adjustDecimal 89 = .ok (.iload 4, 2) := by decide +kernel
theorem dX2_adjustDecimal_91 : decode cX2_adjustDecimal 91 = .ok (.ifCond .eq 8, 3) := by decide +kernel
theorem dX2_adjustDecimal_94 : decode cX2_adjustDecimal 94 = .ok (.bipush 96, 2) := by decide +kernel
theorem dX2_adjustDecimal_96 : decode cX2_adjustDecimal 96 = .ok (.goto 4, 3) := by decide +kernel
theorem dX2_adjustDecimal_99 : decode cX2_adjustDecimal 99 = .ok (.iconst 0, 1) := by decide +kernel
theorem dX2_adjustDecimal_100 : decode cX2_adjustDecimal 100 = .ok (.iadd, 1) := by decide +kernel
theorem dX2_adjustDecimal_101 : decode cX2_adjustDecimal 101 = .ok (.istore 5, 2) := by decide +kernel
theorem dX2_adjustDecimal_103 : decode cX2_adjustDecimal 103 = .ok (.aload_n 0, 1) := by decide +kernel
theorem dX2_adjustDecimal_104 : decode cX2_adjustDecimal 104 = .ok (.getfield 12, 3) := by decide +kernel
theorem dX2_adjustDecimal_107 : decode cX2_adjustDecimal 107 = .ok (.iload_n 2, 1) := by decide +kernel
theorem dX2_adjustDecimal_108 : decode cX2_adjustDecimal 108 = .ok (.ifCond .eq 10, 3) := by decide +kernel
theorem dX2_adjustDecimal_111 : decode cX2_adjustDecimal 111 = .ok (.iload_n 1, 1) := by decide +kernel
theorem dX2_adjustDecimal_112 : decode cX2_adjustDecimal 112 = .ok (.iload 5, 2) := by decide +kernel
theorem dX2_adjustDecimal_114 : decode cX2_adjustDecimal 114 = .ok (.isub, 1) := by decide +kernel
theorem dX2_adjustDecimal_115 : decode cX2_adjustDecimal 115 = .ok (.goto 7, 3) := by decide +kernel
theorem dX2_adjustDecimal_118 : decode cX2_adjustDecimal 118 = .ok (.iload_n 1, 1) := by decide +kernel
theorem dX2_adjustDecimal_119 : decode cX2_adjustDecimal 119 = .ok (.iload 5, 2) := by decide +kernel
theorem dX2_adjustDecimal_121 : decode cX2_adjustDecimal 121 = .ok (.iadd, 1) := by decide +kernel
theorem dX2_adjustDecimal_122 : decode cX2_adjustDecimal 122 = .ok (.invokevirtual 38, 3) := by decide +kernel
theorem dX2_adjustDecimal_125 : decode cX2_adjustDecimal 125 = .ok (.aload_n 0, 1) := by decide +kernel
theorem dX2_adjustDecimal_126 : decode cX2_adjustDecimal 126 = .ok (.getfield 12, 3) := by decide +kernel
theorem dX2_adjustDecimal_129 : decode cX2_adjustDecimal 129 = .ok (.aload_n 0, 1) := by decide +kernel
theorem dX2_adjustDecimal_130 : decode cX2_adjustDecimal 130 = .ok (.getfield 12, 3) := by decide +kernel
theorem dX2_adjustDecimal_133 : decode cX2_adjustDecimal 133 = .ok (.invokevirtual 30, 3) := by decide +kernel
theorem dX2_adjustDecimal_136 : decode cX2_adjustDecimal 136 = .ok (.ifCond .ne 7, 3) := by decide +kernel
theorem dX2_adjustDecimal_139 : decode cX2_adjustDecimal 139 = .ok (.iconst 1, 1) := by decide +kernel
theorem dX2_adjustDecimal_140 : decode cX2_adjustDecimal 140 = .ok (.goto 4, 3) := by decide +kernel
theorem dX2_adjustDecimal_143 : decode cX2_adjustDecimal 143 = .ok (.iconst 0, 1) := by decide +kernel
theorem dX2_adjustDecimal_144 : decode cX2_adjustDecimal 144 = .ok (.iload_n 2, 1) := by decide +kernel
theorem dX2_adjustDecimal_145 : decode cX2_adjustDecimal 145 = .ok (.iconst 0, 1) := by decide +kernel
theorem dX2_adjustDecimal_146 : decode cX2_adjustDecimal 146 = .ok (.iload 4, 2) := by decide +kernel
theorem dX2_adjustDecimal_148 : decode cX2_adjustDecimal 148 = .ok (.invokevirtual 42, 3) := by decide +kernel
theorem dX2_adjustDecimal_151 : decode cX2_adjustDecimal 151 = .ok (.return_, 1) := by decide +kernel
theorem dX2_shift_0 : decode cX2_shift 0 = .ok (.aload_n 0, 1) := by decide +kernel
theorem dX2_shift_1 : decode cX2_shift 1 = .ok (.getfield 12, 3) := by decide +kernel
theorem dX2_shift_4 : decode cX2_shift 4 = .ok (.bipush 16, 2) := by decide +kernel
theorem dX2_shift_6 : decode cX2_shift 6 = .ok (.invokevirtual 18, 3) := by decide +kernel
theorem dX2_shift_9 : decode cX2_shift 9 = .ok (.ifCond .eq 7, 3) := by decide +kernel
theorem dX2_shift_12 : decode cX2_shift 12 = .ok (.iconst 1, 1) := by decide +kernel
theorem dX2_shift_13 : decode cX2_shift 13 = .ok (.goto 4, 3) := by decide +kernel
theorem dX2_shift_16 : decode cX2_shift 16 = .ok (.iconst 0, 1) := by decide +kernel
theorem dX2_shift_17 : decode cX2_shift 17 = .ok (.istore_n 3, 1) := by decide +kernel
theorem dX2_shift_18 : decode cX2_shift 18 = .ok (.iload_n 1, 1) := by decide +kernel
theorem dX2_shift_19 : decode cX2_shift 19 = .ok (.tableswitch 124 0 6 #[41, 54, 67, 77, 90, 98, 112], 41) := by decide +kernel
theorem dX2_shift_60 : decode cX2_shift 60 = .ok (.iload_n 2, 1) := by decide +kernel
theorem dX2_shift_61 : decode cX2_shift 61 = .ok (.iconst 1, 1) := by decide +kernel
theorem dX2_shift_62 : decode cX2_shift 62 = .ok (.ishl, 1) := by decide +kernel
theorem dX2_shift_63 : decode cX2_shift 63 = .ok (.iload_n 2, 1) := by decide +kernel
theorem dX2_shift_64 : decode cX2_shift 64 = .ok (.bipush 7, 2) := by decide +kernel
theorem dX2_shift_66 : decode cX2_shift 66 = .ok (.ishr, 1) := by decide +kernel
theorem dX2_shift_67 : decode cX2_shift 67 = .ok (.ior, 1) := by decide +kernel
theorem dX2_shift_68 : decode cX2_shift 68 = .ok (.istore 4, 2) := by decide +kernel
theorem dX2_shift_70 : decode cX2_shift 70 = .ok (.goto 78, 3) := by decide +kernel
theorem dX2_shift_73 : decode cX2_shift 73 = .ok (.iload_n 2, 1) := by decide +kernel
theorem dX2_shift_74 : decode cX2_shift 74 = .ok (.iconst 1, 1) := by decide +kernel
theorem dX2_shift_75 : decode cX2_shift 75 = .ok (.ishr, 1) := by decide +kernel
theorem dX2_shift_76 : decode cX2_shift 76 = .ok (.iload_n 2, 1) := by decide +kernel
theorem dX2_shift_77 : decode cX2_shift 77 = .ok (.bipush 7, 2) := by decide +kernel
theorem dX2_shift_79 : decode cX2_shift 79 = .ok (.ishl, 1) := by decide +kernel
theorem dX2_shift_80 : decode cX2_shift 80 = .ok (.ior, 1) := by decide +kernel
theorem dX2_shift_81 : decode cX2_shift 81 = .ok (.istore 4, 2) := by decide +kernel
theorem dX2_shift_83 : decode cX2_shift 83 = .ok (.goto 65, 3) := by decide +kernel
theorem dX2_shift_86 : decode cX2_shift 86 = .ok (.iload_n 2, 1) := by decide +kernel
theorem dX2_shift_87 : decode cX2_shift 87 = .ok (.iconst 1, 1) := by decide +kernel
theorem dX2_shift_88 : decode cX2_shift 88 = .ok (.ishl, 1) := by decide +kernel
theorem dX2_shift_89 : decode cX2_shift 89 = .ok (.iload_n 3, 1) := by decide +kernel
theorem dX2_shift_90 : decode cX2_shift 90 = .ok (.ior, 1) := by decide +kernel
theorem dX2_shift_91 : decode cX2_shift 91 = .ok (.istore 4, 2) := by decide +kernel
theorem dX2_shift_93 : decode cX2_shift 93 = .ok (.goto 55, 3) := by decide +kernel
theorem dX2_shift_96 : decode cX2_shift 96 = .ok (.iload_n 2, 1) := by decide +kernel
theorem dX2_shift_97 : decode cX2_shift 97 = .ok (.iconst 1, 1) := by decide +kernel
theorem dX2_shift_98 : decode cX2_shift 98 = .ok (.ishr, 1) := by decide +kernel
theorem dX2_shift_99 : decode cX2_shift 99 = .ok (.iload_n 3, 1) := by decide +kernel
theorem dX2_shift_100 : decode cX2_shift 100 = .ok (.bipush 7, 2) := by decide +kernel
theorem dX2_shift_102 : decode cX2_shift 102 = .ok (.ishl, 1) := by decide +kernel
theorem dX2_shift_103 : decode cX2_shift 103 = .ok (.ior, 1) := by decide +kernel
theorem dX2_shift_104 : decode cX2_shift 104 = .ok (.istore 4, 2) := by decide +kernel
theorem dX2_shift_106 : decode cX2_shift 106 = .ok (.goto 42, 3) := by decide +kernel
theorem dX2_shift_109 : decode cX2_shift 109 = .ok (.iload_n 2, 1) := by decide +kernel
theorem dX2_shift_110 : decode cX2_shift 110 = .ok (.iconst 1, 1) := by decide +kernel
theorem dX2_shift_111 : decode cX2_shift 111 = .ok (.ishl, 1) := by decide +kernel
theorem dX2_shift_112 : decode cX2_shift 112 = .ok (.istore 4, 2) := by decide +kernel
theorem dX2_shift_114 : decode cX2_shift 114 = .ok (.goto 34, 3) := by decide +kernel
theorem dX2_shift_117 : decode cX2_shift 117 = .ok (.iload_n 2, 1) := by decide +kernel
theorem dX2_shift_118 : decode cX2_shift 118 = .ok (.iconst 1, 1) := by decide +kernel
theorem dX2_shift_119 : decode cX2_shift 119 = .ok (.ishr, 1) := by decide +kernel
theorem dX2_shift_120 : decode cX2_shift 120 = .ok (.iload_n 2, 1) := by decide +kernel
theorem dX2_shift_121 : decode cX2_shift 121 = .ok (.sipush 128, 3) := by decide +kernel
theorem dX2_shift_124 : decode cX2_shift 124 = .ok (.iand, 1) := by decide +kernel
theorem dX2_shift_125 : decode cX2_shift 125 = .ok (.ior, 1) := by decide +kernel
theorem dX2_shift_126 : decode cX2_shift 126 = .ok (.istore 4, 2) := by decide +kernel
theorem dX2_shift_128 : decode cX2_shift 128 = .ok (.goto 20, 3) := by decide +kernel
theorem dX2_shift_131 : decode cX2_shift 131 = .ok (.iload_n 2, 1) := by decide +kernel
theorem dX2_shift_132 : decode cX2_shift 132 = .ok (.iconst 4, 1) := by decide +kernel
theorem dX2_shift_133 : decode cX2_shift 133 = .ok (.ishl, 1) := by decide +kernel
theorem dX2_shift_134 : decode cX2_shift 134 = .ok (.iload_n 2, 1) := by decide +kernel
theorem dX2_shift_135 : decode cX2_shift 135 = .ok (.iconst 4, 1) := by decide +kernel
theorem dX2_shift_136 : decode cX2_shift 136 = .ok (.ishr, 1) := by decide +kernel
theorem dX2_shift_137 : decode cX2_shift 137 = .ok (.ior, 1) := by decide +kernel
theorem dX2_shift_138 : decode cX2_shift 138 = .ok (.istore 4, 2) := by decide +kernel
theorem dX2_shift_140 : decode cX2_shift 140 = .ok (.goto 8, 3) := by decide +kernel
theorem dX2_shift_143 : decode cX2_shift 143 = .ok (.iload_n 2, 1) := by decide +kernel
theorem dX2_shift_144 : decode cX2_shift 144 = .ok (.iconst 1, 1) := by decide +kernel
theorem dX2_shift_145 : decode cX2_shift 145 = .ok (.ishr, 1) := by decide +kernel
theorem dX2_shift_146 : decode cX2_shift 146 = .ok (.istore 4, 2) := by decide +kernel
theorem dX2_shift_148 : decode cX2_shift 148 = .ok (.iload 4, 2) := by decide +kernel
theorem dX2_shift_150 : decode cX2_shift 150 = .ok (.sipush 255, 3) := by decide +kernel
theorem dX2_shift_153 : decode cX2_shift 153 = .ok (.iand, 1) := by decide +kernel
theorem dX2_shift_154 : decode cX2_shift 154 = .ok (.istore 4, 2) := by decide +kernel
theorem dX2_shift_156 : decode cX2_shift 156 = .ok (.aload_n 0, 1) := by decide +kernel
theorem dX2_shift_157 : decode cX2_shift 157 = .ok (.getfield 12, 3) := by decide +kernel
theorem dX2_shift_160 : decode cX2_shift 160 = .ok (.iload 4, 2) := by decide +kernel
theorem dX2_shift_162 : decode cX2_shift 162 = .ok (.ifCond .ne 7, 3) := by decide +kernel
theorem dX2_shift_165 : decode cX2_shift 165 = .ok (.iconst 1, 1) := by decide +kernel
theorem dX2_shift_166 : decode cX2_shift 166 = .ok (.goto 4, 3) := by decide +kernel
theorem dX2_shift_169 : decode cX2_shift 169 = .ok (.iconst 0, 1) := by decide +kernel
theorem dX2_shift_170 : decode cX2_shift 170 = .ok (.iconst 0, 1) := by decide +kernel
theorem dX2_shift_171 : decode cX2_shift 171 = .ok (.iconst 0, 1) := by decide +kernel
theorem dX2_shift_172 : decode cX2_shift 172 = .ok (.iload_n 1, 1) := by decide +kernel
theorem dX2_shift_173 : decode cX2_shift 173 = .ok (.iload_n 2, 1) := by decide +kernel
theorem dX2_shift_174 : decode cX2_shift 174 = .ok (.invokestatic 62, 3) := by decide +kernel
theorem dX2_shift_177 : decode cX2_shift 177 = .ok (.invokevirtual 42, 3) := by decide +kernel
theorem dX2_shift_180 : decode cX2_shift 180 = .ok (.iload 4, 2) := by decide +kernel
theorem dX2_shift_182 : decode cX2_shift 182 = .ok (.ireturn, 1) := by decide +kernel
theorem dX2_carryOfShift_0 : decode cX2_carryOfShift 0 = .ok (.iload_n 0, 1) := by decide +kernel
theorem dX2_carryOfShift_1 : decode cX2_carryOfShift 1 = .ok (.bipush 6, 2) := by decide +kernel
theorem dX2_carryOfShift_3 : decode cX2_carryOfShift 3 = .ok (.if_icmp .ne 5, 3) := by decide +kernel
theorem dX2_carryOfShift_6 : decode cX2_carryOfShift 6 = .ok (.iconst 0, 1) := by decide +kernel
theorem dX2_carryOfShift_7 : decode cX2_carryOfShift 7 = .ok (.ireturn, 1) := by decide +kernel
theorem dX2_carryOfShift_8 : decode cX2_carryOfShift 8 = .ok (.iload_n 1, 1) := by decide +kernel
theorem dX2_carryOfShift_9 : decode cX2_carryOfShift 9 = .ok (.iload_n 0, 1) := by decide +kernel
theorem dX2_carryOfShift_10 : decode cX2_carryOfShift 10 = .ok (.iconst 1, 1) := by decide +kernel
theorem dX2_carryOfShift_11 : decode cX2_carryOfShift 11 = .ok (.iand, 1) := by decide +kernel
theorem dX2_carryOfShift_12 : decode cX2_carryOfShift 12 = .ok (.ifCond .ne 9, 3) := by decide +kernel
theorem dX2_carryOfShift_15 : decode cX2_carryOfShift 15 = .ok (.sipush 128, 3) := by decide +kernel
theorem dX2_carryOfShift_18 : decode cX2_carryOfShift 18 = .ok (.goto 4, 3) := by decide +kernel
theorem dX2_carryOfShift_21 : decode cX2_carryOfShift 21 = .ok (.iconst 1, 1) := by decide +kernel
theorem dX2_carryOfShift_22 : decode cX2_carryOfShift 22 = .ok (.iand, 1) := by decide +kernel
theorem dX2_carryOfShift_23 : decode cX2_carryOfShift 23 = .ok (.ifCond .eq 7, 3) := by decide +kernel
theorem dX2_carryOfShift_26 : decode cX2_carryOfShift 26 = .ok (.iconst 1, 1) := by decide +kernel
theorem dX2_carryOfShift_27 : decode cX2_carryOfShift 27 = .ok (.goto 4, 3) := by decide +kernel
theorem dX2_carryOfShift_30 : decode cX2_carryOfShift 30 = .ok (.iconst 0, 1) := by decide +kernel
theorem dX2_carryOfShift_31 : decode cX2_carryOfShift 31 = .ok (.ireturn, 1) := by decide +kernel
theorem dX2_testBit_0 : decode cX2_testBit 0 = .ok (.aload_n 0, 1) := by decide +kernel
theorem dX2_testBit_1 : decode cX2_testBit 1 = .ok (.getfield 12, 3) := by decide +kernel
theorem dX2_testBit_4 : decode cX2_testBit 4 = .ok (.iload_n 2, 1) := by decide +kernel
theorem dX2_testBit_5 : decode cX2_testBit 5 = .ok (.iload_n 1, 1) := by decide +kernel
theorem dX2_testBit_6 : decode cX2_testBit 6 = .ok (.ishr, 1) := by decide +kernel
theorem dX2_testBit_7 : decode cX2_testBit 7 = .ok (.iconst 1, 1) := by decide +kernel
theorem dX2_testBit_8 : decode cX2_testBit 8 = .ok (.iand, 1) := by decide +kernel
theorem dX2_testBit_9 : decode cX2_testBit 9 = .ok (.ifCond .ne 7, 3) := by decide +kernel
theorem dX2_testBit_12 : decode cX2_testBit 12 = .ok (.iconst 1, 1) := by decide +kernel
theorem dX2_testBit_13 : decode cX2_testBit 13 = .ok (.goto 4, 3) := by decide +kernel
theorem dX2_testBit_16 : decode cX2_testBit 16 = .ok (.iconst 0, 1) := by decide +kernel
theorem dX2_testBit_17 : decode cX2_testBit 17 = .ok (.iconst 0, 1) := by decide +kernel
theorem dX2_testBit_18 : decode cX2_testBit 18 = .ok (.iconst 1, 1) := by decide +kernel
theorem dX2_testBit_19 : decode cX2_testBit 19 = .ok (.aload_n 0, 1) := by decide +kernel
theorem dX2_testBit_20 : decode cX2_testBit 20 = .ok (.getfield 12, 3) := by decide +kernel
theorem dX2_testBit_23 : decode cX2_testBit 23 = .ok (.bipush 16, 2) := by decide +kernel
theorem dX2_testBit_25 : decode cX2_testBit 25 = .ok (.invokevirtual 18, 3) := by decide +kernel
theorem dX2_testBit_28 : decode cX2_testBit 28 = .ok (.invokevirtual 42, 3) := by decide +kernel
theorem dX2_testBit_31 : decode cX2_testBit 31 = .ok (.return_, 1) := by decide +kernel
theorem dX3_init_0 : decode cX3_init 0 = .ok (.aload_n 0, 1) := by decide +kernel
theorem dX3_init_1 : decode cX3_init 1 = .ok (.invokespecial 1, 3) := by decide +kernel
theorem dX3_init_4 : decode cX3_init 4 = .ok (.aload_n 0, 1) := by decide +kernel
theorem dX3_init_5 : decode cX3_init 5 = .ok (.new 7, 3) := by decide +kernel
theorem dX3_init_8 : decode cX3_init 8 = .ok (.dup, 1) := by decide +kernel
theorem dX3_init_9 : decode cX3_init 9 = .ok (.invokespecial 9, 3) := by decide +kernel
theorem dX3_init_12 : decode cX3_init 12 = .ok (.putfield 10, 3) := by decide +kernel
theorem dX3_init_15 : decode cX3_init 15 = .ok (.aload_n 0, 1) := by decide +kernel
theorem dX3_init_16 : decode cX3_init 16 = .ok (.new 16, 3) := by decide +kernel
theorem dX3_init_19 : decode cX3_init 19 = .ok (.dup, 1) := by decide +kernel
theorem dX3_init_20 : decode cX3_init 20 = .ok (.invokespecial 18, 3) := by decide +kernel
theorem dX3_init_23 : decode cX3_init 23 = .ok (.putfield 19, 3) := by decide +kernel
theorem dX3_init_26 : decode cX3_init 26 = .ok (.aload_n 0, 1) := by decide +kernel
theorem dX3_init_27 : decode cX3_init 27 = .ok (.aload_n 0, 1) := by decide +kernel
theorem dX3_init_28 : decode cX3_init 28 = .ok (.getfield 19, 3) := by decide +kernel
theorem dX3_init_31 : decode cX3_init 31 = .ok (.getfield 23, 3) := by decide +kernel
theorem dX3_init_34 : decode cX3_init 34 = .ok (.putfield 27, 3) := by decide +kernel
theorem dX3_init_37 : decode cX3_init 37 = .ok (.return_, 1) := by decide +kernel
theorem dX3_poke_0 : decode cX3_poke 0 = .ok (.iload_n 1, 1) := by decide +kernel
theorem dX3_poke_1 : decode cX3_poke 1 = .ok (.ifCond .lt 9, 3) := by decide +kernel
theorem dX3_poke_4 : decode cX3_poke 4 = .ok (.iload_n 1, 1) := by decide +kernel
theorem dX3_poke_5 : decode cX3_poke 5 = .ok (.ldc 28, 2) := by decide +kernel
theorem dX3_poke_7 : decode cX3_poke 7 = .ok (.if_icmp .le 5, 3) := by decide +kernel
theorem dX3_poke_10 : decode cX3_poke 10 = .ok (.iconst 0, 1) := by decide +kernel
theorem dX3_poke_11 : decode cX3_poke 11 = .ok (.ireturn, 1) := by decide +kernel
theorem dX3_poke_12 : decode cX3_poke 12 = .ok (.aload_n 0, 1) := by decide +kernel
theorem dX3_poke_13 : decode cX3_poke 13 = .ok (.getfield 10, 3) := by decide +kernel
theorem dX3_poke_16 : decode cX3_poke 16 = .ok (.iload_n 1, 1) := by decide +kernel
theorem dX3_poke_17 : decode cX3_poke 17 = .ok (.iload_n 2, 1) := by decide +kernel
theorem dX3_poke_18 : decode cX3_poke 18 = .ok (.invokevirtual 29, 3) := by decide +kernel
theorem dX3_poke_21 : decode cX3_poke 21 = .ok (.iconst 1, 1) := by decide +kernel
theorem dX3_poke_22 : decode cX3_poke 22 = .ok (.ireturn, 1) := by decide +kernel
theorem dX3_feed_0 : decode cX3_feed 0 = .ok (.iload_n 1, 1) := by decide +kernel
theorem dX3_feed_1 : decode cX3_feed 1 = .ok (.ifCond .lt 9, 3) := by decide +kernel
theorem dX3_feed_4 : decode cX3_feed 4 = .ok (.iload_n 1, 1) := by decide +kernel
theorem dX3_feed_5 : decode cX3_feed 5 = .ok (.ldc 33, 2) := by decide +kernel
theorem dX3_feed_7 : decode cX3_feed 7 = .ok (.if_icmp .le 5, 3) := by decide +kernel
theorem dX3_feed_10 : decode cX3_feed 10 = .ok (.iconst 0, 1) := by decide +kernel
theorem dX3_feed_11 : decode cX3_feed 11 = .ok (.ireturn, 1) := by decide +kernel
theorem dX3_feed_12 : decode cX3_feed 12 = .ok (.aload_n 0, 1) := by decide +kernel
theorem dX3_feed_13 : decode cX3_feed 13 = .ok (.getfield 10, 3) := by decide +kernel
theorem dX3_feed_16 : decode cX3_feed 16 = .ok (.iload_n 1, 1) := by decide +kernel
theorem dX3_feed_17 : decode cX3_feed 17 = .ok (.iload_n 2, 1) := by decide +kernel
theorem dX3_feed_18 : decode cX3_feed 18 = .ok (.invokevirtual 34, 3) := by decide +kernel
theorem dX3_feed_21 : decode cX3_feed 21 = .ok (.aload_n 0, 1) := by decide +kernel
theorem dX3_feed_22 : decode cX3_feed 22 = .ok (.getfield 10, 3) := by decide +kernel
theorem dX3_feed_25 : decode cX3_feed 25 = .ok (.iload_n 1, 1) := by decide +kernel
theorem dX3_feed_26 : decode cX3_feed 26 = .ok (.iconst 4, 1) := by decide +kernel
theorem dX3_feed_27 : decode cX3_feed 27 = .ok (.iadd, 1) := by decide +kernel
theorem dX3_feed_28 : decode cX3_feed 28 = .ok (.iload_n 3, 1) := by decide +kernel
theorem dX3_feed_29 : decode cX3_feed 29 = .ok (.invokevirtual 34, 3) := by decide +kernel
theorem dX3_feed_32 : decode cX3_feed 32 = .ok (.aload_n 0, 1) := by decide +kernel
theorem dX3_feed_33 : decode cX3_feed 33 = .ok (.getfield 10, 3) := by decide +kernel
theorem dX3_feed_36 : decode cX3_feed 36 = .ok (.iload_n 1, 1) := by decide +kernel
theorem dX3_feed_37 : decode cX3_feed 37 = .ok (.bipush 8, 2) := by decide +kernel
theorem dX3_feed_39 : decode cX3_feed 39 = .ok (.iadd, 1) := by decide +kernel
theorem dX3_feed_40 : decode cX3_feed 40 = .ok (.iload 4, 2) := by decide +kernel
theorem dX3_feed_42 : decode cX3_feed 42 = .ok (.invokevirtual 34, 3) := by decide +kernel
theorem dX3_feed_45 : decode cX3_feed 45 = .ok (.aload_n 0, 1) := by decide +kernel
theorem dX3_feed_46 : decode cX3_feed 46 = .ok (.getfield 10, 3) := by decide +kernel
theorem dX3_feed_49 : decode cX3_feed 49 = .ok (.iload_n 1, 1) := by decide +kernel
theorem dX3_feed_50 : decode cX3_feed 50 = .ok (.bipush 12, 2) := by decide +kernel
theorem dX3_feed_52 : decode cX3_feed 52 = .ok (.iadd, 1) := by decide +kernel
theorem dX3_feed_53 : decode cX3_feed 53 = .ok (.iload 5, 2) := by decide +kernel
theorem dX3_feed_55 : decode cX3_feed 55 = .ok (.invokevirtual 34, 3) := by decide +kernel
theorem dX3_feed_58 : decode cX3_feed 58 = .ok (.iconst 1, 1) := by decide +kernel
theorem dX3_feed_59 : decode cX3_feed 59 = .ok (.ireturn, 1) := by decide +kernel
theorem dX3_peek_0 : decode cX3_peek 0 = .ok (.iload_n 1, 1) := by decide +kernel
theorem dX3_peek_1 : decode cX3_peek 1 = .ok (.ifCond .lt 9, 3) := by decide +kernel
theorem dX3_peek_4 : decode cX3_peek 4 = .ok (.iload_n 1, 1) := by decide +kernel
theorem dX3_peek_5 : decode cX3_peek 5 = .ok (.ldc 28, 2) := by decide +kernel
theorem dX3_peek_7 : decode cX3_peek 7 = .ok (.if_icmp .le 5, 3) := by decide +kernel
theorem dX3_peek_10 : decode cX3_peek 10 = .ok (.iconst (-1), 1) := by decide +kernel
theorem dX3_peek_11 : decode cX3_peek 11 = .ok (.ireturn, 1) := by decide +kernel
theorem dX3_peek_12 : decode cX3_peek 12 = .ok (.aload_n 0, 1) := by decide +kernel
theorem dX3_peek_13 : decode cX3_peek 13 = .ok (.getfield 10, 3) := by decide +kernel
theorem dX3_peek_16 : decode cX3_peek 16 = .ok (.iload_n 1, 1) := by decide +kernel
theorem dX3_peek_17 : decode cX3_peek 17 = .ok (.invokevirtual 37, 3) := by decide +kernel
theorem dX3_peek_20 : decode cX3_peek 20 = .ok (.ireturn, 1) := by decide +kernel
theorem dX3_step_0 : decode cX3_step 0 = .ok (.aload_n 0, 1) := by decide +kernel
theorem dX3_step_1 : decode cX3_step 1 = .ok (.invokevirtual 41, 3) := by decide +kernel
theorem dX3_step_4 : decode cX3_step 4 = .ok (.ireturn, 1) := by decide +kernel
theorem dX3_run_0 : decode cX3_run 0 = .ok (.iload_n 1, 1) := by decide +kernel
theorem dX3_run_1 : decode cX3_run 1 = .ok (.iconst 1, 1) := by decide +kernel
theorem dX3_run_2 : decode cX3_run 2 = .ok (.if_icmp .lt 10, 3) := by decide +kernel
theorem dX3_run_5 : decode cX3_run 5 = .ok (.iload_n 1, 1) := by decide +kernel
theorem dX3_run_6 : decode cX3_run 6 = .ok (.sipush 2000, 3) := by decide +kernel
theorem dX3_run_9 : decode cX3_run 9 = .ok (.if_icmp .le 5, 3) := by decide +kernel
theorem dX3_run_12 : decode cX3_run 12 = .ok (.iconst (-1), 1) := by decide +kernel
theorem dX3_run_13 : decode cX3_run 13 = .ok (.ireturn, 1) := by decide +kernel
theorem dX3_run_14 : decode cX3_run 14 = .ok (.iconst 0, 1) := by decide +kernel
theorem dX3_run_15 : decode cX3_run 15 = .ok (.istore_n 2, 1) := by decide +kernel
theorem dX3_run_16 : decode cX3_run 16 = .ok (.iload_n 2, 1) := by decide +kernel
theorem dX3_run_17 : decode cX3_run 17 = .ok (.iload_n 1, 1) := by decide +kernel
theorem dX3_run_18 : decode cX3_run 18 = .ok (.if_icmp .ge 19, 3) := by decide +kernel
theorem dX3_run_21 : decode cX3_run 21 = .ok (.aload_n 0, 1) := by decide +kernel
theorem dX3_run_22 : decode cX3_run 22 = .ok (.invokevirtual 41, 3) := by decide +kernel
theorem dX3_run_25 : decode cX3_run 25 = .ok (.iconst 2, 1) := by decide +kernel
theorem dX3_run_26 : decode cX3_run 26 = .ok (.if_icmp .ne 5, 3) := by decide +kernel
theorem dX3_run_29 : decode cX3_run 29 = .ok (.iload_n 2, 1) := by decide +kernel
theorem dX3_run_30 : decode cX3_run 30 = .ok (.ireturn, 1) := by decide +kernel
theorem dX3_run_31 : decode cX3_run 31 = .ok (.iinc 2 1, 3) := by decide +kernel
theorem dX3_run_34 : decode cX3_run 34 = .ok (.goto (-18), 3) := by decide +kernel
theorem dX3_run_37 : decode cX3_run 37 = .ok (.iload_n 1, 1) := by decide +kernel
theorem dX3_run_38 : decode cX3_run 38 = .ok (.ireturn, 1) := by decide +kernel
theorem dX3_request_0 : decode cX3_request 0 = .ok (.iload_n 1, 1) := by decide +kernel
theorem dX3_request_1 : decode cX3_request 1 = .ok (.ifCond .lt 8, 3) := by decide +kernel
theorem dX3_request_4 : decode cX3_request 4 = .ok (.iload_n 1, 1) := by decide +kernel
theorem dX3_request_5 : decode cX3_request 5 = .ok (.iconst 5, 1) := by decide +kernel
theorem dX3_request_6 : decode cX3_request 6 = .ok (.if_icmp .lt 5, 3) := by decide +kernel
theorem dX3_request_9 : decode cX3_request 9 = .ok (.iconst 0, 1) := by decide +kernel
theorem dX3_request_10 : decode cX3_request 10 = .ok (.ireturn, 1) := by decide +kernel
theorem dX3_request_11 : decode cX3_request 11 = .ok (.aload_n 0, 1) := by decide +kernel
theorem dX3_request_12 : decode cX3_request 12 = .ok (.getfield 10, 3) := by decide +kernel
theorem dX3_request_15 : decode cX3_request 15 = .ok (.iconst 1, 1) := by decide +kernel
theorem dX3_request_16 : decode cX3_request 16 = .ok (.iload_n 1, 1) := by decide +kernel
theorem dX3_request_17 : decode cX3_request 17 = .ok (.ishl, 1) := by decide +kernel
theorem dX3_request_18 : decode cX3_request 18 = .ok (.invokevirtual 45, 3) := by decide +kernel
theorem dX3_request_21 : decode cX3_request 21 = .ok (.iconst 1, 1) := by decide +kernel
theorem dX3_request_22 : decode cX3_request 22 = .ok (.ireturn, 1) := by decide +kernel
theorem dX3_reg_0 : decode cX3_reg 0 = .ok (.aload_n 0, 1) := by decide +kernel
theorem dX3_reg_1 : decode cX3_reg 1 = .ok (.getfield 27, 3) := by decide +kernel
theorem dX3_reg_4 : decode cX3_reg 4 = .ok (.iload_n 1, 1) := by decide +kernel
theorem dX3_reg_5 : decode cX3_reg 5 = .ok (.invokevirtual 49, 3) := by decide +kernel
theorem dX3_reg_8 : decode cX3_reg 8 = .ok (.ireturn, 1) := by decide +kernel
theorem dX3_set_0 : decode cX3_set 0 = .ok (.aload_n 0, 1) := by decide +kernel
theorem dX3_set_1 : decode cX3_set 1 = .ok (.getfield 27, 3) := by decide +kernel
theorem dX3_set_4 : decode cX3_set 4 = .ok (.iload_n 1, 1) := by decide +kernel
theorem dX3_set_5 : decode cX3_set 5 = .ok (.iload_n 2, 1) := by decide +kernel
theorem dX3_set_6 : decode cX3_set 6 = .ok (.invokevirtual 54, 3) := by decide +kernel
theorem dX3_set_9 : decode cX3_set 9 = .ok (.ireturn, 1) := by decide +kernel
theorem dX3_look_0 : decode cX3_look 0 = .ok (.iload_n 1, 1) := by decide +kernel
theorem dX3_look_1 : decode cX3_look 1 = .ok (.tableswitch 95 0 4 #[35, 48, 61, 74, 87], 35) := by decide +kernel
theorem dX3_look_36 : decode cX3_look 36 = .ok (.aload_n 0, 1) := by decide +kernel
theorem dX3_look_37 : decode cX3_look 37 = .ok (.getfield 58, 3) := by decide +kernel
theorem dX3_look_40 : decode cX3_look 40 = .ok (.ifCond .eq 7, 3) := by decide +kernel
theorem dX3_look_43 : decode cX3_look 43 = .ok (.iconst 1, 1) := by decide +kernel
theorem dX3_look_44 : decode cX3_look 44 = .ok (.goto 4, 3) := by decide +kernel
theorem dX3_look_47 : decode cX3_look 47 = .ok (.iconst 0, 1) := by decide +kernel
theorem dX3_look_48 : decode cX3_look 48 = .ok (.ireturn, 1) := by decide +kernel
theorem dX3_look_49 : decode cX3_look 49 = .ok (.aload_n 0, 1) := by decide +kernel
theorem dX3_look_50 : decode cX3_look 50 = .ok (.getfield 62, 3) := by decide +kernel
theorem dX3_look_53 : decode cX3_look 53 = .ok (.ifCond .eq 7, 3) := by decide +kernel
theorem dX3_look_56 : decode cX3_look 56 = .ok (.iconst 1, 1) := by decide +kernel
theorem dX3_look_57 : decode cX3_look 57 = .ok (.goto 4, 3) := by decide +kernel
theorem dX3_look_60 : decode cX3_look 60 = .ok (.iconst 0, 1) := by decide +kernel
theorem dX3_look_61 : decode cX3_look 61 = .ok (.ireturn, 1) := by decide +kernel
theorem dX3_look_62 : decode cX3_look 62 = .ok (.aload_n 0, 1) := by decide +kernel
theorem dX3_look_63 : decode cX3_look 63 = .ok (.getfield 65, 3) := by decide +kernel
theorem dX3_look_66 : decode cX3_look 66 = .ok (.ifCond .eq 7, 3) := by decide +kernel
theorem dX3_look_69 : decode cX3_look 69 = .ok (.iconst 1, 1) := by decide +kernel
theorem dX3_look_70 : decode cX3_look 70 = .ok (.goto 4, 3) := by decide +kernel
theorem dX3_look_73 : decode cX3_look 73 = .ok (.iconst 0, 1) := by decide +kernel
theorem dX3_look_74 : decode cX3_look 74 = .ok (.ireturn, 1) := by decide +kernel
theorem dX3_look_75 : decode cX3_look 75 = .ok (.aload_n 0, 1) := by decide +kernel
theorem dX3_look_76 : decode cX3_look 76 = .ok (.getfield 68, 3) := by decide +kernel
theorem dX3_look_79 : decode cX3_look 79 = .ok (.ifCond .eq 7, 3) := by decide +kernel
theorem dX3_look_82 : decode cX3_look 82 = .ok (.iconst 1, 1) := by decide +kernel
theorem dX3_look_83 : decode cX3_look 83 = .ok (.goto 4, 3) := by decide +kernel
theorem dX3_look_86 : decode cX3_look 86 = .ok (.iconst 0, 1) := by decide +kernel
theorem dX3_look_87 : decode cX3_look 87 = .ok (.ireturn, 1) := by decide +kernel
theorem dX3_look_88 : decode cX3_look 88 = .ok (.aload_n 0, 1) := by decide +kernel
theorem dX3_look_89 : decode cX3_look 89 = .ok (.getfield 10, 3) := by decide +kernel
theorem dX3_look_92 : decode cX3_look 92 = .ok (.getfield 71, 3) := by decide +kernel
theorem dX3_look_95 : decode cX3_look 95 = .ok (.ireturn, 1) := by decide +kernel
theorem dX3_look_96 : decode cX3_look 96 = .ok (.iconst (-1), 1) := by decide +kernel
theorem dX3_look_97 : decode cX3_look 97 = .ok (.ireturn, 1) := by decide +kernel
theorem dX3_mcycles_0 : decode cX3_mcycles 0 = .ok (.aload_n 0, 1) := by decide +kernel
theorem dX3_mcycles_1 : decode cX3_mcycles 1 = .ok (.getfield 75, 3) := by decide +kernel
theorem dX3_mcycles_4 : decode cX3_mcycles 4 = .ok (.ireturn, 1) := by decide +kernel
theorem dX3_takeStep_0 : decode cX3_takeStep 0 = .ok (.aload_n 0, 1) := by decide +kernel
theorem dX3_takeStep_1 : decode cX3_takeStep 1 = .ok (.getfield 10, 3) := by decide +kernel
theorem dX3_takeStep_4 : decode cX3_takeStep 4 = .ok (.invokevirtual 78, 3) := by decide +kernel
theorem dX3_takeStep_7 : decode cX3_takeStep 7 = .ok (.istore_n 1, 1) := by decide +kernel
theorem dX3_takeStep_8 : decode cX3_takeStep 8 = .ok (.aload_n 0, 1) := by decide +kernel
theorem dX3_takeStep_9 : decode cX3_takeStep 9 = .ok (.getfield 58, 3) := by decide +kernel
theorem dX3_takeStep_12 : decode cX3_takeStep 12 = .ok (.ifCond .eq 19, 3) := by decide +kernel
theorem dX3_takeStep_15 : decode cX3_takeStep 15 = .ok (.iload_n 1, 1) := by decide +kernel
theorem dX3_takeStep_16 : decode cX3_takeStep 16 = .ok (.ifCond .eq 15, 3) := by decide +kernel
theorem dX3_takeStep_19 : decode cX3_takeStep 19 = .ok (.aload_n 0, 1) := by decide +kernel
theorem dX3_takeStep_20 : decode cX3_takeStep 20 = .ok (.iload_n 1, 1) := by decide +kernel
theorem dX3_takeStep_21 : decode cX3_takeStep 21 = .ok (.invokevirtual 81, 3) := by decide +kernel
theorem dX3_takeStep_24 : decode cX3_takeStep 24 = .ok (.aload_n 0, 1) := by decide +kernel
theorem dX3_takeStep_25 : decode cX3_takeStep 25 = .ok (.iconst 5, 1) := by decide +kernel
theorem dX3_takeStep_26 : decode cX3_takeStep 26 = .ok (.invokevirtual 84, 3) := by decide +kernel
theorem dX3_takeStep_29 : decode cX3_takeStep 29 = .ok (.iconst 0, 1) := by decide +kernel
theorem dX3_takeStep_30 : decode cX3_takeStep 30 = .ok (.ireturn, 1) := by decide +kernel
theorem dX3_takeStep_31 : decode cX3_takeStep 31 = .ok (.aload_n 0, 1) := by decide +kernel
theorem dX3_takeStep_32 : decode cX3_takeStep 32 = .ok (.getfield 65, 3) := by decide +kernel
theorem dX3_takeStep_35 : decode cX3_takeStep 35 = .ok (.ifCond .eq 14, 3) := by decide +kernel
theorem dX3_takeStep_38 : decode cX3_takeStep 38 = .ok (.iload_n 1, 1) := by decide +kernel
theorem dX3_takeStep_39 : decode cX3_takeStep 39 = .ok (.ifCond .ne 10, 3) := by decide +kernel
theorem dX3_takeStep_42 : decode cX3_takeStep 42 = .ok (.aload_n 0, 1) := by decide +kernel
theorem dX3_takeStep_43 : decode cX3_takeStep 43 = .ok (.iconst 1, 1) := by decide +kernel
theorem dX3_takeStep_44 : decode cX3_takeStep 44 = .ok (.invokevirtual 84, 3) := by decide +kernel
theorem dX3_takeStep_47 : decode cX3_takeStep 47 = .ok (.iconst 1, 1) := by decide +kernel
theorem dX3_takeStep_48 : decode cX3_takeStep 48 = .ok (.ireturn, 1) := by decide +kernel
theorem dX3_takeStep_49 : decode cX3_takeStep 49 = .ok (.aload_n 0, 1) := by decide +kernel
theorem dX3_takeStep_50 : decode cX3_takeStep 50 = .ok (.getfield 10, 3) := by decide +kernel
theorem dX3_takeStep_53 : decode cX3_takeStep 53 = .ok (.aload_n 0, 1) := by decide +kernel
theorem dX3_takeStep_54 : decode cX3_takeStep 54 = .ok (.getfield 27, 3) := by decide +kernel
theorem dX3_takeStep_57 : decode cX3_takeStep 57 = .ok (.iconst 5, 1) := by decide +kernel
theorem dX3_takeStep_58 : decode cX3_takeStep 58 = .ok (.invokevirtual 49, 3) := by decide +kernel
theorem dX3_takeStep_61 : decode cX3_takeStep 61 = .ok (.invokevirtual 37, 3) := by decide +kernel
theorem dX3_takeStep_64 : decode cX3_takeStep 64 = .ok (.istore_n 2, 1) := by decide +kernel
theorem dX3_takeStep_65 : decode cX3_takeStep 65 = .ok (.getstatic 87, 3) := by decide +kernel
theorem dX3_takeStep_68 : decode cX3_takeStep 68 = .ok (.iload_n 2, 1) := by decide +kernel
theorem dX3_takeStep_69 : decode cX3_takeStep 69 = .ok (.sipush 255, 3) := by decide +kernel
theorem dX3_takeStep_72 : decode cX3_takeStep 72 = .ok (.iand, 1) := by decide +kernel
theorem dX3_takeStep_73 : decode cX3_takeStep 73 = .ok (.iaload, 1) := by decide +kernel
theorem dX3_takeStep_74 : decode cX3_takeStep 74 = .ok (.istore_n 3, 1) := by decide +kernel
theorem dX3_takeStep_75 : decode cX3_takeStep 75 = .ok (.iload_n 3, 1) := by decide +kernel
theorem dX3_takeStep_76 : decode cX3_takeStep 76 = .ok (.ifCond .ne 5, 3) := by decide +kernel
theorem dX3_takeStep_79 : decode cX3_takeStep 79 = .ok (.iconst 2, 1) := by decide +kernel
theorem dX3_takeStep_80 : decode cX3_takeStep 80 = .ok (.ireturn, 1) := by decide +kernel
theorem dX3_takeStep_81 : decode cX3_takeStep 81 = .ok (.aload_n 0, 1) := by decide +kernel
theorem dX3_takeStep_82 : decode cX3_takeStep 82 = .ok (.iconst 0, 1) := by decide +kernel
theorem dX3_takeStep_83 : decode cX3_takeStep 83 = .ok (.putfield 65, 3) := by decide +kernel
theorem dX3_takeStep_86 : decode cX3_takeStep 86 = .ok (.aload_n 0, 1) := by decide +kernel
theorem dX3_takeStep_87 : decode cX3_takeStep 87 = .ok (.invokevirtual 91, 3) := by decide +kernel
theorem dX3_takeStep_90 : decode cX3_takeStep 90 = .ok (.aload_n 0, 1) := by decide +kernel
theorem dX3_takeStep_91 : decode cX3_takeStep 91 = .ok (.getfield 62, 3) := by decide +kernel
theorem dX3_takeStep_94 : decode cX3_takeStep 94 = .ok (.istore 4, 2) := by decide +kernel
theorem dX3_takeStep_96 : decode cX3_takeStep 96 = .ok (.aload_n 0, 1) := by decide +kernel
theorem dX3_takeStep_97 : decode cX3_takeStep 97 = .ok (.iload_n 2, 1) := by decide +kernel
theorem dX3_takeStep_98 : decode cX3_takeStep 98 = .ok (.invokevirtual 94, 3) := by decide +kernel
theorem dX3_takeStep_101 : decode cX3_takeStep 101 = .ok (.istore 5, 2) := by decide +kernel
theorem dX3_takeStep_103 : decode cX3_takeStep 103 = .ok (.iload 4, 2) := by decide +kernel
theorem dX3_takeStep_105 : decode cX3_takeStep 105 = .ok (.ifCond .eq 20, 3) := by decide +kernel
theorem dX3_takeStep_108 : decode cX3_takeStep 108 = .ok (.iload_n 2, 1) := by decide +kernel
theorem dX3_takeStep_109 : decode cX3_takeStep 109 = .ok (.sipush 243, 3) := by decide +kernel
theorem dX3_takeStep_112 : decode cX3_takeStep 112 = .ok (.if_icmp .eq 13, 3) := by decide +kernel
theorem dX3_takeStep_115 : decode cX3_takeStep 115 = .ok (.aload_n 0, 1) := by decide +kernel
theorem dX3_takeStep_116 : decode cX3_takeStep 116 = .ok (.iconst 1, 1) := by decide +kernel
theorem dX3_takeStep_117 : decode cX3_takeStep 117 = .ok (.putfield 58, 3) := by decide +kernel
theorem dX3_takeStep_120 : decode cX3_takeStep 120 = .ok (.aload_n 0, 1) := by decide +kernel
theorem dX3_takeStep_121 : decode cX3_takeStep 121 = .ok (.iconst 0, 1) := by decide +kernel
theorem dX3_takeStep_122 : decode cX3_takeStep 122 = .ok (.putfield 62, 3) := by decide +kernel
theorem dX3_takeStep_125 : decode cX3_takeStep 125 = .ok (.aload_n 0, 1) := by decide +kernel
theorem dX3_takeStep_126 : decode cX3_takeStep 126 = .ok (.iload_n 3, 1) := by decide +kernel
theorem dX3_takeStep_127 : decode cX3_takeStep 127 = .ok (.iload 5, 2) := by decide +kernel
theorem dX3_takeStep_129 : decode cX3_takeStep 129 = .ok (.iadd, 1) := by decide +kernel
theorem dX3_takeStep_130 : decode cX3_takeStep 130 = .ok (.invokevirtual 84, 3) := by decide +kernel
theorem dX3_takeStep_133 : decode cX3_takeStep 133 = .ok (.iconst 0, 1) := by decide +kernel
theorem dX3_takeStep_134 : decode cX3_takeStep 134 = .ok (.ireturn, 1) := by decide +kernel
theorem dX3_dispatch_0 : decode cX3_dispatch 0 = .ok (.iconst 0, 1) := by decide +kernel
theorem dX3_dispatch_1 : decode cX3_dispatch 1 = .ok (.istore_n 2, 1) := by decide +kernel
theorem dX3_dispatch_2 : decode cX3_dispatch 2 = .ok (.iload_n 2, 1) := by decide +kernel
theorem dX3_dispatch_3 : decode cX3_dispatch 3 = .ok (.iconst 4, 1) := by decide +kernel
theorem dX3_dispatch_4 : decode cX3_dispatch 4 = .ok (.if_icmp .ge 17, 3) := by decide +kernel
theorem dX3_dispatch_7 : decode cX3_dispatch 7 = .ok (.iload_n 1, 1) := by decide +kernel
theorem dX3_dispatch_8 : decode cX3_dispatch 8 = .ok (.iload_n 2, 1) := by decide +kernel
theorem dX3_dispatch_9 : decode cX3_dispatch 9 = .ok (.ishr, 1) := by decide +kernel
theorem dX3_dispatch_10 : decode cX3_dispatch 10 = .ok (.iconst 1, 1) := by decide +kernel
theorem dX3_dispatch_11 : decode cX3_dispatch 11 = .ok (.iand, 1) := by decide +kernel
theorem dX3_dispatch_12 : decode cX3_dispatch 12 = .ok (.ifCond .ne 9, 3) := by decide +kernel
theorem dX3_dispatch_15 : decode cX3_dispatch 15 = .ok (.iinc 2 1, 3) := by decide +kernel
theorem dX3_dispatch_18 : decode cX3_dispatch 18 = .ok (.goto (-16), 3) := by decide +kernel
theorem dX3_dispatch_21 : decode cX3_dispatch 21 = .ok (.aload_n 0, 1) := by decide +kernel
theorem dX3_dispatch_22 : decode cX3_dispatch 22 = .ok (.iconst 0, 1) := by decide +kernel
theorem dX3_dispatch_23 : decode cX3_dispatch 23 = .ok (.putfield 58, 3) := by decide +kernel
theorem dX3_dispatch_26 : decode cX3_dispatch 26 = .ok (.aload_n 0, 1) := by decide +kernel
theorem dX3_dispatch_27 : decode cX3_dispatch 27 = .ok (.iconst 0, 1) := by decide +kernel
theorem dX3_dispatch_28 : decode cX3_dispatch 28 = .ok (.putfield 65, 3) := by decide +kernel
theorem dX3_dispatch_31 : decode cX3_dispatch 31 = .ok (.aload_n 0, 1) := by decide +kernel
theorem dX3_dispatch_32 : decode cX3_dispatch 32 = .ok (.getfield 10, 3) := by decide +kernel
theorem dX3_dispatch_35 : decode cX3_dispatch 35 = .ok (.iload_n 2, 1) := by decide +kernel
theorem dX3_dispatch_36 : decode cX3_dispatch 36 = .ok (.invokevirtual 97, 3) := by decide +kernel
theorem dX3_dispatch_39 : decode cX3_dispatch 39 = .ok (.aload_n 0, 1) := by decide +kernel
theorem dX3_dispatch_40 : decode cX3_dispatch 40 = .ok (.aload_n 0, 1) := by decide +kernel
theorem dX3_dispatch_41 : decode cX3_dispatch 41 = .ok (.getfield 27, 3) := by decide +kernel
theorem dX3_dispatch_44 : decode cX3_dispatch 44 = .ok (.iconst 5, 1) := by decide +kernel
theorem dX3_dispatch_45 : decode cX3_dispatch 45 = .ok (.invokevirtual 49, 3) := by decide +kernel
theorem dX3_dispatch_48 : decode cX3_dispatch 48 = .ok (.invokevirtual 100, 3) := by decide +kernel
theorem dX3_dispatch_51 : decode cX3_dispatch 51 = .ok (.aload_n 0, 1) := by decide +kernel
theorem dX3_dispatch_52 : decode cX3_dispatch 52 = .ok (.getfield 27, 3) := by decide +kernel
theorem dX3_dispatch_55 : decode cX3_dispatch 55 = .ok (.iconst 5, 1) := by decide +kernel
theorem dX3_dispatch_56 : decode cX3_dispatch 56 = .ok (.bipush 64, 2) := by decide +kernel
theorem dX3_dispatch_58 : decode cX3_dispatch 58 = .ok (.bipush 8, 2) := by decide +kernel
theorem dX3_dispatch_60 : decode cX3_dispatch 60 = .ok (.iload_n 2, 1) := by decide +kernel
theorem dX3_dispatch_61 : decode cX3_dispatch 61 = .ok (.imul, 1) := by decide +kernel
theorem dX3_dispatch_62 : decode cX3_dispatch 62 = .ok (.iadd, 1) := by decide +kernel
theorem dX3_dispatch_63 : decode cX3_dispatch 63 = .ok (.invokevirtual 54, 3) := by decide +kernel
theorem dX3_dispatch_66 : decode cX3_dispatch 66 = .ok (.pop, 1) := by decide +kernel
theorem dX3_dispatch_67 : decode cX3_dispatch 67 = .ok (.return_, 1) := by decide +kernel
theorem dX3_pass_0 : decode cX3_pass 0 = .ok (.aload_n 0, 1) := by decide +kernel
theorem dX3_pass_1 : decode cX3_pass 1 = .ok (.aload_n 0, 1) := by decide +kernel
theorem dX3_pass_2 : decode cX3_pass 2 = .ok (.getfield 75, 3) := by decide +kernel
theorem dX3_pass_5 : decode cX3_pass 5 = .ok (.iload_n 1, 1) := by decide +kernel
theorem dX3_pass_6 : decode cX3_pass 6 = .ok (.iadd, 1) := by decide +kernel
theorem dX3_pass_7 : decode cX3_pass 7 = .ok (.ldc 103, 2) := by decide +kernel
theorem dX3_pass_9 : decode cX3_pass 9 = .ok (.iand, 1) := by decide +kernel
theorem dX3_pass_10 : decode cX3_pass 10 = .ok (.putfield 75, 3) := by decide +kernel
theorem dX3_pass_13 : decode cX3_pass 13 = .ok (.iconst 0, 1) := by decide +kernel
theorem dX3_pass_14 : decode cX3_pass 14 = .ok (.istore_n 2, 1) := by decide +kernel
theorem dX3_pass_15 : decode cX3_pass 15 = .ok (.iload_n 2, 1) := by decide +kernel
theorem dX3_pass_16 : decode cX3_pass 16 = .ok (.iload_n 1, 1) := by decide +kernel
theorem dX3_pass_17 : decode cX3_pass 17 = .ok (.if_icmp .ge 16, 3) := by decide +kernel
theorem dX3_pass_20 : decode cX3_pass 20 = .ok (.aload_n 0, 1) := by decide +kernel
theorem dX3_pass_21 : decode cX3_pass 21 = .ok (.getfield 10, 3) := by decide +kernel
theorem dX3_pass_24 : decode cX3_pass 24 = .ok (.invokevirtual 104, 3) := by decide +kernel
theorem dX3_pass_27 : decode cX3_pass 27 = .ok (.iinc 2 1, 3) := by decide +kernel
theorem dX3_pass_30 : decode cX3_pass 30 = .ok (.goto (-15), 3) := by decide +kernel
theorem dX3_pass_33 : decode cX3_pass 33 = .ok (.return_, 1) := by decide +kernel
theorem dX3_leaveOpcode_0 : decode cX3_leaveOpcode 0 = .ok (.aload_n 0, 1) := by decide +kernel
theorem dX3_leaveOpcode_1 : decode cX3_leaveOpcode 1 = .ok (.getfield 68, 3) := by decide +kernel
theorem dX3_leaveOpcode_4 : decode cX3_leaveOpcode 4 = .ok (.ifCond .eq 11, 3) := by decide +kernel
theorem dX3_leaveOpcode_7 : decode cX3_leaveOpcode 7 = .ok (.aload_n 0, 1) := by decide +kernel
theorem dX3_leaveOpcode_8 : decode cX3_leaveOpcode 8 = .ok (.iconst 0, 1) := by decide +kernel
theorem dX3_leaveOpcode_9 : decode cX3_leaveOpcode 9 = .ok (.putfield 68, 3) := by decide +kernel
theorem dX3_leaveOpcode_12 : decode cX3_leaveOpcode 12 = .ok (.goto 22, 3) := by decide +kernel
theorem dX3_leaveOpcode_15 : decode cX3_leaveOpcode 15 = .ok (.aload_n 0, 1) := by decide +kernel
theorem dX3_leaveOpcode_16 : decode cX3_leaveOpcode 16 = .ok (.getfield 27, 3) := by decide +kernel
theorem dX3_leaveOpcode_19 : decode cX3_leaveOpcode 19 = .ok (.iconst 5, 1) := by decide +kernel
theorem dX3_leaveOpcode_20 : decode cX3_leaveOpcode 20 = .ok (.aload_n 0, 1) := by decide +kernel
theorem dX3_leaveOpcode_21 : decode cX3_leaveOpcode 21 = .ok (.getfield 27, 3) := by decide +kernel
theorem dX3_leaveOpcode_24 : decode cX3_leaveOpcode 24 = .ok (.iconst 5, 1) := by decide +kernel
theorem dX3_leaveOpcode_25 : decode cX3_leaveOpcode 25 = .ok (.invokevirtual 49, 3) := by decide +kernel
theorem dX3_leaveOpcode_28 : decode cX3_leaveOpcode 28 = .ok (.iconst 1, 1) := by decide +kernel
theorem dX3_leaveOpcode_29 : decode cX3_leaveOpcode 29 = .ok (.iadd, 1) := by decide +kernel
theorem dX3_leaveOpcode_30 : decode cX3_leaveOpcode 30 = .ok (.invokevirtual 54, 3) := by decide +kernel
theorem dX3_leaveOpcode_33 : decode cX3_leaveOpcode 33 = .ok (.pop, 1) := by decide +kernel
theorem dX3_leaveOpcode_34 : decode cX3_leaveOpcode 34 = .ok (.return_, 1) := by decide +kernel
theorem dX3_execute_0 : decode cX3_execute 0 = .ok (.iload_n 1, 1) := by decide +kernel
theorem dX3_execute_1 : decode cX3_execute 1 = .ok (.iconst 3, 1) := by decide +kernel
theorem dX3_execute_2 : decode cX3_execute 2 = .ok (.ishr, 1) := by decide +kernel
theorem dX3_execute_3 : decode cX3_execute 3 = .ok (.bipush 7, 2) := by decide +kernel
theorem dX3_execute_5 : decode cX3_execute 5 = .ok (.iand, 1) := by decide +kernel
theorem dX3_execute_6 : decode cX3_execute 6 = .ok (.istore_n 2, 1) := by decide +kernel
theorem dX3_execute_7 : decode cX3_execute 7 = .ok (.iload_n 1, 1) := by decide +kernel
theorem dX3_execute_8 : decode cX3_execute 8 = .ok (.bipush 7, 2) := by decide +kernel
theorem dX3_execute_10 : decode cX3_execute 10 = .ok (.iand, 1) := by decide +kernel
theorem dX3_execute_11 : decode cX3_execute 11 = .ok (.istore_n 3, 1) := by decide +kernel
theorem dX3_execute_12 : decode cX3_execute 12 = .ok (.iload_n 1, 1) := by decide +kernel
theorem dX3_execute_13 : decode cX3_execute 13 = .ok (.bipush 118, 2) := by decide +kernel
theorem dX3_execute_15 : decode cX3_execute 15 = .ok (.if_icmp .ne 9, 3) := by decide +kernel
theorem dX3_execute_18 : decode cX3_execute 18 = .ok (.aload_n 0, 1) := by decide +kernel
theorem dX3_execute_19 : decode cX3_execute 19 = .ok (.invokevirtual 107, 3) := by decide +kernel
theorem dX3_execute_22 : decode cX3_execute 22 = .ok (.iconst 0, 1) := by decide +kernel
theorem dX3_execute_23 : decode cX3_execute 23 = .ok (.ireturn, 1) := by decide +kernel
theorem dX3_execute_24 : decode cX3_execute 24 = .ok (.iload_n 1, 1) := by decide +kernel
theorem dX3_execute_25 : decode cX3_execute 25 = .ok (.sipush 203, 3) := by decide +kernel
theorem dX3_execute_28 : decode cX3_execute 28 = .ok (.if_icmp .ne 8, 3) := by decide +kernel
theorem dX3_execute_31 : decode cX3_execute 31 = .ok (.aload_n 0, 1) := by decide +kernel
theorem dX3_execute_32 : decode cX3_execute 32 = .ok (.invokevirtual 110, 3) := by decide +kernel
theorem dX3_execute_35 : decode cX3_execute 35 = .ok (.ireturn, 1) := by decide +kernel
theorem dX3_execute_36 : decode cX3_execute 36 = .ok (.iload_n 1, 1) := by decide +kernel
theorem dX3_execute_37 : decode cX3_execute 37 = .ok (.bipush 6, 2) := by decide +kernel
theorem dX3_execute_39 : decode cX3_execute 39 = .ok (.ishr, 1) := by decide +kernel
theorem dX3_execute_40 : decode cX3_execute 40 = .ok (.tableswitch 62 0 2 #[28, 35, 47], 28) := by decide +kernel
theorem dX3_execute_68 : decode cX3_execute 68 = .ok (.aload_n 0, 1) := by decide +kernel
theorem dX3_execute_69 : decode cX3_execute 69 = .ok (.iload_n 2, 1) := by decide +kernel
theorem dX3_execute_70 : decode cX3_execute 70 = .ok (.iload_n 3, 1) := by decide +kernel
theorem dX3_execute_71 : decode cX3_execute 71 = .ok (.invokevirtual 113, 3) := by decide +kernel
theorem dX3_execute_74 : decode cX3_execute 74 = .ok (.ireturn, 1) := by decide +kernel
theorem dX3_execute_75 : decode cX3_execute 75 = .ok (.aload_n 0, 1) := by decide +kernel
theorem dX3_execute_76 : decode cX3_execute 76 = .ok (.iload_n 2, 1) := by decide +kernel
theorem dX3_execute_77 : decode cX3_execute 77 = .ok (.aload_n 0, 1) := by decide +kernel
theorem dX3_execute_78 : decode cX3_execute 78 = .ok (.iload_n 3, 1) := by decide +kernel
theorem dX3_execute_79 : decode cX3_execute 79 = .ok (.invokevirtual 117, 3) := by decide +kernel
theorem dX3_execute_82 : decode cX3_execute 82 = .ok (.invokevirtual 120, 3) := by decide +kernel
theorem dX3_execute_85 : decode cX3_execute 85 = .ok (.iconst 0, 1) := by decide +kernel
theorem dX3_execute_86 : decode cX3_execute 86 = .ok (.ireturn, 1) := by decide +kernel
theorem dX3_execute_87 : decode cX3_execute 87 = .ok (.aload_n 0, 1) := by decide +kernel
theorem dX3_execute_88 : decode cX3_execute 88 = .ok (.getfield 19, 3) := by decide +kernel
theorem dX3_execute_91 : decode cX3_execute 91 = .ok (.iload_n 2, 1) := by decide +kernel
theorem dX3_execute_92 : decode cX3_execute 92 = .ok (.aload_n 0, 1) := by decide +kernel
theorem dX3_execute_93 : decode cX3_execute 93 = .ok (.iload_n 3, 1) := by decide +kernel
theorem dX3_execute_94 : decode cX3_execute 94 = .ok (.invokevirtual 117, 3) := by decide +kernel
theorem dX3_execute_97 : decode cX3_execute 97 = .ok (.invokevirtual 123, 3) := by decide +kernel
theorem dX3_execute_100 : decode cX3_execute 100 = .ok (.iconst 0, 1) := by decide +kernel
theorem dX3_execute_101 : decode cX3_execute 101 = .ok (.ireturn, 1) := by decide +kernel
theorem dX3_execute_102 : decode cX3_execute 102 = .ok (.aload_n 0, 1) := by decide +kernel
theorem dX3_execute_103 : decode cX3_execute 103 = .ok (.iload_n 2, 1) := by decide +kernel
theorem dX3_execute_104 : decode cX3_execute 104 = .ok (.iload_n 3, 1) := by decide +kernel
theorem dX3_execute_105 : decode cX3_execute 105 = .ok (.invokevirtual 126, 3) := by decide +kernel
theorem dX3_execute_108 : decode cX3_execute 108 = .ok (.ireturn, 1) := by decide +kernel
theorem dX3_executeFirstQuarter_0 : decode cX3_executeFirstQuarter 0 = .ok (.iload_n 2, 1) := by decide +kernel
theorem dX3_executeFirstQuarter_1 : decode cX3_executeFirstQuarter 1 = .ok (.tableswitch 156 0 6 #[43, 86, 93, 100, 107, 126, 145], 43) := by decide +kernel
theorem dX3_executeFirstQuarter_44 : decode cX3_executeFirstQuarter 44 = .ok (.iload_n 1, 1) := by decide +kernel
theorem dX3_executeFirstQuarter_45 : decode cX3_executeFirstQuarter 45 = .ok (.iconst 1, 1) := by decide +kernel
theorem dX3_executeFirstQuarter_46 : decode cX3_executeFirstQuarter 46 = .ok (.if_icmp .ne 7, 3) := by decide +kernel
theorem dX3_executeFirstQuarter_49 : decode cX3_executeFirstQuarter 49 = .ok (.aload_n 0, 1) := by decide +kernel
theorem dX3_executeFirstQuarter_50 : decode cX3_executeFirstQuarter 50 = .ok (.invokevirtual 129, 3) := by decide +kernel
theorem dX3_executeFirstQuarter_53 : decode cX3_executeFirstQuarter 53 = .ok (.iload_n 1, 1) := by decide +kernel
theorem dX3_executeFirstQuarter_54 : decode cX3_executeFirstQuarter 54 = .ok (.iconst 3, 1) := by decide +kernel
theorem dX3_executeFirstQuarter_55 : decode cX3_executeFirstQuarter 55 = .ok (.if_icmp .ge 7, 3) := by decide +kernel
theorem dX3_executeFirstQuarter_58 : decode cX3_executeFirstQuarter 58 = .ok (.iconst 0, 1) := by decide +kernel
theorem dX3_executeFirstQuarter_59 : decode cX3_executeFirstQuarter 59 = .ok (.goto 27, 3) := by decide +kernel
theorem dX3_executeFirstQuarter_62 : decode cX3_executeFirstQuarter 62 = .ok (.aload_n 0, 1) := by decide +kernel
theorem dX3_executeFirstQuarter_63 : decode cX3_executeFirstQuarter 63 = .ok (.iload_n 1, 1) := by decide +kernel
theorem dX3_executeFirstQuarter_64 : decode cX3_executeFirstQuarter 64 = .ok (.iconst 3, 1) := by decide +kernel
theorem dX3_executeFirstQuarter_65 : decode cX3_executeFirstQuarter 65 = .ok (.if_icmp .eq 13, 3) := by decide +kernel
theorem dX3_executeFirstQuarter_68 : decode cX3_executeFirstQuarter 68 = .ok (.aload_n 0, 1) := by decide +kernel
theorem dX3_executeFirstQuarter_69 : decode cX3_executeFirstQuarter 69 = .ok (.iload_n 1, 1) := by decide +kernel
theorem dX3_executeFirstQuarter_70 : decode cX3_executeFirstQuarter 70 = .ok (.iconst 4, 1) := by decide +kernel
theorem dX3_executeFirstQuarter_71 : decode cX3_executeFirstQuarter 71 = .ok (.isub, 1) := by decide +kernel
theorem dX3_executeFirstQuarter_72 : decode cX3_executeFirstQuarter 72 = .ok (.invokevirtual 132, 3) := by decide +kernel
theorem dX3_executeFirstQuarter_75 : decode cX3_executeFirstQuarter 75 = .ok (.ifCond .eq 7, 3) := by decide +kernel
theorem dX3_executeFirstQuarter_78 : decode cX3_executeFirstQuarter 78 = .ok (.iconst 1, 1) := by decide +kernel
theorem dX3_executeFirstQuarter_79 : decode cX3_executeFirstQuarter 79 = .ok (.goto 4, 3) := by decide +kernel
theorem dX3_executeFirstQuarter_82 : decode cX3_executeFirstQuarter 82 = .ok (.iconst 0, 1) := by decide +kernel
theorem dX3_executeFirstQuarter_83 : decode cX3_executeFirstQuarter 83 = .ok (.invokevirtual 136, 3) := by decide +kernel
theorem dX3_executeFirstQuarter_86 : decode cX3_executeFirstQuarter 86 = .ok (.ireturn, 1) := by decide +kernel
theorem dX3_executeFirstQuarter_87 : decode cX3_executeFirstQuarter 87 = .ok (.aload_n 0, 1) := by decide +kernel
theorem dX3_executeFirstQuarter_88 : decode cX3_executeFirstQuarter 88 = .ok (.iload_n 1, 1) := by decide +kernel
theorem dX3_executeFirstQuarter_89 : decode cX3_executeFirstQuarter 89 = .ok (.invokevirtual 140, 3) := by decide +kernel
theorem dX3_executeFirstQuarter_92 : decode cX3_executeFirstQuarter 92 = .ok (.iconst 0, 1) := by decide +kernel
theorem dX3_executeFirstQuarter_93 : decode cX3_executeFirstQuarter 93 = .ok (.ireturn, 1) := by decide +kernel
theorem dX3_executeFirstQuarter_94 : decode cX3_executeFirstQuarter 94 = .ok (.aload_n 0, 1) := by decide +kernel
theorem dX3_executeFirstQuarter_95 : decode cX3_executeFirstQuarter 95 = .ok (.iload_n 1, 1) := by decide +kernel
theorem dX3_executeFirstQuarter_96 : decode cX3_executeFirstQuarter 96 = .ok (.invokevirtual 143, 3) := by decide +kernel
theorem dX3_executeFirstQuarter_99 : decode cX3_executeFirstQuarter 99 = .ok (.iconst 0, 1) := by decide +kernel
theorem dX3_executeFirstQuarter_100 : decode cX3_executeFirstQuarter 100 = .ok (.ireturn, 1) := by decide +kernel
theorem dX3_executeFirstQuarter_101 : decode cX3_executeFirstQuarter 101 = .ok (.aload_n 0, 1) := by decide +kernel
theorem dX3_executeFirstQuarter_102 : decode cX3_executeFirstQuarter 102 = .ok (.iload_n 1, 1) := by decide +kernel
theorem dX3_executeFirstQuarter_103 : decode cX3_executeFirstQuarter 103 = .ok (.invokevirtual 146, 3) := by decide +kernel
theorem dX3_executeFirstQuarter_106 : decode cX3_executeFirstQuarter 106 = .ok (.iconst 0, 1) := by decide +kernel
theorem dX3_executeFirstQuarter_107 : decode cX3_executeFirstQuarter 107 = .ok (.ireturn, 1) := by decide +kernel
theorem dX3_executeFirstQuarter_108 : decode cX3_executeFirstQuarter 108 = .ok (.aload_n 0, 1) := by decide +kernel
theorem dX3_executeFirstQuarter_109 : decode cX3_executeFirstQuarter 109 = .ok (.iload_n 1, 1) := by decide +kernel
theorem dX3_executeFirstQuarter_110 : decode cX3_executeFirstQuarter 110 = .ok (.aload_n 0, 1) := by decide +kernel
theorem dX3_executeFirstQuarter_111 : decode cX3_executeFirstQuarter 111 = .ok (.getfield 19, 3) := by decide +kernel
theorem dX3_executeFirstQuarter_114 : decode cX3_executeFirstQuarter 114 = .ok (.aload_n 0, 1) := by decide +kernel
theorem dX3_executeFirstQuarter_115 : decode cX3_executeFirstQuarter 115 = .ok (.iload_n 1, 1) := by decide +kernel
theorem dX3_executeFirstQuarter_116 : decode cX3_executeFirstQuarter 116 = .ok (.invokevirtual 117, 3) := by decide +kernel
theorem dX3_executeFirstQuarter_119 : decode cX3_executeFirstQuarter 119 = .ok (.invokevirtual 149, 3) := by decide +kernel
theorem dX3_executeFirstQuarter_122 : decode cX3_executeFirstQuarter 122 = .ok (.invokevirtual 120, 3) := by decide +kernel
theorem dX3_executeFirstQuarter_125 : decode cX3_executeFirstQuarter 125 = .ok (.iconst 0, 1) := by decide +kernel
theorem dX3_executeFirstQuarter_126 : decode cX3_executeFirstQuarter 126 = .ok (.ireturn, 1) := by decide +kernel
theorem dX3_executeFirstQuarter_127 : decode cX3_executeFirstQuarter 127 = .ok (.aload_n 0, 1) := by decide +kernel
theorem dX3_executeFirstQuarter_128 : decode cX3_executeFirstQuarter 128 = .ok (.iload_n 1, 1) := by decide +kernel
theorem dX3_executeFirstQuarter_129 : decode cX3_executeFirstQuarter 129 = .ok (.aload_n 0, 1) := by decide +kernel
theorem dX3_executeFirstQuarter_130 : decode cX3_executeFirstQuarter 130 = .ok (.getfield 19, 3) := by decide +kernel
theorem dX3_executeFirstQuarter_133 : decode cX3_executeFirstQuarter 133 = .ok (.aload_n 0, 1) := by decide +kernel
theorem dX3_executeFirstQuarter_134 : decode cX3_executeFirstQuarter 134 = .ok (.iload_n 1, 1) := by decide +kernel
theorem dX3_executeFirstQuarter_135 : decode cX3_executeFirstQuarter 135 = .ok (.invokevirtual 117, 3) := by decide +kernel
theorem dX3_executeFirstQuarter_138 : decode cX3_executeFirstQuarter 138 = .ok (.invokevirtual 152, 3) := by decide +kernel
theorem dX3_executeFirstQuarter_141 : decode cX3_executeFirstQuarter 141 = .ok (.invokevirtual 120, 3) := by decide +kernel
theorem dX3_executeFirstQuarter_144 : decode cX3_executeFirstQuarter 144 = .ok (.iconst 0, 1) := by decide +kernel
theorem dX3_executeFirstQuarter_145 : decode cX3_executeFirstQuarter 145 = .ok (.ireturn, 1) := by decide +kernel
theorem dX3_executeFirstQuarter_146 : decode cX3_executeFirstQuarter 146 = .ok (.aload_n 0, 1) := by decide +kernel
theorem dX3_executeFirstQuarter_147 : decode cX3_executeFirstQuarter 147 = .ok (.iload_n 1, 1) := by decide +kernel
theorem dX3_executeFirstQuarter_148 : decode cX3_executeFirstQuarter 148 = .ok (.aload_n 0, 1) := by decide +kernel
theorem dX3_executeFirstQuarter_149 : decode cX3_executeFirstQuarter 149 = .ok (.invokevirtual 155, 3) := by decide +kernel
theorem dX3_executeFirstQuarter_152 : decode cX3_executeFirstQuarter 152 = .ok (.invokevirtual 120, 3) := by decide +kernel
theorem dX3_executeFirstQuarter_155 : decode cX3_executeFirstQuarter 155 = .ok (.iconst 0, 1) := by decide +kernel
theorem dX3_executeFirstQuarter_156 : decode cX3_executeFirstQuarter 156 = .ok (.ireturn, 1) := by decide +kernel
theorem dX3_executeFirstQuarter_157 : decode cX3_executeFirstQuarter 157 = .ok (.aload_n 0, 1) := by decide +kernel
theorem dX3_executeFirstQuarter_158 : decode cX3_executeFirstQuarter 158 = .ok (.getfield 19, 3) := by decide +kernel
theorem dX3_executeFirstQuarter_161 : decode cX3_executeFirstQuarter 161 = .ok (.iload_n 1, 1) := by decide +kernel
theorem dX3_executeFirstQuarter_162 : decode cX3_executeFirstQuarter 162 = .ok (.invokevirtual 158, 3) := by decide +kernel
theorem dX3_executeFirstQuarter_165 : decode cX3_executeFirstQuarter 165 = .ok (.iconst 0, 1) := by decide +kernel
theorem dX3_executeFirstQuarter_166 : decode cX3_executeFirstQuarter 166 = .ok (.ireturn, 1) := by decide +kernel
theorem dX3_executeLastQuarter_0 : decode cX3_executeLastQuarter 0 = .ok (.iload_n 2, 1) := by decide +kernel
theorem dX3_executeLastQuarter_1 : decode cX3_executeLastQuarter 1 = .ok (.tableswitch 167 0 6 #[43, 66, 73, 96, 124, 134, 153], 43) := by decide +kernel
theorem dX3_executeLastQuarter_44 : decode cX3_executeLastQuarter 44 = .ok (.iload_n 1, 1) := by decide +kernel
theorem dX3_executeLastQuarter_45 : decode cX3_executeLastQuarter 45 = .ok (.iconst 4, 1) := by decide +kernel
theorem dX3_executeLastQuarter_46 : decode cX3_executeLastQuarter 46 = .ok (.if_icmp .ge 15, 3) := by decide +kernel
theorem dX3_executeLastQuarter_49 : decode cX3_executeLastQuarter 49 = .ok (.aload_n 0, 1) := by decide +kernel
theorem dX3_executeLastQuarter_50 : decode cX3_executeLastQuarter 50 = .ok (.aload_n 0, 1) := by decide +kernel
theorem dX3_executeLastQuarter_51 : decode cX3_executeLastQuarter 51 = .ok (.iload_n 1, 1) := by decide +kernel
theorem dX3_executeLastQuarter_52 : decode cX3_executeLastQuarter 52 = .ok (.invokevirtual 132, 3) := by decide +kernel
theorem dX3_executeLastQuarter_55 : decode cX3_executeLastQuarter 55 = .ok (.invokevirtual 161, 3) := by decide +kernel
theorem dX3_executeLastQuarter_58 : decode cX3_executeLastQuarter 58 = .ok (.goto 8, 3) := by decide +kernel
theorem dX3_executeLastQuarter_61 : decode cX3_executeLastQuarter 61 = .ok (.aload_n 0, 1) := by decide +kernel
theorem dX3_executeLastQuarter_62 : decode cX3_executeLastQuarter 62 = .ok (.iload_n 1, 1) := by decide +kernel
theorem dX3_executeLastQuarter_63 : decode cX3_executeLastQuarter 63 = .ok (.invokevirtual 164, 3) := by decide +kernel
theorem dX3_executeLastQuarter_66 : decode cX3_executeLastQuarter 66 = .ok (.ireturn, 1) := by decide +kernel
theorem dX3_executeLastQuarter_67 : decode cX3_executeLastQuarter 67 = .ok (.aload_n 0, 1) := by decide +kernel
theorem dX3_executeLastQuarter_68 : decode cX3_executeLastQuarter 68 = .ok (.iload_n 1, 1) := by decide +kernel
theorem dX3_executeLastQuarter_69 : decode cX3_executeLastQuarter 69 = .ok (.invokevirtual 167, 3) := by decide +kernel
theorem dX3_executeLastQuarter_72 : decode cX3_executeLastQuarter 72 = .ok (.iconst 0, 1) := by decide +kernel
theorem dX3_executeLastQuarter_73 : decode cX3_executeLastQuarter 73 = .ok (.ireturn, 1) := by decide +kernel
theorem dX3_executeLastQuarter_74 : decode cX3_executeLastQuarter 74 = .ok (.iload_n 1, 1) := by decide +kernel
theorem dX3_executeLastQuarter_75 : decode cX3_executeLastQuarter 75 = .ok (.iconst 4, 1) := by decide +kernel
theorem dX3_executeLastQuarter_76 : decode cX3_executeLastQuarter 76 = .ok (.if_icmp .ge 15, 3) := by decide +kernel
theorem dX3_executeLastQuarter_79 : decode cX3_executeLastQuarter 79 = .ok (.aload_n 0, 1) := by decide +kernel
theorem dX3_executeLastQuarter_80 : decode cX3_executeLastQuarter 80 = .ok (.aload_n 0, 1) := by decide +kernel
theorem dX3_executeLastQuarter_81 : decode cX3_executeLastQuarter 81 = .ok (.iload_n 1, 1) := by decide +kernel
theorem dX3_executeLastQuarter_82 : decode cX3_executeLastQuarter 82 = .ok (.invokevirtual 132, 3) := by decide +kernel
theorem dX3_executeLastQuarter_85 : decode cX3_executeLastQuarter 85 = .ok (.invokevirtual 170, 3) := by decide +kernel
theorem dX3_executeLastQuarter_88 : decode cX3_executeLastQuarter 88 = .ok (.goto 8, 3) := by decide +kernel
theorem dX3_executeLastQuarter_91 : decode cX3_executeLastQuarter 91 = .ok (.aload_n 0, 1) := by decide +kernel
theorem dX3_executeLastQuarter_92 : decode cX3_executeLastQuarter 92 = .ok (.iload_n 1, 1) := by decide +kernel
theorem dX3_executeLastQuarter_93 : decode cX3_executeLastQuarter 93 = .ok (.invokevirtual 173, 3) := by decide +kernel
theorem dX3_executeLastQuarter_96 : decode cX3_executeLastQuarter 96 = .ok (.ireturn, 1) := by decide +kernel
theorem dX3_executeLastQuarter_97 : decode cX3_executeLastQuarter 97 = .ok (.iload_n 1, 1) := by decide +kernel
theorem dX3_executeLastQuarter_98 : decode cX3_executeLastQuarter 98 = .ok (.ifCond .ne 11, 3) := by decide +kernel
theorem dX3_executeLastQuarter_101 : decode cX3_executeLastQuarter 101 = .ok (.aload_n 0, 1) := by decide +kernel
theorem dX3_executeLastQuarter_102 : decode cX3_executeLastQuarter 102 = .ok (.iconst 1, 1) := by decide +kernel
theorem dX3_executeLastQuarter_103 : decode cX3_executeLastQuarter 103 = .ok (.invokevirtual 170, 3) := by decide +kernel
theorem dX3_executeLastQuarter_106 : decode cX3_executeLastQuarter 106 = .ok (.goto 18, 3) := by decide +kernel
theorem dX3_executeLastQuarter_109 : decode cX3_executeLastQuarter 109 = .ok (.aload_n 0, 1) := by decide +kernel
theorem dX3_executeLastQuarter_110 : decode cX3_executeLastQuarter 110 = .ok (.iload_n 1, 1) := by decide +kernel
theorem dX3_executeLastQuarter_111 : decode cX3_executeLastQuarter 111 = .ok (.bipush 7, 2) := by decide +kernel
theorem dX3_executeLastQuarter_113 : decode cX3_executeLastQuarter 113 = .ok (.if_icmp .ne 7, 3) := by decide +kernel
theorem dX3_executeLastQuarter_116 : decode cX3_executeLastQuarter 116 = .ok (.iconst 1, 1) := by decide +kernel
theorem dX3_executeLastQuarter_117 : decode cX3_executeLastQuarter 117 = .ok (.goto 4, 3) := by decide +kernel
theorem dX3_executeLastQuarter_120 : decode cX3_executeLastQuarter 120 = .ok (.iconst 0, 1) := by decide +kernel
theorem dX3_executeLastQuarter_121 : decode cX3_executeLastQuarter 121 = .ok (.invokevirtual 176, 3) := by decide +kernel
theorem dX3_executeLastQuarter_124 : decode cX3_executeLastQuarter 124 = .ok (.ireturn, 1) := by decide +kernel
theorem dX3_executeLastQuarter_125 : decode cX3_executeLastQuarter 125 = .ok (.aload_n 0, 1) := by decide +kernel
theorem dX3_executeLastQuarter_126 : decode cX3_executeLastQuarter 126 = .ok (.aload_n 0, 1) := by decide +kernel
theorem dX3_executeLastQuarter_127 : decode cX3_executeLastQuarter 127 = .ok (.iload_n 1, 1) := by decide +kernel
theorem dX3_executeLastQuarter_128 : decode cX3_executeLastQuarter 128 = .ok (.invokevirtual 132, 3) := by decide +kernel
theorem dX3_executeLastQuarter_131 : decode cX3_executeLastQuarter 131 = .ok (.invokevirtual 179, 3) := by decide +kernel
theorem dX3_executeLastQuarter_134 : decode cX3_executeLastQuarter 134 = .ok (.ireturn, 1) := by decide +kernel
theorem dX3_executeLastQuarter_135 : decode cX3_executeLastQuarter 135 = .ok (.iload_n 1, 1) := by decide +kernel
theorem dX3_executeLastQuarter_136 : decode cX3_executeLastQuarter 136 = .ok (.iconst 1, 1) := by decide +kernel
theorem dX3_executeLastQuarter_137 : decode cX3_executeLastQuarter 137 = .ok (.if_icmp .ne 11, 3) := by decide +kernel
theorem dX3_executeLastQuarter_140 : decode cX3_executeLastQuarter 140 = .ok (.aload_n 0, 1) := by decide +kernel
theorem dX3_executeLastQuarter_141 : decode cX3_executeLastQuarter 141 = .ok (.iconst 1, 1) := by decide +kernel
theorem dX3_executeLastQuarter_142 : decode cX3_executeLastQuarter 142 = .ok (.invokevirtual 179, 3) := by decide +kernel
theorem dX3_executeLastQuarter_145 : decode cX3_executeLastQuarter 145 = .ok (.goto 8, 3) := by decide +kernel
theorem dX3_executeLastQuarter_148 : decode cX3_executeLastQuarter 148 = .ok (.aload_n 0, 1) := by decide +kernel
theorem dX3_executeLastQuarter_149 : decode cX3_executeLastQuarter 149 = .ok (.iload_n 1, 1) := by decide +kernel
theorem dX3_executeLastQuarter_150 : decode cX3_executeLastQuarter 150 = .ok (.invokevirtual 182, 3) := by decide +kernel
theorem dX3_executeLastQuarter_153 : decode cX3_executeLastQuarter 153 = .ok (.ireturn, 1) := by decide +kernel
theorem dX3_executeLastQuarter_154 : decode cX3_executeLastQuarter 154 = .ok (.aload_n 0, 1) := by decide +kernel
theorem dX3_executeLastQuarter_155 : decode cX3_executeLastQuarter 155 = .ok (.getfield 19, 3) := by decide +kernel
theorem dX3_executeLastQuarter_158 : decode cX3_executeLastQuarter 158 = .ok (.iload_n 1, 1) := by decide +kernel
theorem dX3_executeLastQuarter_159 : decode cX3_executeLastQuarter 159 = .ok (.aload_n 0, 1) := by decide +kernel
theorem dX3_executeLastQuarter_160 : decode cX3_executeLastQuarter 160 = .ok (.invokevirtual 155, 3) := by decide +kernel
theorem dX3_executeLastQuarter_163 : decode cX3_executeLastQuarter 163 = .ok (.invokevirtual 123, 3) := by decide +kernel
theorem dX3_executeLastQuarter_166 : decode cX3_executeLastQuarter 166 = .ok (.iconst 0, 1) := by decide +kernel
theorem dX3_executeLastQuarter_167 : decode cX3_executeLastQuarter 167 = .ok (.ireturn, 1) := by decide +kernel
theorem dX3_executeLastQuarter_168 : decode cX3_executeLastQuarter 168 = .ok (.aload_n 0, 1) := by decide +kernel
theorem dX3_executeLastQuarter_169 : decode cX3_executeLastQuarter 169 = .ok (.aload_n 0, 1) := by decide +kernel
theorem dX3_executeLastQuarter_170 : decode cX3_executeLastQuarter 170 = .ok (.getfield 27, 3) := by decide +kernel
theorem dX3_executeLastQuarter_173 : decode cX3_executeLastQuarter 173 = .ok (.iconst 5, 1) := by decide +kernel
theorem dX3_executeLastQuarter_174 : decode cX3_executeLastQuarter 174 = .ok (.invokevirtual 49, 3) := by decide +kernel
theorem dX3_executeLastQuarter_177 : decode cX3_executeLastQuarter 177 = .ok (.invokevirtual 100, 3) := by decide +kernel
theorem dX3_executeLastQuarter_180 : decode cX3_executeLastQuarter 180 = .ok (.aload_n 0, 1) := by decide +kernel
theorem dX3_executeLastQuarter_181 : decode cX3_executeLastQuarter 181 = .ok (.getfield 27, 3) := by decide +kernel
theorem dX3_executeLastQuarter_184 : decode cX3_executeLastQuarter 184 = .ok (.iconst 5, 1) := by decide +kernel
theorem dX3_executeLastQuarter_185 : decode cX3_executeLastQuarter 185 = .ok (.bipush 8, 2) := by decide +kernel
theorem dX3_executeLastQuarter_187 : decode cX3_executeLastQuarter 187 = .ok (.iload_n 1, 1) := by decide +kernel
theorem dX3_executeLastQuarter_188 : decode cX3_executeLastQuarter 188 = .ok (.imul, 1) := by decide +kernel
theorem dX3_executeLastQuarter_189 : decode cX3_executeLastQuarter 189 = .ok (.invokevirtual 54, 3) := by decide +kernel
theorem dX3_executeLastQuarter_192 : decode cX3_executeLastQuarter 192 = .ok (.pop, 1) := by decide +kernel
theorem dX3_executeLastQuarter_193 : decode cX3_executeLastQuarter 193 = .ok (.iconst 0, 1) := by decide +kernel
theorem dX3_executeLastQuarter_194 : decode cX3_executeLastQuarter 194 = .ok (.ireturn, 1) := by decide +kernel
theorem dX3_storeSp_0 : decode cX3_storeSp 0 = .ok (.aload_n 0, 1) := by decide +kernel
theorem dX3_storeSp_1 : decode cX3_storeSp 1 = .ok (.invokevirtual 185, 3) := by decide +kernel
theorem dX3_storeSp_4 : decode cX3_storeSp 4 = .ok (.istore_n 1, 1) := by decide +kernel
theorem dX3_storeSp_5 : decode cX3_storeSp 5 = .ok (.aload_n 0, 1) := by decide +kernel
theorem dX3_storeSp_6 : decode cX3_storeSp 6 = .ok (.getfield 27, 3) := by decide +kernel
theorem dX3_storeSp_9 : decode cX3_storeSp 9 = .ok (.iconst 4, 1) := by decide +kernel
theorem dX3_storeSp_10 : decode cX3_storeSp 10 = .ok (.invokevirtual 49, 3) := by decide +kernel
theorem dX3_storeSp_13 : decode cX3_storeSp 13 = .ok (.istore_n 2, 1) := by decide +kernel
theorem dX3_storeSp_14 : decode cX3_storeSp 14 = .ok (.aload_n 0, 1) := by decide +kernel
theorem dX3_storeSp_15 : decode cX3_storeSp 15 = .ok (.getfield 10, 3) := by decide +kernel
theorem dX3_storeSp_18 : decode cX3_storeSp 18 = .ok (.iload_n 1, 1) := by decide +kernel
theorem dX3_storeSp_19 : decode cX3_storeSp 19 = .ok (.iload_n 2, 1) := by decide +kernel
theorem dX3_storeSp_20 : decode cX3_storeSp 20 = .ok (.invokevirtual 188, 3) := by decide +kernel
theorem dX3_storeSp_23 : decode cX3_storeSp 23 = .ok (.aload_n 0, 1) := by decide +kernel
theorem dX3_storeSp_24 : decode cX3_storeSp 24 = .ok (.getfield 10, 3) := by decide +kernel
theorem dX3_storeSp_27 : decode cX3_storeSp 27 = .ok (.iload_n 1, 1) := by decide +kernel
theorem dX3_storeSp_28 : decode cX3_storeSp 28 = .ok (.iconst 1, 1) := by decide +kernel
theorem dX3_storeSp_29 : decode cX3_storeSp 29 = .ok (.iadd, 1) := by decide +kernel
theorem dX3_storeSp_30 : decode cX3_storeSp 30 = .ok (.iload_n 2, 1) := by decide +kernel
theorem dX3_storeSp_31 : decode cX3_storeSp 31 = .ok (.bipush 8, 2) := by decide +kernel
theorem dX3_storeSp_33 : decode cX3_storeSp 33 = .ok (.ishr, 1) := by decide +kernel
theorem dX3_storeSp_34 : decode cX3_storeSp 34 = .ok (.invokevirtual 188, 3) := by decide +kernel
theorem dX3_storeSp_37 : decode cX3_storeSp 37 = .ok (.return_, 1) := by decide +kernel
theorem dX3_loadOrAddWord_0 : decode cX3_loadOrAddWord 0 = .ok (.iconst 1, 1) := by decide +kernel
theorem dX3_loadOrAddWord_1 : decode cX3_loadOrAddWord 1 = .ok (.iload_n 1, 1) := by decide +kernel
theorem dX3_loadOrAddWord_2 : decode cX3_loadOrAddWord 2 = .ok (.iconst 1, 1) := by decide +kernel
theorem dX3_loadOrAddWord_3 : decode cX3_loadOrAddWord 3 = .ok (.ishr, 1) := by decide +kernel
theorem dX3_loadOrAddWord_4 : decode cX3_loadOrAddWord 4 = .ok (.iadd, 1) := by decide +kernel
theorem dX3_loadOrAddWord_5 : decode cX3_loadOrAddWord 5 = .ok (.istore_n 2, 1) := by decide +kernel
theorem dX3_loadOrAddWord_6 : decode cX3_loadOrAddWord 6 = .ok (.iload_n 1, 1) := by decide +kernel
theorem dX3_loadOrAddWord_7 : decode cX3_loadOrAddWord 7 = .ok (.iconst 1, 1) := by decide +kernel
theorem dX3_loadOrAddWord_8 : decode cX3_loadOrAddWord 8 = .ok (.iand, 1) := by decide +kernel
theorem dX3_loadOrAddWord_9 : decode cX3_loadOrAddWord 9 = .ok (.ifCond .ne 19, 3) := by decide +kernel
theorem dX3_loadOrAddWord_12 : decode cX3_loadOrAddWord 12 = .ok (.aload_n 0, 1) := by decide +kernel
theorem dX3_loadOrAddWord_13 : decode cX3_loadOrAddWord 13 = .ok (.getfield 27, 3) := by decide +kernel
theorem dX3_loadOrAddWord_16 : decode cX3_loadOrAddWord 16 = .ok (.iload_n 2, 1) := by decide +kernel
theorem dX3_loadOrAddWord_17 : decode cX3_loadOrAddWord 17 = .ok (.aload_n 0, 1) := by decide +kernel
theorem dX3_loadOrAddWord_18 : decode cX3_loadOrAddWord 18 = .ok (.invokevirtual 185, 3) := by decide +kernel
theorem dX3_loadOrAddWord_21 : decode cX3_loadOrAddWord 21 = .ok (.invokevirtual 54, 3) := by decide +kernel
theorem dX3_loadOrAddWord_24 : decode cX3_loadOrAddWord 24 = .ok (.pop, 1) := by decide +kernel
theorem dX3_loadOrAddWord_25 : decode cX3_loadOrAddWord 25 = .ok (.goto 18, 3) := by decide +kernel
theorem dX3_loadOrAddWord_28 : decode cX3_loadOrAddWord 28 = .ok (.aload_n 0, 1) := by decide +kernel
theorem dX3_loadOrAddWord_29 : decode cX3_loadOrAddWord 29 = .ok (.getfield 19, 3) := by decide +kernel
theorem dX3_loadOrAddWord_32 : decode cX3_loadOrAddWord 32 = .ok (.aload_n 0, 1) := by decide +kernel
theorem dX3_loadOrAddWord_33 : decode cX3_loadOrAddWord 33 = .ok (.getfield 27, 3) := by decide +kernel
theorem dX3_loadOrAddWord_36 : decode cX3_loadOrAddWord 36 = .ok (.iload_n 2, 1) := by decide +kernel
theorem dX3_loadOrAddWord_37 : decode cX3_loadOrAddWord 37 = .ok (.invokevirtual 49, 3) := by decide +kernel
theorem dX3_loadOrAddWord_40 : decode cX3_loadOrAddWord 40 = .ok (.invokevirtual 191, 3) := by decide +kernel
theorem dX3_loadOrAddWord_43 : decode cX3_loadOrAddWord 43 = .ok (.return_, 1) := by decide +kernel
theorem dX3_loadByPair_0 : decode cX3_loadByPair 0 = .ok (.iconst 1, 1) := by decide +kernel
theorem dX3_loadByPair_1 : decode cX3_loadByPair 1 = .ok (.iload_n 1, 1) := by decide +kernel
theorem dX3_loadByPair_2 : decode cX3_loadByPair 2 = .ok (.iconst 1, 1) := by decide +kernel
theorem dX3_loadByPair_3 : decode cX3_loadByPair 3 = .ok (.ishr, 1) := by decide +kernel
theorem dX3_loadByPair_4 : decode cX3_loadByPair 4 = .ok (.iadd, 1) := by decide +kernel
theorem dX3_loadByPair_5 : decode cX3_loadByPair 5 = .ok (.iconst 3, 1) := by decide +kernel
theorem dX3_loadByPair_6 : decode cX3_loadByPair 6 = .ok (.invokestatic 194, 3) := by decide +kernel
theorem dX3_loadByPair_9 : decode cX3_loadByPair 9 = .ok (.istore_n 2, 1) := by decide +kernel
theorem dX3_loadByPair_10 : decode cX3_loadByPair 10 = .ok (.aload_n 0, 1) := by decide +kernel
theorem dX3_loadByPair_11 : decode cX3_loadByPair 11 = .ok (.getfield 27, 3) := by decide +kernel
theorem dX3_loadByPair_14 : decode cX3_loadByPair 14 = .ok (.iload_n 2, 1) := by decide +kernel
theorem dX3_loadByPair_15 : decode cX3_loadByPair 15 = .ok (.invokevirtual 49, 3) := by decide +kernel
theorem dX3_loadByPair_18 : decode cX3_loadByPair 18 = .ok (.istore_n 3, 1) := by decide +kernel
theorem dX3_loadByPair_19 : decode cX3_loadByPair 19 = .ok (.iload_n 1, 1) := by decide +kernel
theorem dX3_loadByPair_20 : decode cX3_loadByPair 20 = .ok (.iconst 1, 1) := by decide +kernel
theorem dX3_loadByPair_21 : decode cX3_loadByPair 21 = .ok (.iand, 1) := by decide +kernel
theorem dX3_loadByPair_22 : decode cX3_loadByPair 22 = .ok (.ifCond .ne 21, 3) := by decide +kernel
theorem dX3_loadByPair_25 : decode cX3_loadByPair 25 = .ok (.aload_n 0, 1) := by decide +kernel
theorem dX3_loadByPair_26 : decode cX3_loadByPair 26 = .ok (.getfield 10, 3) := by decide +kernel
theorem dX3_loadByPair_29 : decode cX3_loadByPair 29 = .ok (.iload_n 3, 1) := by decide +kernel
theorem dX3_loadByPair_30 : decode cX3_loadByPair 30 = .ok (.aload_n 0, 1) := by decide +kernel
theorem dX3_loadByPair_31 : decode cX3_loadByPair 31 = .ok (.getfield 27, 3) := by decide +kernel
theorem dX3_loadByPair_34 : decode cX3_loadByPair 34 = .ok (.invokevirtual 199, 3) := by decide +kernel
theorem dX3_loadByPair_37 : decode cX3_loadByPair 37 = .ok (.invokevirtual 188, 3) := by decide +kernel
theorem dX3_loadByPair_40 : decode cX3_loadByPair 40 = .ok (.goto 18, 3) := by decide +kernel
theorem dX3_loadByPair_43 : decode cX3_loadByPair 43 = .ok (.aload_n 0, 1) := by decide +kernel
theorem dX3_loadByPair_44 : decode cX3_loadByPair 44 = .ok (.getfield 27, 3) := by decide +kernel
theorem dX3_loadByPair_47 : decode cX3_loadByPair 47 = .ok (.aload_n 0, 1) := by decide +kernel
theorem dX3_loadByPair_48 : decode cX3_loadByPair 48 = .ok (.getfield 10, 3) := by decide +kernel
theorem dX3_loadByPair_51 : decode cX3_loadByPair 51 = .ok (.iload_n 3, 1) := by decide +kernel
theorem dX3_loadByPair_52 : decode cX3_loadByPair 52 = .ok (.invokevirtual 37, 3) := by decide +kernel
theorem dX3_loadByPair_55 : decode cX3_loadByPair 55 = .ok (.invokevirtual 202, 3) := by decide +kernel
theorem dX3_loadByPair_58 : decode cX3_loadByPair 58 = .ok (.iload_n 1, 1) := by decide +kernel
theorem dX3_loadByPair_59 : decode cX3_loadByPair 59 = .ok (.iconst 4, 1) := by decide +kernel
theorem dX3_loadByPair_60 : decode cX3_loadByPair 60 = .ok (.if_icmp .lt 27, 3) := by decide +kernel
theorem dX3_loadByPair_63 : decode cX3_loadByPair 63 = .ok (.aload_n 0, 1) := by decide +kernel
theorem dX3_loadByPair_64 : decode cX3_loadByPair 64 = .ok (.getfield 27, 3) := by decide +kernel
theorem dX3_loadByPair_67 : decode cX3_loadByPair 67 = .ok (.iconst 3, 1) := by decide +kernel
theorem dX3_loadByPair_68 : decode cX3_loadByPair 68 = .ok (.iload_n 1, 1) := by decide +kernel
theorem dX3_loadByPair_69 : decode cX3_loadByPair 69 = .ok (.bipush 6, 2) := by decide +kernel
theorem dX3_loadByPair_71 : decode cX3_loadByPair 71 = .ok (.if_icmp .ge 9, 3) := by decide +kernel
theorem dX3_loadByPair_74 : decode cX3_loadByPair 74 = .ok (.iload_n 3, 1) := by decide +kernel
theorem dX3_loadByPair_75 : decode cX3_loadByPair 75 = .ok (.iconst 1, 1) := by decide +kernel
theorem dX3_loadByPair_76 : decode cX3_loadByPair 76 = .ok (.iadd, 1) := by decide +kernel
theorem dX3_loadByPair_77 : decode cX3_loadByPair 77 = .ok (.goto 6, 3) := by decide +kernel
theorem dX3_loadByPair_80 : decode cX3_loadByPair 80 = .ok (.iload_n 3, 1) := by decide +kernel
theorem dX3_loadByPair_81 : decode cX3_loadByPair 81 = .ok (.iconst 1, 1) := by decide +kernel
theorem dX3_loadByPair_82 : decode cX3_loadByPair 82 = .ok (.isub, 1) := by decide +kernel
theorem dX3_loadByPair_83 : decode cX3_loadByPair 83 = .ok (.invokevirtual 54, 3) := by decide +kernel
theorem dX3_loadByPair_86 : decode cX3_loadByPair 86 = .ok (.pop, 1) := by decide +kernel
theorem dX3_loadByPair_87 : decode cX3_loadByPair 87 = .ok (.return_, 1) := by decide +kernel
theorem dX3_stepPair_0 : decode cX3_stepPair 0 = .ok (.iconst 1, 1) := by decide +kernel
theorem dX3_stepPair_1 : decode cX3_stepPair 1 = .ok (.iload_n 1, 1) := by decide +kernel
theorem dX3_stepPair_2 : decode cX3_stepPair 2 = .ok (.iconst 1, 1) := by decide +kernel
theorem dX3_stepPair_3 : decode cX3_stepPair 3 = .ok (.ishr, 1) := by decide +kernel
theorem dX3_stepPair_4 : decode cX3_stepPair 4 = .ok (.iadd, 1) := by decide +kernel
theorem dX3_stepPair_5 : decode cX3_stepPair 5 = .ok (.istore_n 2, 1) := by decide +kernel
theorem dX3_stepPair_6 : decode cX3_stepPair 6 = .ok (.iload_n 1, 1) := by decide +kernel
theorem dX3_stepPair_7 : decode cX3_stepPair 7 = .ok (.iconst 1, 1) := by decide +kernel
theorem dX3_stepPair_8 : decode cX3_stepPair 8 = .ok (.iand, 1) := by decide +kernel
theorem dX3_stepPair_9 : decode cX3_stepPair 9 = .ok (.ifCond .ne 7, 3) := by decide +kernel
theorem dX3_stepPair_12 : decode cX3_stepPair 12 = .ok (.iconst 1, 1) := by decide +kernel
theorem dX3_stepPair_13 : decode cX3_stepPair 13 = .ok (.goto 4, 3) := by decide +kernel
theorem dX3_stepPair_16 : decode cX3_stepPair 16 = .ok (.iconst (-1), 1) := by decide +kernel
theorem dX3_stepPair_17 : decode cX3_stepPair 17 = .ok (.istore_n 3, 1) := by decide +kernel
theorem dX3_stepPair_18 : decode cX3_stepPair 18 = .ok (.aload_n 0, 1) := by decide +kernel
theorem dX3_stepPair_19 : decode cX3_stepPair 19 = .ok (.getfield 27, 3) := by decide +kernel
theorem dX3_stepPair_22 : decode cX3_stepPair 22 = .ok (.iload_n 2, 1) := by decide +kernel
theorem dX3_stepPair_23 : decode cX3_stepPair 23 = .ok (.aload_n 0, 1) := by decide +kernel
theorem dX3_stepPair_24 : decode cX3_stepPair 24 = .ok (.getfield 27, 3) := by decide +kernel
theorem dX3_stepPair_27 : decode cX3_stepPair 27 = .ok (.iload_n 2, 1) := by decide +kernel
theorem dX3_stepPair_28 : decode cX3_stepPair 28 = .ok (.invokevirtual 49, 3) := by decide +kernel
theorem dX3_stepPair_31 : decode cX3_stepPair 31 = .ok (.iload_n 3, 1) := by decide +kernel
theorem dX3_stepPair_32 : decode cX3_stepPair 32 = .ok (.iadd, 1) := by decide +kernel
theorem dX3_stepPair_33 : decode cX3_stepPair 33 = .ok (.invokevirtual 54, 3) := by decide +kernel
theorem dX3_stepPair_36 : decode cX3_stepPair 36 = .ok (.pop, 1) := by decide +kernel
theorem dX3_stepPair_37 : decode cX3_stepPair 37 = .ok (.return_, 1) := by decide +kernel
theorem dX3_executeWithByte_0 : decode cX3_executeWithByte 0 = .ok (.aload_n 0, 1) := by decide +kernel
theorem dX3_executeWithByte_1 : decode cX3_executeWithByte 1 = .ok (.invokevirtual 155, 3) := by decide +kernel
theorem dX3_executeWithByte_4 : decode cX3_executeWithByte 4 = .ok (.istore_n 2, 1) := by decide +kernel
theorem dX3_executeWithByte_5 : decode cX3_executeWithByte 5 = .ok (.iload_n 1, 1) := by decide +kernel
theorem dX3_executeWithByte_6 : decode cX3_executeWithByte 6 = .ok (.tableswitch 88 4 6 #[26, 47, 67], 26) := by decide +kernel
theorem dX3_executeWithByte_32 : decode cX3_executeWithByte 32 = .ok (.aload_n 0, 1) := by decide +kernel
theorem dX3_executeWithByte_33 : decode cX3_executeWithByte 33 = .ok (.getfield 10, 3) := by decide +kernel
theorem dX3_executeWithByte_36 : decode cX3_executeWithByte 36 = .ok (.ldc 205, 2) := by decide +kernel
theorem dX3_executeWithByte_38 : decode cX3_executeWithByte 38 = .ok (.iload_n 2, 1) := by decide +kernel
theorem dX3_executeWithByte_39 : decode cX3_executeWithByte 39 = .ok (.iadd, 1) := by decide +kernel
theorem dX3_executeWithByte_40 : decode cX3_executeWithByte 40 = .ok (.aload_n 0, 1) := by decide +kernel
theorem dX3_executeWithByte_41 : decode cX3_executeWithByte 41 = .ok (.getfield 27, 3) := by decide +kernel
theorem dX3_executeWithByte_44 : decode cX3_executeWithByte 44 = .ok (.invokevirtual 199, 3) := by decide +kernel
theorem dX3_executeWithByte_47 : decode cX3_executeWithByte 47 = .ok (.invokevirtual 188, 3) := by decide +kernel
theorem dX3_executeWithByte_50 : decode cX3_executeWithByte 50 = .ok (.goto 61, 3) := by decide +kernel
theorem dX3_executeWithByte_53 : decode cX3_executeWithByte 53 = .ok (.aload_n 0, 1) := by decide +kernel
theorem dX3_executeWithByte_54 : decode cX3_executeWithByte 54 = .ok (.getfield 27, 3) := by decide +kernel
theorem dX3_executeWithByte_57 : decode cX3_executeWithByte 57 = .ok (.iconst 4, 1) := by decide +kernel
theorem dX3_executeWithByte_58 : decode cX3_executeWithByte 58 = .ok (.aload_n 0, 1) := by decide +kernel
theorem dX3_executeWithByte_59 : decode cX3_executeWithByte 59 = .ok (.getfield 19, 3) := by decide +kernel
theorem dX3_executeWithByte_62 : decode cX3_executeWithByte 62 = .ok (.iload_n 2, 1) := by decide +kernel
theorem dX3_executeWithByte_63 : decode cX3_executeWithByte 63 = .ok (.invokevirtual 206, 3) := by decide +kernel
theorem dX3_executeWithByte_66 : decode cX3_executeWithByte 66 = .ok (.invokevirtual 54, 3) := by decide +kernel
theorem dX3_executeWithByte_69 : decode cX3_executeWithByte 69 = .ok (.pop, 1) := by decide +kernel
theorem dX3_executeWithByte_70 : decode cX3_executeWithByte 70 = .ok (.goto 41, 3) := by decide +kernel
theorem dX3_executeWithByte_73 : decode cX3_executeWithByte 73 = .ok (.aload_n 0, 1) := by decide +kernel
theorem dX3_executeWithByte_74 : decode cX3_executeWithByte 74 = .ok (.getfield 27, 3) := by decide +kernel
theorem dX3_executeWithByte_77 : decode cX3_executeWithByte 77 = .ok (.aload_n 0, 1) := by decide +kernel
theorem dX3_executeWithByte_78 : decode cX3_executeWithByte 78 = .ok (.getfield 10, 3) := by decide +kernel
theorem dX3_executeWithByte_81 : decode cX3_executeWithByte 81 = .ok (.ldc 205, 2) := by decide +kernel
theorem dX3_executeWithByte_83 : decode cX3_executeWithByte 83 = .ok (.iload_n 2, 1) := by decide +kernel
theorem dX3_executeWithByte_84 : decode cX3_executeWithByte 84 = .ok (.iadd, 1) := by decide +kernel
theorem dX3_executeWithByte_85 : decode cX3_executeWithByte 85 = .ok (.invokevirtual 37, 3) := by decide +kernel
theorem dX3_executeWithByte_88 : decode cX3_executeWithByte 88 = .ok (.invokevirtual 202, 3) := by decide +kernel
theorem dX3_executeWithByte_91 : decode cX3_executeWithByte 91 = .ok (.goto 20, 3) := by decide +kernel
theorem dX3_executeWithByte_94 : decode cX3_executeWithByte 94 = .ok (.aload_n 0, 1) := by decide +kernel
theorem dX3_executeWithByte_95 : decode cX3_executeWithByte 95 = .ok (.getfield 27, 3) := by decide +kernel
theorem dX3_executeWithByte_98 : decode cX3_executeWithByte 98 = .ok (.iconst 3, 1) := by decide +kernel
theorem dX3_executeWithByte_99 : decode cX3_executeWithByte 99 = .ok (.aload_n 0, 1) := by decide +kernel
theorem dX3_executeWithByte_100 : decode cX3_executeWithByte 100 = .ok (.getfield 19, 3) := by decide +kernel
theorem dX3_executeWithByte_103 : decode cX3_executeWithByte 103 = .ok (.iload_n 2, 1) := by decide +kernel
theorem dX3_executeWithByte_104 : decode cX3_executeWithByte 104 = .ok (.invokevirtual 206, 3) := by decide +kernel
theorem dX3_executeWithByte_107 : decode cX3_executeWithByte 107 = .ok (.invokevirtual 54, 3) := by decide +kernel
theorem dX3_executeWithByte_110 : decode cX3_executeWithByte 110 = .ok (.pop, 1) := by decide +kernel
theorem dX3_executeWithByte_111 : decode cX3_executeWithByte 111 = .ok (.iconst 0, 1) := by decide +kernel
theorem dX3_executeWithByte_112 : decode cX3_executeWithByte 112 = .ok (.ireturn, 1) := by decide +kernel
theorem dX3_popOrMove_0 : decode cX3_popOrMove 0 = .ok (.iload_n 1, 1) := by decide +kernel
theorem dX3_popOrMove_1 : decode cX3_popOrMove 1 = .ok (.tableswitch 120 1 7 #[43, 120, 59, 120, 80, 120, 100], 43) := by decide +kernel
theorem dX3_popOrMove_44 : decode cX3_popOrMove 44 = .ok (.aload_n 0, 1) := by decide +kernel
theorem dX3_popOrMove_45 : decode cX3_popOrMove 45 = .ok (.getfield 27, 3) := by decide +kernel
theorem dX3_popOrMove_48 : decode cX3_popOrMove 48 = .ok (.iconst 5, 1) := by decide +kernel
theorem dX3_popOrMove_49 : decode cX3_popOrMove 49 = .ok (.aload_n 0, 1) := by decide +kernel
theorem dX3_popOrMove_50 : decode cX3_popOrMove 50 = .ok (.invokevirtual 209, 3) := by decide +kernel
theorem dX3_popOrMove_53 : decode cX3_popOrMove 53 = .ok (.invokevirtual 54, 3) := by decide +kernel
theorem dX3_popOrMove_56 : decode cX3_popOrMove 56 = .ok (.pop, 1) := by decide +kernel
theorem dX3_popOrMove_57 : decode cX3_popOrMove 57 = .ok (.goto 80, 3) := by decide +kernel
theorem dX3_popOrMove_60 : decode cX3_popOrMove 60 = .ok (.aload_n 0, 1) := by decide +kernel
theorem dX3_popOrMove_61 : decode cX3_popOrMove 61 = .ok (.getfield 27, 3) := by decide +kernel
theorem dX3_popOrMove_64 : decode cX3_popOrMove 64 = .ok (.iconst 5, 1) := by decide +kernel
theorem dX3_popOrMove_65 : decode cX3_popOrMove 65 = .ok (.aload_n 0, 1) := by decide +kernel
theorem dX3_popOrMove_66 : decode cX3_popOrMove 66 = .ok (.invokevirtual 209, 3) := by decide +kernel
theorem dX3_popOrMove_69 : decode cX3_popOrMove 69 = .ok (.invokevirtual 54, 3) := by decide +kernel
theorem dX3_popOrMove_72 : decode cX3_popOrMove 72 = .ok (.pop, 1) := by decide +kernel
theorem dX3_popOrMove_73 : decode cX3_popOrMove 73 = .ok (.aload_n 0, 1) := by decide +kernel
theorem dX3_popOrMove_74 : decode cX3_popOrMove 74 = .ok (.iconst 1, 1) := by decide +kernel
theorem dX3_popOrMove_75 : decode cX3_popOrMove 75 = .ok (.putfield 58, 3) := by decide +kernel
theorem dX3_popOrMove_78 : decode cX3_popOrMove 78 = .ok (.goto 59, 3) := by decide +kernel
theorem dX3_popOrMove_81 : decode cX3_popOrMove 81 = .ok (.aload_n 0, 1) := by decide +kernel
theorem dX3_popOrMove_82 : decode cX3_popOrMove 82 = .ok (.getfield 27, 3) := by decide +kernel
theorem dX3_popOrMove_85 : decode cX3_popOrMove 85 = .ok (.iconst 5, 1) := by decide +kernel
theorem dX3_popOrMove_86 : decode cX3_popOrMove 86 = .ok (.aload_n 0, 1) := by decide +kernel
theorem dX3_popOrMove_87 : decode cX3_popOrMove 87 = .ok (.getfield 27, 3) := by decide +kernel
theorem dX3_popOrMove_90 : decode cX3_popOrMove 90 = .ok (.iconst 3, 1) := by decide +kernel
theorem dX3_popOrMove_91 : decode cX3_popOrMove 91 = .ok (.invokevirtual 49, 3) := by decide +kernel
theorem dX3_popOrMove_94 : decode cX3_popOrMove 94 = .ok (.invokevirtual 54, 3) := by decide +kernel
theorem dX3_popOrMove_97 : decode cX3_popOrMove 97 = .ok (.pop, 1) := by decide +kernel
theorem dX3_popOrMove_98 : decode cX3_popOrMove 98 = .ok (.goto 39, 3) := by decide +kernel
theorem dX3_popOrMove_101 : decode cX3_popOrMove 101 = .ok (.aload_n 0, 1) := by decide +kernel
theorem dX3_popOrMove_102 : decode cX3_popOrMove 102 = .ok (.getfield 27, 3) := by decide +kernel
theorem dX3_popOrMove_105 : decode cX3_popOrMove 105 = .ok (.iconst 4, 1) := by decide +kernel
theorem dX3_popOrMove_106 : decode cX3_popOrMove 106 = .ok (.aload_n 0, 1) := by decide +kernel
theorem dX3_popOrMove_107 : decode cX3_popOrMove 107 = .ok (.getfield 27, 3) := by decide +kernel
theorem dX3_popOrMove_110 : decode cX3_popOrMove 110 = .ok (.iconst 3, 1) := by decide +kernel
theorem dX3_popOrMove_111 : decode cX3_popOrMove 111 = .ok (.invokevirtual 49, 3) := by decide +kernel
theorem dX3_popOrMove_114 : decode cX3_popOrMove 114 = .ok (.invokevirtual 54, 3) := by decide +kernel
theorem dX3_popOrMove_117 : decode cX3_popOrMove 117 = .ok (.pop, 1) := by decide +kernel
theorem dX3_popOrMove_118 : decode cX3_popOrMove 118 = .ok (.goto 19, 3) := by decide +kernel
theorem dX3_popOrMove_121 : decode cX3_popOrMove 121 = .ok (.aload_n 0, 1) := by decide +kernel
theorem dX3_popOrMove_122 : decode cX3_popOrMove 122 = .ok (.getfield 27, 3) := by decide +kernel
theorem dX3_popOrMove_125 : decode cX3_popOrMove 125 = .ok (.iload_n 1, 1) := by decide +kernel
theorem dX3_popOrMove_126 : decode cX3_popOrMove 126 = .ok (.invokestatic 212, 3) := by decide +kernel
theorem dX3_popOrMove_129 : decode cX3_popOrMove 129 = .ok (.aload_n 0, 1) := by decide +kernel
theorem dX3_popOrMove_130 : decode cX3_popOrMove 130 = .ok (.invokevirtual 209, 3) := by decide +kernel
theorem dX3_popOrMove_133 : decode cX3_popOrMove 133 = .ok (.invokevirtual 54, 3) := by decide +kernel
theorem dX3_popOrMove_136 : decode cX3_popOrMove 136 = .ok (.pop, 1) := by decide +kernel
theorem dX3_popOrMove_137 : decode cX3_popOrMove 137 = .ok (.return_, 1) := by decide +kernel
theorem dX3_loadFar_0 : decode cX3_loadFar 0 = .ok (.iload_n 1, 1) := by decide +kernel
theorem dX3_loadFar_1 : decode cX3_loadFar 1 = .ok (.iconst 1, 1) := by decide +kernel
theorem dX3_loadFar_2 : decode cX3_loadFar 2 = .ok (.iand, 1) := by decide +kernel
theorem dX3_loadFar_3 : decode cX3_loadFar 3 = .ok (.ifCond .ne 17, 3) := by decide +kernel
theorem dX3_loadFar_6 : decode cX3_loadFar 6 = .ok (.ldc 205, 2) := by decide +kernel
theorem dX3_loadFar_8 : decode cX3_loadFar 8 = .ok (.aload_n 0, 1) := by decide +kernel
theorem dX3_loadFar_9 : decode cX3_loadFar 9 = .ok (.getfield 27, 3) := by decide +kernel
theorem dX3_loadFar_12 : decode cX3_loadFar 12 = .ok (.iconst 1, 1) := by decide +kernel
theorem dX3_loadFar_13 : decode cX3_loadFar 13 = .ok (.invokevirtual 215, 3) := by decide +kernel
theorem dX3_loadFar_16 : decode cX3_loadFar 16 = .ok (.iadd, 1) := by decide +kernel
theorem dX3_loadFar_17 : decode cX3_loadFar 17 = .ok (.goto 7, 3) := by decide +kernel
theorem dX3_loadFar_20 : decode cX3_loadFar 20 = .ok (.aload_n 0, 1) := by decide +kernel
theorem dX3_loadFar_21 : decode cX3_loadFar 21 = .ok (.invokevirtual 185, 3) := by decide +kernel
theorem dX3_loadFar_24 : decode cX3_loadFar 24 = .ok (.istore_n 2, 1) := by decide +kernel
theorem dX3_loadFar_25 : decode cX3_loadFar 25 = .ok (.iload_n 1, 1) := by decide +kernel
theorem dX3_loadFar_26 : decode cX3_loadFar 26 = .ok (.bipush 6, 2) := by decide +kernel
theorem dX3_loadFar_28 : decode cX3_loadFar 28 = .ok (.if_icmp .ge 21, 3) := by decide +kernel
theorem dX3_loadFar_31 : decode cX3_loadFar 31 = .ok (.aload_n 0, 1) := by decide +kernel
theorem dX3_loadFar_32 : decode cX3_loadFar 32 = .ok (.getfield 10, 3) := by decide +kernel
theorem dX3_loadFar_35 : decode cX3_loadFar 35 = .ok (.iload_n 2, 1) := by decide +kernel
theorem dX3_loadFar_36 : decode cX3_loadFar 36 = .ok (.aload_n 0, 1) := by decide +kernel
theorem dX3_loadFar_37 : decode cX3_loadFar 37 = .ok (.getfield 27, 3) := by decide +kernel
theorem dX3_loadFar_40 : decode cX3_loadFar 40 = .ok (.invokevirtual 199, 3) := by decide +kernel
theorem dX3_loadFar_43 : decode cX3_loadFar 43 = .ok (.invokevirtual 188, 3) := by decide +kernel
theorem dX3_loadFar_46 : decode cX3_loadFar 46 = .ok (.goto 18, 3) := by decide +kernel
theorem dX3_loadFar_49 : decode cX3_loadFar 49 = .ok (.aload_n 0, 1) := by decide +kernel
theorem dX3_loadFar_50 : decode cX3_loadFar 50 = .ok (.getfield 27, 3) := by decide +kernel
theorem dX3_loadFar_53 : decode cX3_loadFar 53 = .ok (.aload_n 0, 1) := by decide +kernel
theorem dX3_loadFar_54 : decode cX3_loadFar 54 = .ok (.getfield 10, 3) := by decide +kernel
theorem dX3_loadFar_57 : decode cX3_loadFar 57 = .ok (.iload_n 2, 1) := by decide +kernel
theorem dX3_loadFar_58 : decode cX3_loadFar 58 = .ok (.invokevirtual 37, 3) := by decide +kernel
theorem dX3_loadFar_61 : decode cX3_loadFar 61 = .ok (.invokevirtual 202, 3) := by decide +kernel
theorem dX3_loadFar_64 : decode cX3_loadFar 64 = .ok (.iconst 0, 1) := by decide +kernel
theorem dX3_loadFar_65 : decode cX3_loadFar 65 = .ok (.ireturn, 1) := by decide +kernel
theorem dX3_switchInterrupts_0 : decode cX3_switchInterrupts 0 = .ok (.iload_n 1, 1) := by decide +kernel
theorem dX3_switchInterrupts_1 : decode cX3_switchInterrupts 1 = .ok (.ifCond .ne 16, 3) := by decide +kernel
theorem dX3_switchInterrupts_4 : decode cX3_switchInterrupts 4 = .ok (.aload_n 0, 1) := by decide +kernel
theorem dX3_switchInterrupts_5 : decode cX3_switchInterrupts 5 = .ok (.iconst 0, 1) := by decide +kernel
theorem dX3_switchInterrupts_6 : decode cX3_switchInterrupts 6 = .ok (.putfield 58, 3) := by decide +kernel
theorem dX3_switchInterrupts_9 : decode cX3_switchInterrupts 9 = .ok (.aload_n 0, 1) := by decide +kernel
theorem dX3_switchInterrupts_10 : decode cX3_switchInterrupts 10 = .ok (.iconst 0, 1) := by decide +kernel
theorem dX3_switchInterrupts_11 : decode cX3_switchInterrupts 11 = .ok (.putfield 62, 3) := by decide +kernel
theorem dX3_switchInterrupts_14 : decode cX3_switchInterrupts 14 = .ok (.goto 15, 3) := by decide +kernel
theorem dX3_switchInterrupts_17 : decode cX3_switchInterrupts 17 = .ok (.aload_n 0, 1) := by decide +kernel
theorem dX3_switchInterrupts_18 : decode cX3_switchInterrupts 18 = .ok (.getfield 58, 3) := by decide +kernel
theorem dX3_switchInterrupts_21 : decode cX3_switchInterrupts 21 = .ok (.ifCond .ne 8, 3) := by decide +kernel
theorem dX3_switchInterrupts_24 : decode cX3_switchInterrupts 24 = .ok (.aload_n 0, 1) := by decide +kernel
theorem dX3_switchInterrupts_25 : decode cX3_switchInterrupts 25 = .ok (.iconst 1, 1) := by decide +kernel
theorem dX3_switchInterrupts_26 : decode cX3_switchInterrupts 26 = .ok (.putfield 62, 3) := by decide +kernel
theorem dX3_switchInterrupts_29 : decode cX3_switchInterrupts 29 = .ok (.iconst 0, 1) := by decide +kernel
theorem dX3_switchInterrupts_30 : decode cX3_switchInterrupts 30 = .ok (.ireturn, 1) := by decide +kernel
theorem dX3_pushPair_0 : decode cX3_pushPair 0 = .ok (.aload_n 0, 1) := by decide +kernel
theorem dX3_pushPair_1 : decode cX3_pushPair 1 = .ok (.aload_n 0, 1) := by decide +kernel
theorem dX3_pushPair_2 : decode cX3_pushPair 2 = .ok (.getfield 27, 3) := by decide +kernel
theorem dX3_pushPair_5 : decode cX3_pushPair 5 = .ok (.iload_n 1, 1) := by decide +kernel
theorem dX3_pushPair_6 : decode cX3_pushPair 6 = .ok (.invokestatic 212, 3) := by decide +kernel
theorem dX3_pushPair_9 : decode cX3_pushPair 9 = .ok (.invokevirtual 49, 3) := by decide +kernel
theorem dX3_pushPair_12 : decode cX3_pushPair 12 = .ok (.invokevirtual 100, 3) := by decide +kernel
theorem dX3_pushPair_15 : decode cX3_pushPair 15 = .ok (.iconst 0, 1) := by decide +kernel
theorem dX3_pushPair_16 : decode cX3_pushPair 16 = .ok (.ireturn, 1) := by decide +kernel
theorem dX3_executeBitPage_0 : decode cX3_executeBitPage 0 = .ok (.aload_n 0, 1) := by decide +kernel
theorem dX3_executeBitPage_1 : decode cX3_executeBitPage 1 = .ok (.invokevirtual 155, 3) := by decide +kernel
theorem dX3_executeBitPage_4 : decode cX3_executeBitPage 4 = .ok (.istore_n 1, 1) := by decide +kernel
theorem dX3_executeBitPage_5 : decode cX3_executeBitPage 5 = .ok (.iload_n 1, 1) := by decide +kernel
theorem dX3_executeBitPage_6 : decode cX3_executeBitPage 6 = .ok (.iconst 3, 1) := by decide +kernel
theorem dX3_executeBitPage_7 : decode cX3_executeBitPage 7 = .ok (.ishr, 1) := by decide +kernel
theorem dX3_executeBitPage_8 : decode cX3_executeBitPage 8 = .ok (.bipush 7, 2) := by decide +kernel
theorem dX3_executeBitPage_10 : decode cX3_executeBitPage 10 = .ok (.iand, 1) := by decide +kernel
theorem dX3_executeBitPage_11 : decode cX3_executeBitPage 11 = .ok (.istore_n 2, 1) := by decide +kernel
theorem dX3_executeBitPage_12 : decode cX3_executeBitPage 12 = .ok (.iload_n 1, 1) := by decide +kernel
theorem dX3_executeBitPage_13 : decode cX3_executeBitPage 13 = .ok (.bipush 7, 2) := by decide +kernel
theorem dX3_executeBitPage_15 : decode cX3_executeBitPage 15 = .ok (.iand, 1) := by decide +kernel
theorem dX3_executeBitPage_16 : decode cX3_executeBitPage 16 = .ok (.istore_n 3, 1) := by decide +kernel
theorem dX3_executeBitPage_17 : decode cX3_executeBitPage 17 = .ok (.aload_n 0, 1) := by decide +kernel
theorem dX3_executeBitPage_18 : decode cX3_executeBitPage 18 = .ok (.iload_n 3, 1) := by decide +kernel
theorem dX3_executeBitPage_19 : decode cX3_executeBitPage 19 = .ok (.invokevirtual 117, 3) := by decide +kernel
theorem dX3_executeBitPage_22 : decode cX3_executeBitPage 22 = .ok (.istore 4, 2) := by decide +kernel
theorem dX3_executeBitPage_24 : decode cX3_executeBitPage 24 = .ok (.iload_n 1, 1) := by decide +kernel
theorem dX3_executeBitPage_25 : decode cX3_executeBitPage 25 = .ok (.bipush 6, 2) := by decide +kernel
theorem dX3_executeBitPage_27 : decode cX3_executeBitPage 27 = .ok (.ishr, 1) := by decide +kernel
theorem dX3_executeBitPage_28 : decode cX3_executeBitPage 28 = .ok (.tableswitch 84 0 2 #[28, 46, 68], 28) := by decide +kernel
theorem dX3_executeBitPage_56 : decode cX3_executeBitPage 56 = .ok (.aload_n 0, 1) := by decide +kernel
theorem dX3_executeBitPage_57 : decode cX3_executeBitPage 57 = .ok (.iload_n 3, 1) := by decide +kernel
theorem dX3_executeBitPage_58 : decode cX3_executeBitPage 58 = .ok (.aload_n 0, 1) := by decide +kernel
theorem dX3_executeBitPage_59 : decode cX3_executeBitPage 59 = .ok (.getfield 19, 3) := by decide +kernel
theorem dX3_executeBitPage_62 : decode cX3_executeBitPage 62 = .ok (.iload_n 2, 1) := by decide +kernel
theorem dX3_executeBitPage_63 : decode cX3_executeBitPage 63 = .ok (.iload 4, 2) := by decide +kernel
theorem dX3_executeBitPage_65 : decode cX3_executeBitPage 65 = .ok (.invokevirtual 218, 3) := by decide +kernel
theorem dX3_executeBitPage_68 : decode cX3_executeBitPage 68 = .ok (.invokevirtual 120, 3) := by decide +kernel
theorem dX3_executeBitPage_71 : decode cX3_executeBitPage 71 = .ok (.goto 52, 3) := by decide +kernel
theorem dX3_executeBitPage_74 : decode cX3_executeBitPage 74 = .ok (.aload_n 0, 1) := by decide +kernel
theorem dX3_executeBitPage_75 : decode cX3_executeBitPage 75 = .ok (.getfield 19, 3) := by decide +kernel
theorem dX3_executeBitPage_78 : decode cX3_executeBitPage 78 = .ok (.iload_n 2, 1) := by decide +kernel
theorem dX3_executeBitPage_79 : decode cX3_executeBitPage 79 = .ok (.iload 4, 2) := by decide +kernel
theorem dX3_executeBitPage_81 : decode cX3_executeBitPage 81 = .ok (.invokevirtual 221, 3) := by decide +kernel
theorem dX3_executeBitPage_84 : decode cX3_executeBitPage 84 = .ok (.iload_n 3, 1) := by decide +kernel
theorem dX3_executeBitPage_85 : decode cX3_executeBitPage 85 = .ok (.bipush 6, 2) := by decide +kernel
theorem dX3_executeBitPage_87 : decode cX3_executeBitPage 87 = .ok (.if_icmp .ne 7, 3) := by decide +kernel
theorem dX3_executeBitPage_90 : decode cX3_executeBitPage 90 = .ok (.iconst 1, 1) := by decide +kernel
theorem dX3_executeBitPage_91 : decode cX3_executeBitPage 91 = .ok (.goto 4, 3) := by decide +kernel
theorem dX3_executeBitPage_94 : decode cX3_executeBitPage 94 = .ok (.iconst 0, 1) := by decide +kernel
theorem dX3_executeBitPage_95 : decode cX3_executeBitPage 95 = .ok (.ireturn, 1) := by decide +kernel
theorem dX3_executeBitPage_96 : decode cX3_executeBitPage 96 = .ok (.aload_n 0, 1) := by decide +kernel
theorem dX3_executeBitPage_97 : decode cX3_executeBitPage 97 = .ok (.iload_n 3, 1) := by decide +kernel
theorem dX3_executeBitPage_98 : decode cX3_executeBitPage 98 = .ok (.iload 4, 2) := by decide +kernel
theorem dX3_executeBitPage_100 : decode cX3_executeBitPage 100 = .ok (.iconst 1, 1) := by decide +kernel
theorem dX3_executeBitPage_101 : decode cX3_executeBitPage 101 = .ok (.iload_n 2, 1) := by decide +kernel
theorem dX3_executeBitPage_102 : decode cX3_executeBitPage 102 = .ok (.ishl, 1) := by decide +kernel
theorem dX3_executeBitPage_103 : decode cX3_executeBitPage 103 = .ok (.iconst (-1), 1) := by decide +kernel
theorem dX3_executeBitPage_104 : decode cX3_executeBitPage 104 = .ok (.ixor, 1) := by decide +kernel
theorem dX3_executeBitPage_105 : decode cX3_executeBitPage 105 = .ok (.iand, 1) := by decide +kernel
theorem dX3_executeBitPage_106 : decode cX3_executeBitPage 106 = .ok (.invokevirtual 120, 3) := by decide +kernel
theorem dX3_executeBitPage_109 : decode cX3_executeBitPage 109 = .ok (.goto 14, 3) := by decide +kernel
theorem dX3_executeBitPage_112 : decode cX3_executeBitPage 112 = .ok (.aload_n 0, 1) := by decide +kernel
theorem dX3_executeBitPage_113 : decode cX3_executeBitPage 113 = .ok (.iload_n 3, 1) := by decide +kernel
theorem dX3_executeBitPage_114 : decode cX3_executeBitPage 114 = .ok (.iload 4, 2) := by decide +kernel
theorem dX3_executeBitPage_116 : decode cX3_executeBitPage 116 = .ok (.iconst 1, 1) := by decide +kernel
theorem dX3_executeBitPage_117 : decode cX3_executeBitPage 117 = .ok (.iload_n 2, 1) := by decide +kernel
theorem dX3_executeBitPage_118 : decode cX3_executeBitPage 118 = .ok (.ishl, 1) := by decide +kernel
theorem dX3_executeBitPage_119 : decode cX3_executeBitPage 119 = .ok (.ior, 1) := by decide +kernel
theorem dX3_executeBitPage_120 : decode cX3_executeBitPage 120 = .ok (.invokevirtual 120, 3) := by decide +kernel
theorem dX3_executeBitPage_123 : decode cX3_executeBitPage 123 = .ok (.iload_n 3, 1) := by decide +kernel
theorem dX3_executeBitPage_124 : decode cX3_executeBitPage 124 = .ok (.bipush 6, 2) := by decide +kernel
theorem dX3_executeBitPage_126 : decode cX3_executeBitPage 126 = .ok (.if_icmp .ne 7, 3) := by decide +kernel
theorem dX3_executeBitPage_129 : decode cX3_executeBitPage 129 = .ok (.iconst 2, 1) := by decide +kernel
theorem dX3_executeBitPage_130 : decode cX3_executeBitPage 130 = .ok (.goto 4, 3) := by decide +kernel
theorem dX3_executeBitPage_133 : decode cX3_executeBitPage 133 = .ok (.iconst 0, 1) := by decide +kernel
theorem dX3_executeBitPage_134 : decode cX3_executeBitPage 134 = .ok (.ireturn, 1) := by decide +kernel
theorem dX3_halt_0 : decode cX3_halt 0 = .ok (.aload_n 0, 1) := by decide +kernel
theorem dX3_halt_1 : decode cX3_halt 1 = .ok (.getfield 58, 3) := by decide +kernel
theorem dX3_halt_4 : decode cX3_halt 4 = .ok (.ifCond .ne 13, 3) := by decide +kernel
theorem dX3_halt_7 : decode cX3_halt 7 = .ok (.aload_n 0, 1) := by decide +kernel
theorem dX3_halt_8 : decode cX3_halt 8 = .ok (.getfield 10, 3) := by decide +kernel
theorem dX3_halt_11 : decode cX3_halt 11 = .ok (.invokevirtual 78, 3) := by decide +kernel
theorem dX3_halt_14 : decode cX3_halt 14 = .ok (.ifCond .ne 11, 3) := by decide +kernel
theorem dX3_halt_17 : decode cX3_halt 17 = .ok (.aload_n 0, 1) := by decide +kernel
theorem dX3_halt_18 : decode cX3_halt 18 = .ok (.iconst 1, 1) := by decide +kernel
theorem dX3_halt_19 : decode cX3_halt 19 = .ok (.putfield 65, 3) := by decide +kernel
theorem dX3_halt_22 : decode cX3_halt 22 = .ok (.goto 37, 3) := by decide +kernel
theorem dX3_halt_25 : decode cX3_halt 25 = .ok (.aload_n 0, 1) := by decide +kernel
theorem dX3_halt_26 : decode cX3_halt 26 = .ok (.getfield 62, 3) := by decide +kernel
theorem dX3_halt_29 : decode cX3_halt 29 = .ok (.ifCond .eq 25, 3) := by decide +kernel
theorem dX3_halt_32 : decode cX3_halt 32 = .ok (.aload_n 0, 1) := by decide +kernel
theorem dX3_halt_33 : decode cX3_halt 33 = .ok (.getfield 27, 3) := by decide +kernel
theorem dX3_halt_36 : decode cX3_halt 36 = .ok (.iconst 5, 1) := by decide +kernel
theorem dX3_halt_37 : decode cX3_halt 37 = .ok (.aload_n 0, 1) := by decide +kernel
theorem dX3_halt_38 : decode cX3_halt 38 = .ok (.getfield 27, 3) := by decide +kernel
theorem dX3_halt_41 : decode cX3_halt 41 = .ok (.iconst 5, 1) := by decide +kernel
theorem dX3_halt_42 : decode cX3_halt 42 = .ok (.invokevirtual 49, 3) := by decide +kernel
theorem dX3_halt_45 : decode cX3_halt 45 = .ok (.iconst 1, 1) := by decide +kernel
theorem dX3_halt_46 : decode cX3_halt 46 = .ok (.isub, 1) := by decide +kernel
theorem dX3_halt_47 : decode cX3_halt 47 = .ok (.invokevirtual 54, 3) := by decide +kernel
theorem dX3_halt_50 : decode cX3_halt 50 = .ok (.pop, 1) := by decide +kernel
theorem dX3_halt_51 : decode cX3_halt 51 = .ok (.goto 8, 3) := by decide +kernel
theorem dX3_halt_54 : decode cX3_halt 54 = .ok (.aload_n 0, 1) := by decide +kernel
theorem dX3_halt_55 : decode cX3_halt 55 = .ok (.iconst 1, 1) := by decide +kernel
theorem dX3_halt_56 : decode cX3_halt 56 = .ok (.putfield 68, 3) := by decide +kernel
theorem dX3_halt_59 : decode cX3_halt 59 = .ok (.return_, 1) := by decide +kernel
theorem dX3_jumpRelativeIf_0 : decode cX3_jumpRelativeIf 0 = .ok (.aload_n 0, 1) := by decide +kernel
theorem dX3_jumpRelativeIf_1 : decode cX3_jumpRelativeIf 1 = .ok (.invokevirtual 155, 3) := by decide +kernel
theorem dX3_jumpRelativeIf_4 : decode cX3_jumpRelativeIf 4 = .ok (.i2b, 1) := by decide +kernel
theorem dX3_jumpRelativeIf_5 : decode cX3_jumpRelativeIf 5 = .ok (.istore_n 2, 1) := by decide +kernel
theorem dX3_jumpRelativeIf_6 : decode cX3_jumpRelativeIf 6 = .ok (.iload_n 1, 1) := by decide +kernel
theorem dX3_jumpRelativeIf_7 : decode cX3_jumpRelativeIf 7 = .ok (.ifCond .ne 5, 3) := by decide +kernel
theorem dX3_jumpRelativeIf_10 : decode cX3_jumpRelativeIf 10 = .ok (.iconst 0, 1) := by decide +kernel
theorem dX3_jumpRelativeIf_11 : decode cX3_jumpRelativeIf 11 = .ok (.ireturn, 1) := by decide +kernel
theorem dX3_jumpRelativeIf_12 : decode cX3_jumpRelativeIf 12 = .ok (.aload_n 0, 1) := by decide +kernel
theorem dX3_jumpRelativeIf_13 : decode cX3_jumpRelativeIf 13 = .ok (.getfield 27, 3) := by decide +kernel
theorem dX3_jumpRelativeIf_16 : decode cX3_jumpRelativeIf 16 = .ok (.iconst 5, 1) := by decide +kernel
theorem dX3_jumpRelativeIf_17 : decode cX3_jumpRelativeIf 17 = .ok (.aload_n 0, 1) := by decide +kernel
theorem dX3_jumpRelativeIf_18 : decode cX3_jumpRelativeIf 18 = .ok (.getfield 27, 3) := by decide +kernel
theorem dX3_jumpRelativeIf_21 : decode cX3_jumpRelativeIf 21 = .ok (.iconst 5, 1) := by decide +kernel
theorem dX3_jumpRelativeIf_22 : decode cX3_jumpRelativeIf 22 = .ok (.invokevirtual 49, 3) := by decide +kernel
theorem dX3_jumpRelativeIf_25 : decode cX3_jumpRelativeIf 25 = .ok (.iload_n 2, 1) := by decide +kernel
theorem dX3_jumpRelativeIf_26 : decode cX3_jumpRelativeIf 26 = .ok (.iadd, 1) := by decide +kernel
theorem dX3_jumpRelativeIf_27 : decode cX3_jumpRelativeIf 27 = .ok (.invokevirtual 54, 3) := by decide +kernel
theorem dX3_jumpRelativeIf_30 : decode cX3_jumpRelativeIf 30 = .ok (.pop, 1) := by decide +kernel
theorem dX3_jumpRelativeIf_31 : decode cX3_jumpRelativeIf 31 = .ok (.iconst 1, 1) := by decide +kernel
theorem dX3_jumpRelativeIf_32 : decode cX3_jumpRelativeIf 32 = .ok (.ireturn, 1) := by decide +kernel
theorem dX3_jumpIf_0 : decode cX3_jumpIf 0 = .ok (.aload_n 0, 1) := by decide +kernel
theorem dX3_jumpIf_1 : decode cX3_jumpIf 1 = .ok (.invokevirtual 185, 3) := by decide +kernel
theorem dX3_jumpIf_4 : decode cX3_jumpIf 4 = .ok (.istore_n 2, 1) := by decide +kernel
theorem dX3_jumpIf_5 : decode cX3_jumpIf 5 = .ok (.iload_n 1, 1) := by decide +kernel
theorem dX3_jumpIf_6 : decode cX3_jumpIf 6 = .ok (.ifCond .ne 5, 3) := by decide +kernel
theorem dX3_jumpIf_9 : decode cX3_jumpIf 9 = .ok (.iconst 0, 1) := by decide +kernel
theorem dX3_jumpIf_10 : decode cX3_jumpIf 10 = .ok (.ireturn, 1) := by decide +kernel
theorem dX3_jumpIf_11 : decode cX3_jumpIf 11 = .ok (.aload_n 0, 1) := by decide +kernel
theorem dX3_jumpIf_12 : decode cX3_jumpIf 12 = .ok (.getfield 27, 3) := by decide +kernel
theorem dX3_jumpIf_15 : decode cX3_jumpIf 15 = .ok (.iconst 5, 1) := by decide +kernel
theorem dX3_jumpIf_16 : decode cX3_jumpIf 16 = .ok (.iload_n 2, 1) := by decide +kernel
theorem dX3_jumpIf_17 : decode cX3_jumpIf 17 = .ok (.invokevirtual 54, 3) := by decide +kernel
theorem dX3_jumpIf_20 : decode cX3_jumpIf 20 = .ok (.pop, 1) := by decide +kernel
theorem dX3_jumpIf_21 : decode cX3_jumpIf 21 = .ok (.iconst 1, 1) := by decide +kernel
theorem dX3_jumpIf_22 : decode cX3_jumpIf 22 = .ok (.ireturn, 1) := by decide +kernel
theorem dX3_callIf_0 : decode cX3_callIf 0 = .ok (.aload_n 0, 1) := by decide +kernel
theorem dX3_callIf_1 : decode cX3_callIf 1 = .ok (.invokevirtual 185, 3) := by decide +kernel
theorem dX3_callIf_4 : decode cX3_callIf 4 = .ok (.istore_n 2, 1) := by decide +kernel
theorem dX3_callIf_5 : decode cX3_callIf 5 = .ok (.iload_n 1, 1) := by decide +kernel
theorem dX3_callIf_6 : decode cX3_callIf 6 = .ok (.ifCond .ne 5, 3) := by decide +kernel
theorem dX3_callIf_9 : decode cX3_callIf 9 = .ok (.iconst 0, 1) := by decide +kernel
theorem dX3_callIf_10 : decode cX3_callIf 10 = .ok (.ireturn, 1) := by decide +kernel
theorem dX3_callIf_11 : decode cX3_callIf 11 = .ok (.aload_n 0, 1) := by decide +kernel
theorem dX3_callIf_12 : decode cX3_callIf 12 = .ok (.aload_n 0, 1) := by decide +kernel
theorem dX3_callIf_13 : decode cX3_callIf 13 = .ok (.getfield 27, 3) := by decide +kernel
theorem dX3_callIf_16 : decode cX3_callIf 16 = .ok (.iconst 5, 1) := by decide +kernel
theorem dX3_callIf_17 : decode cX3_callIf 17 = .ok (.invokevirtual 49, 3) := by decide +kernel
theorem dX3_callIf_20 : decode cX3_callIf 20 = .ok (.invokevirtual 100, 3) := by decide +kernel
theorem dX3_callIf_23 : decode cX3_callIf 23 = .ok (.aload_n 0, 1) := by decide +kernel
theorem dX3_callIf_24 : decode cX3_callIf 24 = .ok (.getfield 27, 3) := by decide +kernel
theorem dX3_callIf_27 : decode cX3_callIf 27 = .ok (.iconst 5, 1) := by decide +kernel
theorem dX3_callIf_28 : decode cX3_callIf 28 = .ok (.iload_n 2, 1) := by decide +kernel
theorem dX3_callIf_29 : decode cX3_callIf 29 = .ok (.invokevirtual 54, 3) := by decide +kernel
theorem dX3_callIf_32 : decode cX3_callIf 32 = .ok (.pop, 1) := by decide +kernel
theorem dX3_callIf_33 : decode cX3_callIf 33 = .ok (.iconst 3, 1) := by decide +kernel
theorem dX3_callIf_34 : decode cX3_callIf 34 = .ok (.ireturn, 1) := by decide +kernel
theorem dX3_returnIf_0 : decode cX3_returnIf 0 = .ok (.iload_n 1, 1) := by decide +kernel
theorem dX3_returnIf_1 : decode cX3_returnIf 1 = .ok (.ifCond .ne 5, 3) := by decide +kernel
theorem dX3_returnIf_4 : decode cX3_returnIf 4 = .ok (.iconst 0, 1) := by decide +kernel
theorem dX3_returnIf_5 : decode cX3_returnIf 5 = .ok (.ireturn, 1) := by decide +kernel
theorem dX3_returnIf_6 : decode cX3_returnIf 6 = .ok (.aload_n 0, 1) := by decide +kernel
theorem dX3_returnIf_7 : decode cX3_returnIf 7 = .ok (.getfield 27, 3) := by decide +kernel
theorem dX3_returnIf_10 : decode cX3_returnIf 10 = .ok (.iconst 5, 1) := by decide +kernel
theorem dX3_returnIf_11 : decode cX3_returnIf 11 = .ok (.aload_n 0, 1) := by decide +kernel
theorem dX3_returnIf_12 : decode cX3_returnIf 12 = .ok (.invokevirtual 209, 3) := by decide +kernel
theorem dX3_returnIf_15 : decode cX3_returnIf 15 = .ok (.invokevirtual 54, 3) := by decide +kernel
theorem dX3_returnIf_18 : decode cX3_returnIf 18 = .ok (.pop, 1) := by decide +kernel
theorem dX3_returnIf_19 : decode cX3_returnIf 19 = .ok (.iconst 3, 1) := by decide +kernel
theorem dX3_returnIf_20 : decode cX3_returnIf 20 = .ok (.ireturn, 1) := by decide +kernel
theorem dX3_holds_0 : decode cX3_holds 0 = .ok (.iload_n 1, 1) := by decide +kernel
theorem dX3_holds_1 : decode cX3_holds 1 = .ok (.iconst 1, 1) := by decide +kernel
theorem dX3_holds_2 : decode cX3_holds 2 = .ok (.iand, 1) := by decide +kernel
theorem dX3_holds_3 : decode cX3_holds 3 = .ok (.iconst 1, 1) := by decide +kernel
theorem dX3_holds_4 : decode cX3_holds 4 = .ok (.if_icmp .ne 7, 3) := by decide +kernel
theorem dX3_holds_7 : decode cX3_holds 7 = .ok (.iconst 1, 1) := by decide +kernel
theorem dX3_holds_8 : decode cX3_holds 8 = .ok (.goto 4, 3) := by decide +kernel
theorem dX3_holds_11 : decode cX3_holds 11 = .ok (.iconst 0, 1) := by decide +kernel
theorem dX3_holds_12 : decode cX3_holds 12 = .ok (.istore_n 2, 1) := by decide +kernel
theorem dX3_holds_13 : decode cX3_holds 13 = .ok (.aload_n 0, 1) := by decide +kernel
theorem dX3_holds_14 : decode cX3_holds 14 = .ok (.getfield 27, 3) := by decide +kernel
theorem dX3_holds_17 : decode cX3_holds 17 = .ok (.iload_n 1, 1) := by decide +kernel
theorem dX3_holds_18 : decode cX3_holds 18 = .ok (.iconst 2, 1) := by decide +kernel
theorem dX3_holds_19 : decode cX3_holds 19 = .ok (.if_icmp .ge 9, 3) := by decide +kernel
theorem dX3_holds_22 : decode cX3_holds 22 = .ok (.sipush 128, 3) := by decide +kernel
theorem dX3_holds_25 : decode cX3_holds 25 = .ok (.goto 5, 3) := by decide +kernel
theorem dX3_holds_28 : decode cX3_holds 28 = .ok (.bipush 16, 2) := by decide +kernel
theorem dX3_holds_30 : decode cX3_holds 30 = .ok (.invokevirtual 224, 3) := by decide +kernel
theorem dX3_holds_33 : decode cX3_holds 33 = .ok (.iload_n 2, 1) := by decide +kernel
theorem dX3_holds_34 : decode cX3_holds 34 = .ok (.if_icmp .ne 7, 3) := by decide +kernel
theorem dX3_holds_37 : decode cX3_holds 37 = .ok (.iconst 1, 1) := by decide +kernel
theorem dX3_holds_38 : decode cX3_holds 38 = .ok (.goto 4, 3) := by decide +kernel
theorem dX3_holds_41 : decode cX3_holds 41 = .ok (.iconst 0, 1) := by decide +kernel
theorem dX3_holds_42 : decode cX3_holds 42 = .ok (.ireturn, 1) := by decide +kernel
theorem dX3_stackPair_0 : decode cX3_stackPair 0 = .ok (.iconst 1, 1) := by decide +kernel
theorem dX3_stackPair_1 : decode cX3_stackPair 1 = .ok (.iload_n 0, 1) := by decide +kernel
theorem dX3_stackPair_2 : decode cX3_stackPair 2 = .ok (.iconst 1, 1) := by decide +kernel
theorem dX3_stackPair_3 : decode cX3_stackPair 3 = .ok (.ishr, 1) := by decide +kernel
theorem dX3_stackPair_4 : decode cX3_stackPair 4 = .ok (.iadd, 1) := by decide +kernel
theorem dX3_stackPair_5 : decode cX3_stackPair 5 = .ok (.iconst 3, 1) := by decide +kernel
theorem dX3_stackPair_6 : decode cX3_stackPair 6 = .ok (.iand, 1) := by decide +kernel
theorem dX3_stackPair_7 : decode cX3_stackPair 7 = .ok (.ireturn, 1) := by decide +kernel
theorem dX3_fetch_0 : decode cX3_fetch 0 = .ok (.aload_n 0, 1) := by decide +kernel
theorem dX3_fetch_1 : decode cX3_fetch 1 = .ok (.getfield 27, 3) := by decide +kernel
theorem dX3_fetch_4 : decode cX3_fetch 4 = .ok (.iconst 5, 1) := by decide +kernel
theorem dX3_fetch_5 : decode cX3_fetch 5 = .ok (.invokevirtual 49, 3) := by decide +kernel
theorem dX3_fetch_8 : decode cX3_fetch 8 = .ok (.istore_n 1, 1) := by decide +kernel
theorem dX3_fetch_9 : decode cX3_fetch 9 = .ok (.aload_n 0, 1) := by decide +kernel
theorem dX3_fetch_10 : decode cX3_fetch 10 = .ok (.getfield 27, 3) := by decide +kernel
theorem dX3_fetch_13 : decode cX3_fetch 13 = .ok (.iconst 5, 1) := by decide +kernel
theorem dX3_fetch_14 : decode cX3_fetch 14 = .ok (.iload_n 1, 1) := by decide +kernel
theorem dX3_fetch_15 : decode cX3_fetch 15 = .ok (.iconst 1, 1) := by decide +kernel
theorem dX3_fetch_16 : decode cX3_fetch 16 = .ok (.iadd, 1) := by decide +kernel
theorem dX3_fetch_17 : decode cX3_fetch 17 = .ok (.invokevirtual 54, 3) := by decide +kernel
theorem dX3_fetch_20 : decode cX3_fetch 20 = .ok (.pop, 1) := by decide +kernel
theorem dX3_fetch_21 : decode cX3_fetch 21 = .ok (.aload_n 0, 1) := by decide +kernel
theorem dX3_fetch_22 : decode cX3_fetch 22 = .ok (.getfield 10, 3) := by decide +kernel
theorem dX3_fetch_25 : decode cX3_fetch 25 = .ok (.iload_n 1, 1) := by decide +kernel
theorem dX3_fetch_26 : decode cX3_fetch 26 = .ok (.invokevirtual 37, 3) := by decide +kernel
theorem dX3_fetch_29 : decode cX3_fetch 29 = .ok (.ireturn, 1) := by decide +kernel
theorem dX3_fetchWord_0 : decode cX3_fetchWord 0 = .ok (.aload_n 0, 1) := by decide +kernel
theorem dX3_fetchWord_1 : decode cX3_fetchWord 1 = .ok (.getfield 27, 3) := by decide +kernel
theorem dX3_fetchWord_4 : decode cX3_fetchWord 4 = .ok (.iconst 5, 1) := by decide +kernel
theorem dX3_fetchWord_5 : decode cX3_fetchWord 5 = .ok (.invokevirtual 49, 3) := by decide +kernel
theorem dX3_fetchWord_8 : decode cX3_fetchWord 8 = .ok (.istore_n 1, 1) := by decide +kernel
theorem dX3_fetchWord_9 : decode cX3_fetchWord 9 = .ok (.aload_n 0, 1) := by decide +kernel
theorem dX3_fetchWord_10 : decode cX3_fetchWord 10 = .ok (.getfield 27, 3) := by decide +kernel
theorem dX3_fetchWord_13 : decode cX3_fetchWord 13 = .ok (.iconst 5, 1) := by decide +kernel
theorem dX3_fetchWord_14 : decode cX3_fetchWord 14 = .ok (.iload_n 1, 1) := by decide +kernel
theorem dX3_fetchWord_15 : decode cX3_fetchWord 15 = .ok (.iconst 2, 1) := by decide +kernel
theorem dX3_fetchWord_16 : decode cX3_fetchWord 16 = .ok (.iadd, 1) := by decide +kernel
theorem dX3_fetchWord_17 : decode cX3_fetchWord 17 = .ok (.invokevirtual 54, 3) := by decide +kernel
theorem dX3_fetchWord_20 : decode cX3_fetchWord 20 = .ok (.pop, 1) := by decide +kernel
theorem dX3_fetchWord_21 : decode cX3_fetchWord 21 = .ok (.aload_n 0, 1) := by decide +kernel
theorem dX3_fetchWord_22 : decode cX3_fetchWord 22 = .ok (.getfield 10, 3) := by decide +kernel
theorem dX3_fetchWord_25 : decode cX3_fetchWord 25 = .ok (.iload_n 1, 1) := by decide +kernel
theorem dX3_fetchWord_26 : decode cX3_fetchWord 26 = .ok (.invokevirtual 37, 3) := by decide +kernel
theorem dX3_fetchWord_29 : decode cX3_fetchWord 29 = .ok (.aload_n 0, 1) := by decide +kernel
theorem dX3_fetchWord_30 : decode cX3_fetchWord 30 = .ok (.getfield 10, 3) := by decide +kernel
theorem dX3_fetchWord_33 : decode cX3_fetchWord 33 = .ok (.iload_n 1, 1) := by decide +kernel
theorem dX3_fetchWord_34 : decode cX3_fetchWord 34 = .ok (.iconst 1, 1) := by decide +kernel
theorem dX3_fetchWord_35 : decode cX3_fetchWord 35 = .ok (.iadd, 1) := by decide +kernel
theorem dX3_fetchWord_36 : decode cX3_fetchWord 36 = .ok (.invokevirtual 37, 3) := by decide +kernel
theorem dX3_fetchWord_39 : decode cX3_fetchWord 39 = .ok (.bipush 8, 2) := by decide +kernel
theorem dX3_fetchWord_41 : decode cX3_fetchWord 41 = .ok (.ishl, 1) := by decide +kernel
theorem dX3_fetchWord_42 : decode cX3_fetchWord 42 = .ok (.ior, 1) := by decide +kernel
theorem dX3_fetchWord_43 : decode cX3_fetchWord 43 = .ok (.ireturn, 1) := by decide +kernel
theorem dX3_push_0 : decode cX3_push 0 = .ok (.aload_n 0, 1) := by decide +kernel
theorem dX3_push_1 : decode cX3_push 1 = .ok (.getfield 27, 3) := by decide +kernel
theorem dX3_push_4 : decode cX3_push 4 = .ok (.iconst 4, 1) := by decide +kernel
theorem dX3_push_5 : decode cX3_push 5 = .ok (.invokevirtual 49, 3) := by decide +kernel
theorem dX3_push_8 : decode cX3_push 8 = .ok (.istore_n 2, 1) := by decide +kernel
theorem dX3_push_9 : decode cX3_push 9 = .ok (.aload_n 0, 1) := by decide +kernel
theorem dX3_push_10 : decode cX3_push 10 = .ok (.getfield 10, 3) := by decide +kernel
theorem dX3_push_13 : decode cX3_push 13 = .ok (.iload_n 2, 1) := by decide +kernel
theorem dX3_push_14 : decode cX3_push 14 = .ok (.iconst 1, 1) := by decide +kernel
theorem dX3_push_15 : decode cX3_push 15 = .ok (.isub, 1) := by decide +kernel
theorem dX3_push_16 : decode cX3_push 16 = .ok (.iload_n 1, 1) := by decide +kernel
theorem dX3_push_17 : decode cX3_push 17 = .ok (.bipush 8, 2) := by decide +kernel
theorem dX3_push_19 : decode cX3_push 19 = .ok (.ishr, 1) := by decide +kernel
theorem dX3_push_20 : decode cX3_push 20 = .ok (.invokevirtual 188, 3) := by decide +kernel
theorem dX3_push_23 : decode cX3_push 23 = .ok (.aload_n 0, 1) := by decide +kernel
theorem dX3_push_24 : decode cX3_push 24 = .ok (.getfield 10, 3) := by decide +kernel
theorem dX3_push_27 : decode cX3_push 27 = .ok (.iload_n 2, 1) := by decide +kernel
theorem dX3_push_28 : decode cX3_push 28 = .ok (.iconst 2, 1) := by decide +kernel
theorem dX3_push_29 : decode cX3_push 29 = .ok (.isub, 1) := by decide +kernel
theorem dX3_push_30 : decode cX3_push 30 = .ok (.iload_n 1, 1) := by decide +kernel
theorem dX3_push_31 : decode cX3_push 31 = .ok (.invokevirtual 188, 3) := by decide +kernel
theorem dX3_push_34 : decode cX3_push 34 = .ok (.aload_n 0, 1) := by decide +kernel
theorem dX3_push_35 : decode cX3_push 35 = .ok (.getfield 27, 3) := by decide +kernel
theorem dX3_push_38 : decode cX3_push 38 = .ok (.iconst 4, 1) := by decide +kernel
theorem dX3_push_39 : decode cX3_push 39 = .ok (.iload_n 2, 1) := by decide +kernel
theorem dX3_push_40 : decode cX3_push 40 = .ok (.iconst 2, 1) := by decide +kernel
theorem dX3_push_41 : decode cX3_push 41 = .ok (.isub, 1) := by decide +kernel
theorem dX3_push_42 : decode cX3_push 42 = .ok (.invokevirtual 54, 3) := by decide +kernel
theorem dX3_push_45 : decode cX3_push 45 = .ok (.pop, 1) := by decide +kernel
theorem dX3_push_46 : decode cX3_push 46 = .ok (.return_, 1) := by decide +kernel
theorem dX3_pop_0 : decode cX3_pop 0 = .ok (.aload_n 0, 1) := by decide +kernel
theorem dX3_pop_1 : decode cX3_pop 1 = .ok (.getfield 27, 3) := by decide +kernel
theorem dX3_pop_4 : decode cX3_pop 4 = .ok (.iconst 4, 1) := by decide +kernel
theorem dX3_pop_5 : decode cX3_pop 5 = .ok (.invokevirtual 49, 3) := by decide +kernel
theorem dX3_pop_8 : decode cX3_pop 8 = .ok (.istore_n 1, 1) := by decide +kernel
theorem dX3_pop_9 : decode cX3_pop 9 = .ok (.aload_n 0, 1) := by decide +kernel
theorem dX3_pop_10 : decode cX3_pop 10 = .ok (.getfield 27, 3) := by decide +kernel
theorem dX3_pop_13 : decode cX3_pop 13 = .ok (.iconst 4, 1) := by decide +kernel
theorem dX3_pop_14 : decode cX3_pop 14 = .ok (.iload_n 1, 1) := by decide +kernel
theorem dX3_pop_15 : decode cX3_pop 15 = .ok (.iconst 2, 1) := by decide +kernel
theorem dX3_pop_16 : decode cX3_pop 16 = .ok (.iadd, 1) := by decide +kernel
theorem dX3_pop_17 : decode cX3_pop 17 = .ok (.invokevirtual 54, 3) := by decide +kernel
theorem dX3_pop_20 : decode cX3_pop 20 = .ok (.pop, 1) := by decide +kernel
theorem dX3_pop_21 : decode cX3_pop 21 = .ok (.aload_n 0, 1) := by decide +kernel
theorem dX3_pop_22 : decode cX3_pop 22 = .ok (.getfield 10, 3) := by decide +kernel
theorem dX3_pop_25 : decode cX3_pop 25 = .ok (.iload_n 1, 1) := by decide +kernel
theorem dX3_pop_26 : decode cX3_pop 26 = .ok (.invokevirtual 37, 3) := by decide +kernel
theorem dX3_pop_29 : decode cX3_pop 29 = .ok (.aload_n 0, 1) := by decide +kernel
theorem dX3_pop_30 : decode cX3_pop 30 = .ok (.getfield 10, 3) := by decide +kernel
theorem dX3_pop_33 : decode cX3_pop 33 = .ok (.iload_n 1, 1) := by decide +kernel
theorem dX3_pop_34 : decode cX3_pop 34 = .ok (.iconst 1, 1) := by decide +kernel
theorem dX3_pop_35 : decode cX3_pop 35 = .ok (.iadd, 1) := by decide +kernel
theorem dX3_pop_36 : decode cX3_pop 36 = .ok (.invokevirtual 37, 3) := by decide +kernel
theorem dX3_pop_39 : decode cX3_pop 39 = .ok (.bipush 8, 2) := by decide +kernel
theorem dX3_pop_41 : decode cX3_pop 41 = .ok (.ishl, 1) := by decide +kernel
theorem dX3_pop_42 : decode cX3_pop 42 = .ok (.ior, 1) := by decide +kernel
theorem dX3_pop_43 : decode cX3_pop 43 = .ok (.ireturn, 1) := by decide +kernel
theorem dX3_operand_0 : decode cX3_operand 0 = .ok (.iload_n 1, 1) := by decide +kernel
theorem dX3_operand_1 : decode cX3_operand 1 = .ok (.bipush 6, 2) := by decide +kernel
theorem dX3_operand_3 : decode cX3_operand 3 = .ok (.if_icmp .ne 21, 3) := by decide +kernel
theorem dX3_operand_6 : decode cX3_operand 6 = .ok (.aload_n 0, 1) := by decide +kernel
theorem dX3_operand_7 : decode cX3_operand 7 = .ok (.getfield 10, 3) := by decide +kernel
theorem dX3_operand_10 : decode cX3_operand 10 = .ok (.aload_n 0, 1) := by decide +kernel
theorem dX3_operand_11 : decode cX3_operand 11 = .ok (.getfield 27, 3) := by decide +kernel
theorem dX3_operand_14 : decode cX3_operand 14 = .ok (.iconst 3, 1) := by decide +kernel
theorem dX3_operand_15 : decode cX3_operand 15 = .ok (.invokevirtual 49, 3) := by decide +kernel
theorem dX3_operand_18 : decode cX3_operand 18 = .ok (.invokevirtual 37, 3) := by decide +kernel
theorem dX3_operand_21 : decode cX3_operand 21 = .ok (.goto 11, 3) := by decide +kernel
theorem dX3_operand_24 : decode cX3_operand 24 = .ok (.aload_n 0, 1) := by decide +kernel
theorem dX3_operand_25 : decode cX3_operand 25 = .ok (.getfield 27, 3) := by decide +kernel
theorem dX3_operand_28 : decode cX3_operand 28 = .ok (.iload_n 1, 1) := by decide +kernel
theorem dX3_operand_29 : decode cX3_operand 29 = .ok (.invokevirtual 215, 3) := by decide +kernel
theorem dX3_operand_32 : decode cX3_operand 32 = .ok (.ireturn, 1) := by decide +kernel
theorem dX3_setOperand_0 : decode cX3_setOperand 0 = .ok (.iload_n 1, 1) := by decide +kernel
theorem dX3_setOperand_1 : decode cX3_setOperand 1 = .ok (.bipush 6, 2) := by decide +kernel
theorem dX3_setOperand_3 : decode cX3_setOperand 3 = .ok (.if_icmp .ne 22, 3) := by decide +kernel
theorem dX3_setOperand_6 : decode cX3_setOperand 6 = .ok (.aload_n 0, 1) := by decide +kernel
theorem dX3_setOperand_7 : decode cX3_setOperand 7 = .ok (.getfield 10, 3) := by decide +kernel
theorem dX3_setOperand_10 : decode cX3_setOperand 10 = .ok (.aload_n 0, 1) := by decide +kernel
theorem dX3_setOperand_11 : decode cX3_setOperand 11 = .ok (.getfield 27, 3) := by decide +kernel
theorem dX3_setOperand_14 : decode cX3_setOperand 14 = .ok (.iconst 3, 1) := by decide +kernel
theorem dX3_setOperand_15 : decode cX3_setOperand 15 = .ok (.invokevirtual 49, 3) := by decide +kernel
theorem dX3_setOperand_18 : decode cX3_setOperand 18 = .ok (.iload_n 2, 1) := by decide +kernel
theorem dX3_setOperand_19 : decode cX3_setOperand 19 = .ok (.invokevirtual 188, 3) := by decide +kernel
theorem dX3_setOperand_22 : decode cX3_setOperand 22 = .ok (.goto 12, 3) := by decide +kernel
theorem dX3_setOperand_25 : decode cX3_setOperand 25 = .ok (.aload_n 0, 1) := by decide +kernel
theorem dX3_setOperand_26 : decode cX3_setOperand 26 = .ok (.getfield 27, 3) := by decide +kernel
theorem dX3_setOperand_29 : decode cX3_setOperand 29 = .ok (.iload_n 1, 1) := by decide +kernel
theorem dX3_setOperand_30 : decode cX3_setOperand 30 = .ok (.iload_n 2, 1) := by decide +kernel
theorem dX3_setOperand_31 : decode cX3_setOperand 31 = .ok (.invokevirtual 227, 3) := by decide +kernel
theorem dX3_setOperand_34 : decode cX3_setOperand 34 = .ok (.return_, 1) := by decide +kernel
end
section
theorem dX4_init_0 : decode cX4_init 0 = .ok (.aload_n 0, 1) := by decide +kernel
theorem dX4_init_1 : decode cX4_init 1 = .ok (.invokespecial 1, 3) := by decide +kernel
theorem dX4_init_4 : decode cX4_init 4 = .ok (.aload_n 0, 1) := by decide +kernel
theorem dX4_init_5 : decode cX4_init 5 = .ok (.ldc 7, 2) := by decide +kernel
theorem dX4_init_7 : decode cX4_init 7 = .ok (.newarray .byte, 2) := by decide +kernel
theorem dX4_init_9 : decode cX4_init 9 = .ok (.putfield 8, 3) := by decide +kernel
theorem dX4_init_12 : decode cX4_init 12 = .ok (.aload_n 0, 1) := by decide +kernel
theorem dX4_init_13 : decode cX4_init 13 = .ok (.bipush 8, 2) := by decide +kernel
theorem dX4_init_15 : decode cX4_init 15 = .ok (.newarray .int, 2) := by decide +kernel
theorem dX4_init_17 : decode cX4_init 17 = .ok (.putfield 14, 3) := by decide +kernel
theorem dX4_init_20 : decode cX4_init 20 = .ok (.return_, 1) := by decide +kernel
theorem dX4_at_0 : decode cX4_at 0 = .ok (.aload_n 0, 1) := by decide +kernel
theorem dX4_at_1 : decode cX4_at 1 = .ok (.getfield 8, 3) := by decide +kernel
theorem dX4_at_4 : decode cX4_at 4 = .ok (.iload_n 1, 1) := by decide +kernel
theorem dX4_at_5 : decode cX4_at 5 = .ok (.ldc 22, 2) := by decide +kernel
theorem dX4_at_7 : decode cX4_at 7 = .ok (.iand, 1) := by decide +kernel
theorem dX4_at_8 : decode cX4_at 8 = .ok (.baload, 1) := by decide +kernel
theorem dX4_at_9 : decode cX4_at 9 = .ok (.sipush 255, 3) := by decide +kernel
theorem dX4_at_12 : decode cX4_at 12 = .ok (.iand, 1) := by decide +kernel
theorem dX4_at_13 : decode cX4_at 13 = .ok (.ireturn, 1) := by decide +kernel
theorem dX4_puts_0 : decode cX4_puts 0 = .ok (.aload_n 0, 1) := by decide +kernel
theorem dX4_puts_1 : decode cX4_puts 1 = .ok (.getfield 8, 3) := by decide +kernel
theorem dX4_puts_4 : decode cX4_puts 4 = .ok (.iload_n 1, 1) := by decide +kernel
theorem dX4_puts_5 : decode cX4_puts 5 = .ok (.ldc 22, 2) := by decide +kernel
theorem dX4_puts_7 : decode cX4_puts 7 = .ok (.iand, 1) := by decide +kernel
theorem dX4_puts_8 : decode cX4_puts 8 = .ok (.iload_n 2, 1) := by decide +kernel
theorem dX4_puts_9 : decode cX4_puts 9 = .ok (.i2b, 1) := by decide +kernel
theorem dX4_puts_10 : decode cX4_puts 10 = .ok (.bastore, 1) := by decide +kernel
theorem dX4_puts_11 : decode cX4_puts 11 = .ok (.return_, 1) := by decide +kernel
theorem dX4_reads_0 : decode cX4_reads 0 = .ok (.aload_n 0, 1) := by decide +kernel
theorem dX4_reads_1 : decode cX4_reads 1 = .ok (.dup, 1) := by decide +kernel
theorem dX4_reads_2 : decode cX4_reads 2 = .ok (.getfield 23, 3) := by decide +kernel
theorem dX4_reads_5 : decode cX4_reads 5 = .ok (.iconst 1, 1) := by decide +kernel
theorem dX4_reads_6 : decode cX4_reads 6 = .ok (.iadd, 1) := by decide +kernel
theorem dX4_reads_7 : decode cX4_reads 7 = .ok (.putfield 23, 3) := by decide +kernel
theorem dX4_reads_10 : decode cX4_reads 10 = .ok (.aload_n 0, 1) := by decide +kernel
theorem dX4_reads_11 : decode cX4_reads 11 = .ok (.iload_n 1, 1) := by decide +kernel
theorem dX4_reads_12 : decode cX4_reads 12 = .ok (.invokevirtual 26, 3) := by decide +kernel
theorem dX4_reads_15 : decode cX4_reads 15 = .ok (.ireturn, 1) := by decide +kernel
theorem dX4_writes_0 : decode cX4_writes 0 = .ok (.aload_n 0, 1) := by decide +kernel
theorem dX4_writes_1 : decode cX4_writes 1 = .ok (.dup, 1) := by decide +kernel
theorem dX4_writes_2 : decode cX4_writes 2 = .ok (.getfield 23, 3) := by decide +kernel
theorem dX4_writes_5 : decode cX4_writes 5 = .ok (.iconst 1, 1) := by decide +kernel
theorem dX4_writes_6 : decode cX4_writes 6 = .ok (.iadd, 1) := by decide +kernel
theorem dX4_writes_7 : decode cX4_writes 7 = .ok (.putfield 23, 3) := by decide +kernel
theorem dX4_writes_10 : decode cX4_writes 10 = .ok (.iload_n 1, 1) := by decide +kernel
theorem dX4_writes_11 : decode cX4_writes 11 = .ok (.ldc 22, 2) := by decide +kernel
theorem dX4_writes_13 : decode cX4_writes 13 = .ok (.iand, 1) := by decide +kernel
theorem dX4_writes_14 : decode cX4_writes 14 = .ok (.ldc 30, 2) := by decide +kernel
theorem dX4_writes_16 : decode cX4_writes 16 = .ok (.if_icmp .ne 18, 3) := by decide +kernel
theorem dX4_writes_19 : decode cX4_writes 19 = .ok (.aload_n 0, 1) := by decide +kernel
theorem dX4_writes_20 : decode cX4_writes 20 = .ok (.ldc 30, 2) := by decide +kernel
theorem dX4_writes_22 : decode cX4_writes 22 = .ok (.iconst 0, 1) := by decide +kernel
theorem dX4_writes_23 : decode cX4_writes 23 = .ok (.invokevirtual 31, 3) := by decide +kernel
theorem dX4_writes_26 : decode cX4_writes 26 = .ok (.aload_n 0, 1) := by decide +kernel
theorem dX4_writes_27 : decode cX4_writes 27 = .ok (.iconst 0, 1) := by decide +kernel
theorem dX4_writes_28 : decode cX4_writes 28 = .ok (.putfield 35, 3) := by decide +kernel
theorem dX4_writes_31 : decode cX4_writes 31 = .ok (.goto 9, 3) := by decide +kernel
theorem dX4_writes_34 : decode cX4_writes 34 = .ok (.aload_n 0, 1) := by decide +kernel
theorem dX4_writes_35 : decode cX4_writes 35 = .ok (.iload_n 1, 1) := by decide +kernel
theorem dX4_writes_36 : decode cX4_writes 36 = .ok (.iload_n 2, 1) := by decide +kernel
theorem dX4_writes_37 : decode cX4_writes 37 = .ok (.invokevirtual 31, 3) := by decide +kernel
theorem dX4_writes_40 : decode cX4_writes 40 = .ok (.return_, 1) := by decide +kernel
theorem dX4_fetch_0 : decode cX4_fetch 0 = .ok (.aload_n 0, 1) := by decide +kernel
theorem dX4_fetch_1 : decode cX4_fetch 1 = .ok (.aload_n 0, 1) := by decide +kernel
theorem dX4_fetch_2 : decode cX4_fetch 2 = .ok (.getfield 38, 3) := by decide +kernel
theorem dX4_fetch_5 : decode cX4_fetch 5 = .ok (.invokevirtual 41, 3) := by decide +kernel
theorem dX4_fetch_8 : decode cX4_fetch 8 = .ok (.istore_n 1, 1) := by decide +kernel
theorem dX4_fetch_9 : decode cX4_fetch 9 = .ok (.aload_n 0, 1) := by decide +kernel
theorem dX4_fetch_10 : decode cX4_fetch 10 = .ok (.aload_n 0, 1) := by decide +kernel
theorem dX4_fetch_11 : decode cX4_fetch 11 = .ok (.getfield 38, 3) := by decide +kernel
theorem dX4_fetch_14 : decode cX4_fetch 14 = .ok (.iconst 1, 1) := by decide +kernel
theorem dX4_fetch_15 : decode cX4_fetch 15 = .ok (.iadd, 1) := by decide +kernel
theorem dX4_fetch_16 : decode cX4_fetch 16 = .ok (.ldc 22, 2) := by decide +kernel
theorem dX4_fetch_18 : decode cX4_fetch 18 = .ok (.iand, 1) := by decide +kernel
theorem dX4_fetch_19 : decode cX4_fetch 19 = .ok (.putfield 38, 3) := by decide +kernel
theorem dX4_fetch_22 : decode cX4_fetch 22 = .ok (.iload_n 1, 1) := by decide +kernel
theorem dX4_fetch_23 : decode cX4_fetch 23 = .ok (.ireturn, 1) := by decide +kernel
theorem dX4_fetchWord_0 : decode cX4_fetchWord 0 = .ok (.aload_n 0, 1) := by decide +kernel
theorem dX4_fetchWord_1 : decode cX4_fetchWord 1 = .ok (.invokevirtual 44, 3) := by decide +kernel
theorem dX4_fetchWord_4 : decode cX4_fetchWord 4 = .ok (.istore_n 1, 1) := by decide +kernel
theorem dX4_fetchWord_5 : decode cX4_fetchWord 5 = .ok (.iload_n 1, 1) := by decide +kernel
theorem dX4_fetchWord_6 : decode cX4_fetchWord 6 = .ok (.aload_n 0, 1) := by decide +kernel
theorem dX4_fetchWord_7 : decode cX4_fetchWord 7 = .ok (.invokevirtual 44, 3) := by decide +kernel
theorem dX4_fetchWord_10 : decode cX4_fetchWord 10 = .ok (.bipush 8, 2) := by decide +kernel
theorem dX4_fetchWord_12 : decode cX4_fetchWord 12 = .ok (.ishl, 1) := by decide +kernel
theorem dX4_fetchWord_13 : decode cX4_fetchWord 13 = .ok (.ior, 1) := by decide +kernel
theorem dX4_fetchWord_14 : decode cX4_fetchWord 14 = .ok (.ireturn, 1) := by decide +kernel
theorem dX4_push_0 : decode cX4_push 0 = .ok (.aload_n 0, 1) := by decide +kernel
theorem dX4_push_1 : decode cX4_push 1 = .ok (.aload_n 0, 1) := by decide +kernel
theorem dX4_push_2 : decode cX4_push 2 = .ok (.getfield 48, 3) := by decide +kernel
theorem dX4_push_5 : decode cX4_push 5 = .ok (.iconst 1, 1) := by decide +kernel
theorem dX4_push_6 : decode cX4_push 6 = .ok (.isub, 1) := by decide +kernel
theorem dX4_push_7 : decode cX4_push 7 = .ok (.ldc 22, 2) := by decide +kernel
theorem dX4_push_9 : decode cX4_push 9 = .ok (.iand, 1) := by decide +kernel
theorem dX4_push_10 : decode cX4_push 10 = .ok (.putfield 48, 3) := by decide +kernel
theorem dX4_push_13 : decode cX4_push 13 = .ok (.aload_n 0, 1) := by decide +kernel
theorem dX4_push_14 : decode cX4_push 14 = .ok (.aload_n 0, 1) := by decide +kernel
theorem dX4_push_15 : decode cX4_push 15 = .ok (.getfield 48, 3) := by decide +kernel
theorem dX4_push_18 : decode cX4_push 18 = .ok (.iload_n 1, 1) := by decide +kernel
theorem dX4_push_19 : decode cX4_push 19 = .ok (.bipush 8, 2) := by decide +kernel
theorem dX4_push_21 : decode cX4_push 21 = .ok (.ishr, 1) := by decide +kernel
theorem dX4_push_22 : decode cX4_push 22 = .ok (.sipush 255, 3) := by decide +kernel
theorem dX4_push_25 : decode cX4_push 25 = .ok (.iand, 1) := by decide +kernel
theorem dX4_push_26 : decode cX4_push 26 = .ok (.invokevirtual 51, 3) := by decide +kernel
theorem dX4_push_29 : decode cX4_push 29 = .ok (.aload_n 0, 1) := by decide +kernel
theorem dX4_push_30 : decode cX4_push 30 = .ok (.aload_n 0, 1) := by decide +kernel
theorem dX4_push_31 : decode cX4_push 31 = .ok (.getfield 48, 3) := by decide +kernel
theorem dX4_push_34 : decode cX4_push 34 = .ok (.iconst 1, 1) := by decide +kernel
theorem dX4_push_35 : decode cX4_push 35 = .ok (.isub, 1) := by decide +kernel
theorem dX4_push_36 : decode cX4_push 36 = .ok (.ldc 22, 2) := by decide +kernel
theorem dX4_push_38 : decode cX4_push 38 = .ok (.iand, 1) := by decide +kernel
theorem dX4_push_39 : decode cX4_push 39 = .ok (.putfield 48, 3) := by decide +kernel
theorem dX4_push_42 : decode cX4_push 42 = .ok (.aload_n 0, 1) := by decide +kernel
theorem dX4_push_43 : decode cX4_push 43 = .ok (.aload_n 0, 1) := by decide +kernel
theorem dX4_push_44 : decode cX4_push 44 = .ok (.getfield 48, 3) := by decide +kernel
theorem dX4_push_47 : decode cX4_push 47 = .ok (.iload_n 1, 1) := by decide +kernel
theorem dX4_push_48 : decode cX4_push 48 = .ok (.sipush 255, 3) := by decide +kernel
theorem dX4_push_51 : decode cX4_push 51 = .ok (.iand, 1) := by decide +kernel
theorem dX4_push_52 : decode cX4_push 52 = .ok (.invokevirtual 51, 3) := by decide +kernel
theorem dX4_push_55 : decode cX4_push 55 = .ok (.return_, 1) := by decide +kernel
theorem dX4_pop_0 : decode cX4_pop 0 = .ok (.aload_n 0, 1) := by decide +kernel
theorem dX4_pop_1 : decode cX4_pop 1 = .ok (.aload_n 0, 1) := by decide +kernel
theorem dX4_pop_2 : decode cX4_pop 2 = .ok (.getfield 48, 3) := by decide +kernel
theorem dX4_pop_5 : decode cX4_pop 5 = .ok (.invokevirtual 41, 3) := by decide +kernel
theorem dX4_pop_8 : decode cX4_pop 8 = .ok (.istore_n 1, 1) := by decide +kernel
theorem dX4_pop_9 : decode cX4_pop 9 = .ok (.aload_n 0, 1) := by decide +kernel
theorem dX4_pop_10 : decode cX4_pop 10 = .ok (.aload_n 0, 1) := by decide +kernel
theorem dX4_pop_11 : decode cX4_pop 11 = .ok (.getfield 48, 3) := by decide +kernel
theorem dX4_pop_14 : decode cX4_pop 14 = .ok (.iconst 1, 1) := by decide +kernel
theorem dX4_pop_15 : decode cX4_pop 15 = .ok (.iadd, 1) := by decide +kernel
theorem dX4_pop_16 : decode cX4_pop 16 = .ok (.invokevirtual 41, 3) := by decide +kernel
theorem dX4_pop_19 : decode cX4_pop 19 = .ok (.istore_n 2, 1) := by decide +kernel
theorem dX4_pop_20 : decode cX4_pop 20 = .ok (.aload_n 0, 1) := by decide +kernel
theorem dX4_pop_21 : decode cX4_pop 21 = .ok (.aload_n 0, 1) := by decide +kernel
theorem dX4_pop_22 : decode cX4_pop 22 = .ok (.getfield 48, 3) := by decide +kernel
theorem dX4_pop_25 : decode cX4_pop 25 = .ok (.iconst 2, 1) := by decide +kernel
theorem dX4_pop_26 : decode cX4_pop 26 = .ok (.iadd, 1) := by decide +kernel
theorem dX4_pop_27 : decode cX4_pop 27 = .ok (.ldc 22, 2) := by decide +kernel
theorem dX4_pop_29 : decode cX4_pop 29 = .ok (.iand, 1) := by decide +kernel
theorem dX4_pop_30 : decode cX4_pop 30 = .ok (.putfield 48, 3) := by decide +kernel
theorem dX4_pop_33 : decode cX4_pop 33 = .ok (.iload_n 1, 1) := by decide +kernel
theorem dX4_pop_34 : decode cX4_pop 34 = .ok (.iload_n 2, 1) := by decide +kernel
theorem dX4_pop_35 : decode cX4_pop 35 = .ok (.bipush 8, 2) := by decide +kernel
theorem dX4_pop_37 : decode cX4_pop 37 = .ok (.ishl, 1) := by decide +kernel
theorem dX4_pop_38 : decode cX4_pop 38 = .ok (.ior, 1) := by decide +kernel
theorem dX4_pop_39 : decode cX4_pop 39 = .ok (.ireturn, 1) := by decide +kernel
theorem dX4_hl_0 : decode cX4_hl 0 = .ok (.aload_n 0, 1) := by decide +kernel
theorem dX4_hl_1 : decode cX4_hl 1 = .ok (.getfield 14, 3) := by decide +kernel
theorem dX4_hl_4 : decode cX4_hl 4 = .ok (.iconst 4, 1) := by decide +kernel
theorem dX4_hl_5 : decode cX4_hl 5 = .ok (.iaload, 1) := by decide +kernel
theorem dX4_hl_6 : decode cX4_hl 6 = .ok (.bipush 8, 2) := by decide +kernel
theorem dX4_hl_8 : decode cX4_hl 8 = .ok (.ishl, 1) := by decide +kernel
theorem dX4_hl_9 : decode cX4_hl 9 = .ok (.aload_n 0, 1) := by decide +kernel
theorem dX4_hl_10 : decode cX4_hl 10 = .ok (.getfield 14, 3) := by decide +kernel
theorem dX4_hl_13 : decode cX4_hl 13 = .ok (.iconst 5, 1) := by decide +kernel
theorem dX4_hl_14 : decode cX4_hl 14 = .ok (.iaload, 1) := by decide +kernel
theorem dX4_hl_15 : decode cX4_hl 15 = .ok (.ior, 1) := by decide +kernel
theorem dX4_hl_16 : decode cX4_hl 16 = .ok (.ireturn, 1) := by decide +kernel
theorem dX4_setPair_0 : decode cX4_setPair 0 = .ok (.aload_n 0, 1) := by decide +kernel
theorem dX4_setPair_1 : decode cX4_setPair 1 = .ok (.getfield 14, 3) := by decide +kernel
theorem dX4_setPair_4 : decode cX4_setPair 4 = .ok (.iconst 2, 1) := by decide +kernel
theorem dX4_setPair_5 : decode cX4_setPair 5 = .ok (.iload_n 1, 1) := by decide +kernel
theorem dX4_setPair_6 : decode cX4_setPair 6 = .ok (.imul, 1) := by decide +kernel
theorem dX4_setPair_7 : decode cX4_setPair 7 = .ok (.iload_n 2, 1) := by decide +kernel
theorem dX4_setPair_8 : decode cX4_setPair 8 = .ok (.bipush 8, 2) := by decide +kernel
theorem dX4_setPair_10 : decode cX4_setPair 10 = .ok (.ishr, 1) := by decide +kernel
theorem dX4_setPair_11 : decode cX4_setPair 11 = .ok (.sipush 255, 3) := by decide +kernel
theorem dX4_setPair_14 : decode cX4_setPair 14 = .ok (.iand, 1) := by decide +kernel
theorem dX4_setPair_15 : decode cX4_setPair 15 = .ok (.iastore, 1) := by decide +kernel
theorem dX4_setPair_16 : decode cX4_setPair 16 = .ok (.aload_n 0, 1) := by decide +kernel
theorem dX4_setPair_17 : decode cX4_setPair 17 = .ok (.getfield 14, 3) := by decide +kernel
theorem dX4_setPair_20 : decode cX4_setPair 20 = .ok (.iconst 2, 1) := by decide +kernel
theorem dX4_setPair_21 : decode cX4_setPair 21 = .ok (.iload_n 1, 1) := by decide +kernel
theorem dX4_setPair_22 : decode cX4_setPair 22 = .ok (.imul, 1) := by decide +kernel
theorem dX4_setPair_23 : decode cX4_setPair 23 = .ok (.iconst 1, 1) := by decide +kernel
theorem dX4_setPair_24 : decode cX4_setPair 24 = .ok (.iadd, 1) := by decide +kernel
theorem dX4_setPair_25 : decode cX4_setPair 25 = .ok (.iload_n 2, 1) := by decide +kernel
theorem dX4_setPair_26 : decode cX4_setPair 26 = .ok (.sipush 255, 3) := by decide +kernel
theorem dX4_setPair_29 : decode cX4_setPair 29 = .ok (.iand, 1) := by decide +kernel
theorem dX4_setPair_30 : decode cX4_setPair 30 = .ok (.iastore, 1) := by decide +kernel
theorem dX4_setPair_31 : decode cX4_setPair 31 = .ok (.return_, 1) := by decide +kernel
theorem dX4_pair_0 : decode cX4_pair 0 = .ok (.aload_n 0, 1) := by decide +kernel
theorem dX4_pair_1 : decode cX4_pair 1 = .ok (.getfield 14, 3) := by decide +kernel
theorem dX4_pair_4 : decode cX4_pair 4 = .ok (.iconst 2, 1) := by decide +kernel
theorem dX4_pair_5 : decode cX4_pair 5 = .ok (.iload_n 1, 1) := by decide +kernel
theorem dX4_pair_6 : decode cX4_pair 6 = .ok (.imul, 1) := by decide +kernel
theorem dX4_pair_7 : decode cX4_pair 7 = .ok (.iaload, 1) := by decide +kernel
theorem dX4_pair_8 : decode cX4_pair 8 = .ok (.bipush 8, 2) := by decide +kernel
theorem dX4_pair_10 : decode cX4_pair 10 = .ok (.ishl, 1) := by decide +kernel
theorem dX4_pair_11 : decode cX4_pair 11 = .ok (.aload_n 0, 1) := by decide +kernel
theorem dX4_pair_12 : decode cX4_pair 12 = .ok (.getfield 14, 3) := by decide +kernel
theorem dX4_pair_15 : decode cX4_pair 15 = .ok (.iconst 2, 1) := by decide +kernel
theorem dX4_pair_16 : decode cX4_pair 16 = .ok (.iload_n 1, 1) := by decide +kernel
theorem dX4_pair_17 : decode cX4_pair 17 = .ok (.imul, 1) := by decide +kernel
theorem dX4_pair_18 : decode cX4_pair 18 = .ok (.iconst 1, 1) := by decide +kernel
theorem dX4_pair_19 : decode cX4_pair 19 = .ok (.iadd, 1) := by decide +kernel
theorem dX4_pair_20 : decode cX4_pair 20 = .ok (.iaload, 1) := by decide +kernel
theorem dX4_pair_21 : decode cX4_pair 21 = .ok (.ior, 1) := by decide +kernel
theorem dX4_pair_22 : decode cX4_pair 22 = .ok (.ireturn, 1) := by decide +kernel
theorem dX4_flags_0 : decode cX4_flags 0 = .ok (.aload_n 0, 1) := by decide +kernel
theorem dX4_flags_1 : decode cX4_flags 1 = .ok (.getfield 54, 3) := by decide +kernel
theorem dX4_flags_4 : decode cX4_flags 4 = .ok (.ifCond .eq 9, 3) := by decide +kernel
theorem dX4_flags_7 : decode cX4_flags 7 = .ok (.sipush 128, 3) := by decide +kernel
theorem dX4_flags_10 : decode cX4_flags 10 = .ok (.goto 4, 3) := by decide +kernel
theorem dX4_flags_13 : decode cX4_flags 13 = .ok (.iconst 0, 1) := by decide +kernel
theorem dX4_flags_14 : decode cX4_flags 14 = .ok (.aload_n 0, 1) := by decide +kernel
theorem dX4_flags_15 : decode cX4_flags 15 = .ok (.getfield 58, 3) := by decide +kernel
theorem dX4_flags_18 : decode cX4_flags 18 = .ok (.ifCond .eq 8, 3) := by decide +kernel
theorem dX4_flags_21 : decode cX4_flags 21 = .ok (.bipush 64, 2) := by decide +kernel
theorem dX4_flags_23 : decode cX4_flags 23 = .ok (.goto 4, 3) := by decide +kernel
theorem dX4_flags_26 : decode cX4_flags 26 = .ok (.iconst 0, 1) := by decide +kernel
theorem dX4_flags_27 : decode cX4_flags 27 = .ok (.ior, 1) := by decide +kernel
theorem dX4_flags_28 : decode cX4_flags 28 = .ok (.aload_n 0, 1) := by decide +kernel
theorem dX4_flags_29 : decode cX4_flags 29 = .ok (.getfield 61, 3) := by decide +kernel
theorem dX4_flags_32 : decode cX4_flags 32 = .ok (.ifCond .eq 8, 3) := by decide +kernel
theorem dX4_flags_35 : decode cX4_flags 35 = .ok (.bipush 32, 2) := by decide +kernel
theorem dX4_flags_37 : decode cX4_flags 37 = .ok (.goto 4, 3) := by decide +kernel
theorem dX4_flags_40 : decode cX4_flags 40 = .ok (.iconst 0, 1) := by decide +kernel
theorem dX4_flags_41 : decode cX4_flags 41 = .ok (.ior, 1) := by decide +kernel
theorem dX4_flags_42 : decode cX4_flags 42 = .ok (.aload_n 0, 1) := by decide +kernel
theorem dX4_flags_43 : decode cX4_flags 43 = .ok (.getfield 64, 3) := by decide +kernel
theorem dX4_flags_46 : decode cX4_flags 46 = .ok (.ifCond .eq 8, 3) := by decide +kernel
theorem dX4_flags_49 : decode cX4_flags 49 = .ok (.bipush 16, 2) := by decide +kernel
theorem dX4_flags_51 : decode cX4_flags 51 = .ok (.goto 4, 3) := by decide +kernel
theorem dX4_flags_54 : decode cX4_flags 54 = .ok (.iconst 0, 1) := by decide +kernel
theorem dX4_flags_55 : decode cX4_flags 55 = .ok (.ior, 1) := by decide +kernel
theorem dX4_flags_56 : decode cX4_flags 56 = .ok (.ireturn, 1) := by decide +kernel
theorem dX4_setFlags_0 : decode cX4_setFlags 0 = .ok (.aload_n 0, 1) := by decide +kernel
theorem dX4_setFlags_1 : decode cX4_setFlags 1 = .ok (.iload_n 1, 1) := by decide +kernel
theorem dX4_setFlags_2 : decode cX4_setFlags 2 = .ok (.sipush 128, 3) := by decide +kernel
theorem dX4_setFlags_5 : decode cX4_setFlags 5 = .ok (.iand, 1) := by decide +kernel
theorem dX4_setFlags_6 : decode cX4_setFlags 6 = .ok (.ifCond .eq 7, 3) := by decide +kernel
theorem dX4_setFlags_9 : decode cX4_setFlags 9 = .ok (.iconst 1, 1) := by decide +kernel
theorem dX4_setFlags_10 : decode cX4_setFlags 10 = .ok (.goto 4, 3) := by decide +kernel
theorem dX4_setFlags_13 : decode cX4_setFlags 13 = .ok (.iconst 0, 1) := by decide +kernel
theorem dX4_setFlags_14 : decode cX4_setFlags 14 = .ok (.putfield 54, 3) := by decide +kernel
theorem dX4_setFlags_17 : decode cX4_setFlags 17 = .ok (.aload_n 0, 1) := by decide +kernel
theorem dX4_setFlags_18 : decode cX4_setFlags 18 = .ok (.iload_n 1, 1) := by decide +kernel
theorem dX4_setFlags_19 : decode cX4_setFlags 19 = .ok (.bipush 64, 2) := by decide +kernel
theorem dX4_setFlags_21 : decode cX4_setFlags 21 = .ok (.iand, 1) := by decide +kernel
theorem dX4_setFlags_22 : decode cX4_setFlags 22 = .ok (.ifCond .eq 7, 3) := by decide +kernel
theorem dX4_setFlags_25 : decode cX4_setFlags 25 = .ok (.iconst 1, 1) := by decide +kernel
theorem dX4_setFlags_26 : decode cX4_setFlags 26 = .ok (.goto 4, 3) := by decide +kernel
theorem dX4_setFlags_29 : decode cX4_setFlags 29 = .ok (.iconst 0, 1) := by decide +kernel
theorem dX4_setFlags_30 : decode cX4_setFlags 30 = .ok (.putfield 58, 3) := by decide +kernel
theorem dX4_setFlags_33 : decode cX4_setFlags 33 = .ok (.aload_n 0, 1) := by decide +kernel
theorem dX4_setFlags_34 : decode cX4_setFlags 34 = .ok (.iload_n 1, 1) := by decide +kernel
theorem dX4_setFlags_35 : decode cX4_setFlags 35 = .ok (.bipush 32, 2) := by decide +kernel
theorem dX4_setFlags_37 : decode cX4_setFlags 37 = .ok (.iand, 1) := by decide +kernel
theorem dX4_setFlags_38 : decode cX4_setFlags 38 = .ok (.ifCond .eq 7, 3) := by decide +kernel
theorem dX4_setFlags_41 : decode cX4_setFlags 41 = .ok (.iconst 1, 1) := by decide +kernel
theorem dX4_setFlags_42 : decode cX4_setFlags 42 = .ok (.goto 4, 3) := by decide +kernel
theorem dX4_setFlags_45 : decode cX4_setFlags 45 = .ok (.iconst 0, 1) := by decide +kernel
theorem dX4_setFlags_46 : decode cX4_setFlags 46 = .ok (.putfield 61, 3) := by decide +kernel
theorem dX4_setFlags_49 : decode cX4_setFlags 49 = .ok (.aload_n 0, 1) := by decide +kernel
theorem dX4_setFlags_50 : decode cX4_setFlags 50 = .ok (.iload_n 1, 1) := by decide +kernel
theorem dX4_setFlags_51 : decode cX4_setFlags 51 = .ok (.bipush 16, 2) := by decide +kernel
theorem dX4_setFlags_53 : decode cX4_setFlags 53 = .ok (.iand, 1) := by decide +kernel
theorem dX4_setFlags_54 : decode cX4_setFlags 54 = .ok (.ifCond .eq 7, 3) := by decide +kernel
theorem dX4_setFlags_57 : decode cX4_setFlags 57 = .ok (.iconst 1, 1) := by decide +kernel
theorem dX4_setFlags_58 : decode cX4_setFlags 58 = .ok (.goto 4, 3) := by decide +kernel
theorem dX4_setFlags_61 : decode cX4_setFlags 61 = .ok (.iconst 0, 1) := by decide +kernel
theorem dX4_setFlags_62 : decode cX4_setFlags 62 = .ok (.putfield 64, 3) := by decide +kernel
theorem dX4_setFlags_65 : decode cX4_setFlags 65 = .ok (.return_, 1) := by decide +kernel
theorem dX4_flagsAre_0 : decode cX4_flagsAre 0 = .ok (.aload_n 0, 1) := by decide +kernel
theorem dX4_flagsAre_1 : decode cX4_flagsAre 1 = .ok (.iload_n 1, 1) := by decide +kernel
theorem dX4_flagsAre_2 : decode cX4_flagsAre 2 = .ok (.putfield 54, 3) := by decide +kernel
theorem dX4_flagsAre_5 : decode cX4_flagsAre 5 = .ok (.aload_n 0, 1) := by decide +kernel
theorem dX4_flagsAre_6 : decode cX4_flagsAre 6 = .ok (.iload_n 2, 1) := by decide +kernel
theorem dX4_flagsAre_7 : decode cX4_flagsAre 7 = .ok (.putfield 58, 3) := by decide +kernel
theorem dX4_flagsAre_10 : decode cX4_flagsAre 10 = .ok (.aload_n 0, 1) := by decide +kernel
theorem dX4_flagsAre_11 : decode cX4_flagsAre 11 = .ok (.iload_n 3, 1) := by decide +kernel
theorem dX4_flagsAre_12 : decode cX4_flagsAre 12 = .ok (.putfield 61, 3) := by decide +kernel
theorem dX4_flagsAre_15 : decode cX4_flagsAre 15 = .ok (.aload_n 0, 1) := by decide +kernel
theorem dX4_flagsAre_16 : decode cX4_flagsAre 16 = .ok (.iload 4, 2) := by decide +kernel
theorem dX4_flagsAre_18 : decode cX4_flagsAre 18 = .ok (.putfield 64, 3) := by decide +kernel
theorem dX4_flagsAre_21 : decode cX4_flagsAre 21 = .ok (.return_, 1) := by decide +kernel
theorem dX4_operand_0 : decode cX4_operand 0 = .ok (.iload_n 1, 1) := by decide +kernel
theorem dX4_operand_1 : decode cX4_operand 1 = .ok (.bipush 6, 2) := by decide +kernel
theorem dX4_operand_3 : decode cX4_operand 3 = .ok (.if_icmp .ne 14, 3) := by decide +kernel
theorem dX4_operand_6 : decode cX4_operand 6 = .ok (.aload_n 0, 1) := by decide +kernel
theorem dX4_operand_7 : decode cX4_operand 7 = .ok (.aload_n 0, 1) := by decide +kernel
theorem dX4_operand_8 : decode cX4_operand 8 = .ok (.invokevirtual 67, 3) := by decide +kernel
theorem dX4_operand_11 : decode cX4_operand 11 = .ok (.invokevirtual 41, 3) := by decide +kernel
theorem dX4_operand_14 : decode cX4_operand 14 = .ok (.goto 9, 3) := by decide +kernel
theorem dX4_operand_17 : decode cX4_operand 17 = .ok (.aload_n 0, 1) := by decide +kernel
theorem dX4_operand_18 : decode cX4_operand 18 = .ok (.getfield 14, 3) := by decide +kernel
theorem dX4_operand_21 : decode cX4_operand 21 = .ok (.iload_n 1, 1) := by decide +kernel
theorem dX4_operand_22 : decode cX4_operand 22 = .ok (.iaload, 1) := by decide +kernel
theorem dX4_operand_23 : decode cX4_operand 23 = .ok (.ireturn, 1) := by decide +kernel
theorem dX4_setOperand_0 : decode cX4_setOperand 0 = .ok (.iload_n 1, 1) := by decide +kernel
theorem dX4_setOperand_1 : decode cX4_setOperand 1 = .ok (.bipush 6, 2) := by decide +kernel
theorem dX4_setOperand_3 : decode cX4_setOperand 3 = .ok (.if_icmp .ne 19, 3) := by decide +kernel
theorem dX4_setOperand_6 : decode cX4_setOperand 6 = .ok (.aload_n 0, 1) := by decide +kernel
theorem dX4_setOperand_7 : decode cX4_setOperand 7 = .ok (.aload_n 0, 1) := by decide +kernel
theorem dX4_setOperand_8 : decode cX4_setOperand 8 = .ok (.invokevirtual 67, 3) := by decide +kernel
theorem dX4_setOperand_11 : decode cX4_setOperand 11 = .ok (.iload_n 2, 1) := by decide +kernel
theorem dX4_setOperand_12 : decode cX4_setOperand 12 = .ok (.sipush 255, 3) := by decide +kernel
theorem dX4_setOperand_15 : decode cX4_setOperand 15 = .ok (.iand, 1) := by decide +kernel
theorem dX4_setOperand_16 : decode cX4_setOperand 16 = .ok (.invokevirtual 51, 3) := by decide +kernel
theorem dX4_setOperand_19 : decode cX4_setOperand 19 = .ok (.goto 14, 3) := by decide +kernel
theorem dX4_setOperand_22 : decode cX4_setOperand 22 = .ok (.aload_n 0, 1) := by decide +kernel
theorem dX4_setOperand_23 : decode cX4_setOperand 23 = .ok (.getfield 14, 3) := by decide +kernel
theorem dX4_setOperand_26 : decode cX4_setOperand 26 = .ok (.iload_n 1, 1) := by decide +kernel
theorem dX4_setOperand_27 : decode cX4_setOperand 27 = .ok (.iload_n 2, 1) := by decide +kernel
theorem dX4_setOperand_28 : decode cX4_setOperand 28 = .ok (.sipush 255, 3) := by decide +kernel
theorem dX4_setOperand_31 : decode cX4_setOperand 31 = .ok (.iand, 1) := by decide +kernel
theorem dX4_setOperand_32 : decode cX4_setOperand 32 = .ok (.iastore, 1) := by decide +kernel
theorem dX4_setOperand_33 : decode cX4_setOperand 33 = .ok (.return_, 1) := by decide +kernel
theorem dX4_adds_0 : decode cX4_adds 0 = .ok (.aload_n 0, 1) := by decide +kernel
theorem dX4_adds_1 : decode cX4_adds 1 = .ok (.getfield 14, 3) := by decide +kernel
theorem dX4_adds_4 : decode cX4_adds 4 = .ok (.bipush 7, 2) := by decide +kernel
theorem dX4_adds_6 : decode cX4_adds 6 = .ok (.iaload, 1) := by decide +kernel
theorem dX4_adds_7 : decode cX4_adds 7 = .ok (.istore_n 3, 1) := by decide +kernel
theorem dX4_adds_8 : decode cX4_adds 8 = .ok (.iload_n 3, 1) := by decide +kernel
theorem dX4_adds_9 : decode cX4_adds 9 = .ok (.iload_n 1, 1) := by decide +kernel
theorem dX4_adds_10 : decode cX4_adds 10 = .ok (.iadd, 1) := by decide +kernel
theorem dX4_adds_11 : decode cX4_adds 11 = .ok (.iload_n 2, 1) := by decide +kernel
theorem dX4_adds_12 : decode cX4_adds 12 = .ok (.iadd, 1) := by decide +kernel
theorem dX4_adds_13 : decode cX4_adds 13 = .ok (.istore 4, 2) := by decide +kernel
theorem dX4_adds_15 : decode cX4_adds 15 = .ok (.aload_n 0, 1) := by decide +kernel
theorem dX4_adds_16 : decode cX4_adds 16 = .ok (.iload 4, 2) := by decide +kernel
theorem dX4_adds_18 : decode cX4_adds 18 = .ok (.sipush 255, 3) := by decide +kernel
theorem dX4_adds_21 : decode cX4_adds 21 = .ok (.iand, 1) := by decide +kernel
theorem dX4_adds_22 : decode cX4_adds 22 = .ok (.ifCond .ne 7, 3) := by decide +kernel
theorem dX4_adds_25 : decode cX4_adds 25 = .ok (.iconst 1, 1) := by decide +kernel
theorem dX4_adds_26 : decode cX4_adds 26 = .ok (.goto 4, 3) := by decide +kernel
theorem dX4_adds_29 : decode cX4_adds 29 = .ok (.iconst 0, 1) := by decide +kernel
theorem dX4_adds_30 : decode cX4_adds 30 = .ok (.iconst 0, 1) := by decide +kernel
theorem dX4_adds_31 : decode cX4_adds 31 = .ok (.iload_n 3, 1) := by decide +kernel
theorem dX4_adds_32 : decode cX4_adds 32 = .ok (.bipush 15, 2) := by decide +kernel
theorem dX4_adds_34 : decode cX4_adds 34 = .ok (.iand, 1) := by decide +kernel
theorem dX4_adds_35 : decode cX4_adds 35 = .ok (.iload_n 1, 1) := by decide +kernel
theorem dX4_adds_36 : decode cX4_adds 36 = .ok (.bipush 15, 2) := by decide +kernel
theorem dX4_adds_38 : decode cX4_adds 38 = .ok (.iand, 1) := by decide +kernel
theorem dX4_adds_39 : decode cX4_adds 39 = .ok (.iadd, 1) := by decide +kernel
theorem dX4_adds_40 : decode cX4_adds 40 = .ok (.iload_n 2, 1) := by decide +kernel
theorem dX4_adds_41 : decode cX4_adds 41 = .ok (.iadd, 1) := by decide +kernel
theorem dX4_adds_42 : decode cX4_adds 42 = .ok (.bipush 15, 2) := by decide +kernel
theorem dX4_adds_44 : decode cX4_adds 44 = .ok (.if_icmp .le 7, 3) := by decide +kernel
theorem dX4_adds_47 : decode cX4_adds 47 = .ok (.iconst 1, 1) := by decide +kernel
theorem dX4_adds_48 : decode cX4_adds 48 = .ok (.goto 4, 3) := by decide +kernel
theorem dX4_adds_51 : decode cX4_adds 51 = .ok (.iconst 0, 1) := by decide +kernel
theorem dX4_adds_52 : decode cX4_adds 52 = .ok (.iload 4, 2) := by decide +kernel
theorem dX4_adds_54 : decode cX4_adds 54 = .ok (.sipush 255, 3) := by decide +kernel
theorem dX4_adds_57 : decode cX4_adds 57 = .ok (.if_icmp .le 7, 3) := by decide +kernel
theorem dX4_adds_60 : decode cX4_adds 60 = .ok (.iconst 1, 1) := by decide +kernel
theorem dX4_adds_61 : decode cX4_adds 61 = .ok (.goto 4, 3) := by decide +kernel
theorem dX4_adds_64 : decode cX4_adds 64 = .ok (.iconst 0, 1) := by decide +kernel
theorem dX4_adds_65 : decode cX4_adds 65 = .ok (.invokevirtual 70, 3) := by decide +kernel
theorem dX4_adds_68 : decode cX4_adds 68 = .ok (.aload_n 0, 1) := by decide +kernel
theorem dX4_adds_69 : decode cX4_adds 69 = .ok (.getfield 14, 3) := by decide +kernel
theorem dX4_adds_72 : decode cX4_adds 72 = .ok (.bipush 7, 2) := by decide +kernel
theorem dX4_adds_74 : decode cX4_adds 74 = .ok (.iload 4, 2) := by decide +kernel
theorem dX4_adds_76 : decode cX4_adds 76 = .ok (.sipush 255, 3) := by decide +kernel
theorem dX4_adds_79 : decode cX4_adds 79 = .ok (.iand, 1) := by decide +kernel
theorem dX4_adds_80 : decode cX4_adds 80 = .ok (.iastore, 1) := by decide +kernel
theorem dX4_adds_81 : decode cX4_adds 81 = .ok (.return_, 1) := by decide +kernel
theorem dX4_less_0 : decode cX4_less 0 = .ok (.aload_n 0, 1) := by decide +kernel
theorem dX4_less_1 : decode cX4_less 1 = .ok (.getfield 14, 3) := by decide +kernel
theorem dX4_less_4 : decode cX4_less 4 = .ok (.bipush 7, 2) := by decide +kernel
theorem dX4_less_6 : decode cX4_less 6 = .ok (.iaload, 1) := by decide +kernel
theorem dX4_less_7 : decode cX4_less 7 = .ok (.istore_n 3, 1) := by decide +kernel
theorem dX4_less_8 : decode cX4_less 8 = .ok (.iload_n 3, 1) := by decide +kernel
theorem dX4_less_9 : decode cX4_less 9 = .ok (.iload_n 1, 1) := by decide +kernel
theorem dX4_less_10 : decode cX4_less 10 = .ok (.isub, 1) := by decide +kernel
theorem dX4_less_11 : decode cX4_less 11 = .ok (.iload_n 2, 1) := by decide +kernel
theorem dX4_less_12 : decode cX4_less 12 = .ok (.isub, 1) := by decide +kernel
theorem dX4_less_13 : decode cX4_less 13 = .ok (.istore 4, 2) := by decide +kernel
theorem dX4_less_15 : decode cX4_less 15 = .ok (.aload_n 0, 1) := by decide +kernel
theorem dX4_less_16 : decode cX4_less 16 = .ok (.iload 4, 2) := by decide +kernel
theorem dX4_less_18 : decode cX4_less 18 = .ok (.sipush 255, 3) := by decide +kernel
theorem dX4_less_21 : decode cX4_less 21 = .ok (.iand, 1) := by decide +kernel
theorem dX4_less_22 : decode cX4_less 22 = .ok (.ifCond .ne 7, 3) := by decide +kernel
theorem dX4_less_25 : decode cX4_less 25 = .ok (.iconst 1, 1) := by decide +kernel
theorem dX4_less_26 : decode cX4_less 26 = .ok (.goto 4, 3) := by decide +kernel
theorem dX4_less_29 : decode cX4_less 29 = .ok (.iconst 0, 1) := by decide +kernel
theorem dX4_less_30 : decode cX4_less 30 = .ok (.iconst 1, 1) := by decide +kernel
theorem dX4_less_31 : decode cX4_less 31 = .ok (.iload_n 3, 1) := by decide +kernel
theorem dX4_less_32 : decode cX4_less 32 = .ok (.bipush 15, 2) := by decide +kernel
theorem dX4_less_34 : decode cX4_less 34 = .ok (.iand, 1) := by decide +kernel
theorem dX4_less_35 : decode cX4_less 35 = .ok (.iload_n 1, 1) := by decide +kernel
theorem dX4_less_36 : decode cX4_less 36 = .ok (.bipush 15, 2) := by decide +kernel
theorem dX4_less_38 : decode cX4_less 38 = .ok (.iand, 1) := by decide +kernel
theorem dX4_less_39 : decode cX4_less 39 = .ok (.isub, 1) := by decide +kernel
theorem dX4_less_40 : decode cX4_less 40 = .ok (.iload_n 2, 1) := by decide +kernel
theorem dX4_less_41 : decode cX4_less 41 = .ok (.isub, 1) := by decide +kernel
theorem dX4_less_42 : decode cX4_less 42 = .ok (.ifCond .ge 7, 3) := by decide +kernel
theorem dX4_less_45 : decode cX4_less 45 = .ok (.iconst 1, 1) := by decide +kernel
theorem dX4_less_46 : decode cX4_less 46 = .ok (.goto 4, 3) := by decide +kernel
theorem dX4_less_49 : decode cX4_less 49 = .ok (.iconst 0, 1) := by decide +kernel
theorem dX4_less_50 : decode cX4_less 50 = .ok (.iload 4, 2) := by decide +kernel
theorem dX4_less_52 : decode cX4_less 52 = .ok (.ifCond .ge 7, 3) := by decide +kernel
theorem dX4_less_55 : decode cX4_less 55 = .ok (.iconst 1, 1) := by decide +kernel
theorem dX4_less_56 : decode cX4_less 56 = .ok (.goto 4, 3) := by decide +kernel
theorem dX4_less_59 : decode cX4_less 59 = .ok (.iconst 0, 1) := by decide +kernel
theorem dX4_less_60 : decode cX4_less 60 = .ok (.invokevirtual 70, 3) := by decide +kernel
theorem dX4_less_63 : decode cX4_less 63 = .ok (.iload 4, 2) := by decide +kernel
theorem dX4_less_65 : decode cX4_less 65 = .ok (.sipush 255, 3) := by decide +kernel
theorem dX4_less_68 : decode cX4_less 68 = .ok (.iand, 1) := by decide +kernel
theorem dX4_less_69 : decode cX4_less 69 = .ok (.ireturn, 1) := by decide +kernel
theorem dX4_sums_0 : decode cX4_sums 0 = .ok (.aload_n 0, 1) := by decide +kernel
theorem dX4_sums_1 : decode cX4_sums 1 = .ok (.getfield 64, 3) := by decide +kernel
theorem dX4_sums_4 : decode cX4_sums 4 = .ok (.ifCond .eq 7, 3) := by decide +kernel
theorem dX4_sums_7 : decode cX4_sums 7 = .ok (.iconst 1, 1) := by decide +kernel
theorem dX4_sums_8 : decode cX4_sums 8 = .ok (.goto 4, 3) := by decide +kernel
theorem dX4_sums_11 : decode cX4_sums 11 = .ok (.iconst 0, 1) := by decide +kernel
theorem dX4_sums_12 : decode cX4_sums 12 = .ok (.istore_n 3, 1) := by decide +kernel
theorem dX4_sums_13 : decode cX4_sums 13 = .ok (.iload_n 1, 1) := by decide +kernel
theorem dX4_sums_14 : decode cX4_sums 14 = .ok (.tableswitch 200 0 6 #[42, 51, 60, 76, 92, 128, 164], 42) := by decide +kernel
theorem dX4_sums_56 : decode cX4_sums 56 = .ok (.aload_n 0, 1) := by decide +kernel
theorem dX4_sums_57 : decode cX4_sums 57 = .ok (.iload_n 2, 1) := by decide +kernel
theorem dX4_sums_58 : decode cX4_sums 58 = .ok (.iconst 0, 1) := by decide +kernel
theorem dX4_sums_59 : decode cX4_sums 59 = .ok (.invokevirtual 74, 3) := by decide +kernel
theorem dX4_sums_62 : decode cX4_sums 62 = .ok (.goto 160, 3) := by decide +kernel
theorem dX4_sums_65 : decode cX4_sums 65 = .ok (.aload_n 0, 1) := by decide +kernel
theorem dX4_sums_66 : decode cX4_sums 66 = .ok (.iload_n 2, 1) := by decide +kernel
theorem dX4_sums_67 : decode cX4_sums 67 = .ok (.iload_n 3, 1) := by decide +kernel
theorem dX4_sums_68 : decode cX4_sums 68 = .ok (.invokevirtual 74, 3) := by decide +kernel
theorem dX4_sums_71 : decode cX4_sums 71 = .ok (.goto 151, 3) := by decide +kernel
theorem dX4_sums_74 : decode cX4_sums 74 = .ok (.aload_n 0, 1) := by decide +kernel
theorem dX4_sums_75 : decode cX4_sums 75 = .ok (.getfield 14, 3) := by decide +kernel
theorem dX4_sums_78 : decode cX4_sums 78 = .ok (.bipush 7, 2) := by decide +kernel
theorem dX4_sums_80 : decode cX4_sums 80 = .ok (.aload_n 0, 1) := by decide +kernel
theorem dX4_sums_81 : decode cX4_sums 81 = .ok (.iload_n 2, 1) := by decide +kernel
theorem dX4_sums_82 : decode cX4_sums 82 = .ok (.iconst 0, 1) := by decide +kernel
theorem dX4_sums_83 : decode cX4_sums 83 = .ok (.invokevirtual 77, 3) := by decide +kernel
theorem dX4_sums_86 : decode cX4_sums 86 = .ok (.iastore, 1) := by decide +kernel
theorem dX4_sums_87 : decode cX4_sums 87 = .ok (.goto 135, 3) := by decide +kernel
theorem dX4_sums_90 : decode cX4_sums 90 = .ok (.aload_n 0, 1) := by decide +kernel
theorem dX4_sums_91 : decode cX4_sums 91 = .ok (.getfield 14, 3) := by decide +kernel
theorem dX4_sums_94 : decode cX4_sums 94 = .ok (.bipush 7, 2) := by decide +kernel
theorem dX4_sums_96 : decode cX4_sums 96 = .ok (.aload_n 0, 1) := by decide +kernel
theorem dX4_sums_97 : decode cX4_sums 97 = .ok (.iload_n 2, 1) := by decide +kernel
theorem dX4_sums_98 : decode cX4_sums 98 = .ok (.iload_n 3, 1) := by decide +kernel
theorem dX4_sums_99 : decode cX4_sums 99 = .ok (.invokevirtual 77, 3) := by decide +kernel
theorem dX4_sums_102 : decode cX4_sums 102 = .ok (.iastore, 1) := by decide +kernel
theorem dX4_sums_103 : decode cX4_sums 103 = .ok (.goto 119, 3) := by decide +kernel
theorem dX4_sums_106 : decode cX4_sums 106 = .ok (.aload_n 0, 1) := by decide +kernel
theorem dX4_sums_107 : decode cX4_sums 107 = .ok (.getfield 14, 3) := by decide +kernel
theorem dX4_sums_110 : decode cX4_sums 110 = .ok (.bipush 7, 2) := by decide +kernel
theorem dX4_sums_112 : decode cX4_sums 112 = .ok (.dup2, 1) := by decide +kernel
theorem dX4_sums_113 : decode cX4_sums 113 = .ok (.iaload, 1) := by decide +kernel
theorem dX4_sums_114 : decode cX4_sums 114 = .ok (.iload_n 2, 1) := by decide +kernel
theorem dX4_sums_115 : decode cX4_sums 115 = .ok (.iand, 1) := by decide +kernel
theorem dX4_sums_116 : decode cX4_sums 116 = .ok (.iastore, 1) := by decide +kernel
theorem dX4_sums_117 : decode cX4_sums 117 = .ok (.aload_n 0, 1) := by decide +kernel
theorem dX4_sums_118 : decode cX4_sums 118 = .ok (.aload_n 0, 1) := by decide +kernel
theorem dX4_sums_119 : decode cX4_sums 119 = .ok (.getfield 14, 3) := by decide +kernel
theorem dX4_sums_122 : decode cX4_sums 122 = .ok (.bipush 7, 2) := by decide +kernel
theorem dX4_sums_124 : decode cX4_sums 124 = .ok (.iaload, 1) := by decide +kernel
theorem dX4_sums_125 : decode cX4_sums 125 = .ok (.ifCond .ne 7, 3) := by decide +kernel
theorem dX4_sums_128 : decode cX4_sums 128 = .ok (.iconst 1, 1) := by decide +kernel
theorem dX4_sums_129 : decode cX4_sums 129 = .ok (.goto 4, 3) := by decide +kernel
theorem dX4_sums_132 : decode cX4_sums 132 = .ok (.iconst 0, 1) := by decide +kernel
theorem dX4_sums_133 : decode cX4_sums 133 = .ok (.iconst 0, 1) := by decide +kernel
theorem dX4_sums_134 : decode cX4_sums 134 = .ok (.iconst 1, 1) := by decide +kernel
theorem dX4_sums_135 : decode cX4_sums 135 = .ok (.iconst 0, 1) := by decide +kernel
theorem dX4_sums_136 : decode cX4_sums 136 = .ok (.invokevirtual 70, 3) := by decide +kernel
theorem dX4_sums_139 : decode cX4_sums 139 = .ok (.goto 83, 3) := by decide +kernel
theorem dX4_sums_142 : decode cX4_sums 142 = .ok (.aload_n 0, 1) := by decide +kernel
theorem dX4_sums_143 : decode cX4_sums 143 = .ok (.getfield 14, 3) := by decide +kernel
theorem dX4_sums_146 : decode cX4_sums 146 = .ok (.bipush 7, 2) := by decide +kernel
theorem dX4_sums_148 : decode cX4_sums 148 = .ok (.dup2, 1) := by decide +kernel
theorem dX4_sums_149 : decode cX4_sums 149 = .ok (.iaload, 1) := by decide +kernel
theorem dX4_sums_150 : decode cX4_sums 150 = .ok (.iload_n 2, 1) := by decide +kernel
theorem dX4_sums_151 : decode cX4_sums 151 = .ok (.ixor, 1) := by decide +kernel
theorem dX4_sums_152 : decode cX4_sums 152 = .ok (.iastore, 1) := by decide +kernel
theorem dX4_sums_153 : decode cX4_sums 153 = .ok (.aload_n 0, 1) := by decide +kernel
theorem dX4_sums_154 : decode cX4_sums 154 = .ok (.aload_n 0, 1) := by decide +kernel
theorem dX4_sums_155 : decode cX4_sums 155 = .ok (.getfield 14, 3) := by decide +kernel
theorem dX4_sums_158 : decode cX4_sums 158 = .ok (.bipush 7, 2) := by decide +kernel
theorem dX4_sums_160 : decode cX4_sums 160 = .ok (.iaload, 1) := by decide +kernel
theorem dX4_sums_161 : decode cX4_sums 161 = .ok (.ifCond .ne 7, 3) := by decide +kernel
theorem dX4_sums_164 : decode cX4_sums 164 = .ok (.iconst 1, 1) := by decide +kernel
theorem dX4_sums_165 : decode cX4_sums 165 = .ok (.goto 4, 3) := by decide +kernel
theorem dX4_sums_168 : decode cX4_sums 168 = .ok (.iconst 0, 1) := by decide +kernel
theorem dX4_sums_169 : decode cX4_sums 169 = .ok (.iconst 0, 1) := by decide +kernel
theorem dX4_sums_170 : decode cX4_sums 170 = .ok (.iconst 0, 1) := by decide +kernel
theorem dX4_sums_171 : decode cX4_sums 171 = .ok (.iconst 0, 1) := by decide +kernel
theorem dX4_sums_172 : decode cX4_sums 172 = .ok (.invokevirtual 70, 3) := by decide +kernel
theorem dX4_sums_175 : decode cX4_sums 175 = .ok (.goto 47, 3) := by decide +kernel
theorem dX4_sums_178 : decode cX4_sums 178 = .ok (.aload_n 0, 1) := by decide +kernel
theorem dX4_sums_179 : decode cX4_sums 179 = .ok (.getfield 14, 3) := by decide +kernel
theorem dX4_sums_182 : decode cX4_sums 182 = .ok (.bipush 7, 2) := by decide +kernel
theorem dX4_sums_184 : decode cX4_sums 184 = .ok (.dup2, 1) := by decide +kernel
theorem dX4_sums_185 : decode cX4_sums 185 = .ok (.iaload, 1) := by decide +kernel
theorem dX4_sums_186 : decode cX4_sums 186 = .ok (.iload_n 2, 1) := by decide +kernel
theorem dX4_sums_187 : decode cX4_sums 187 = .ok (.ior, 1) := by decide +kernel
theorem dX4_sums_188 : decode cX4_sums 188 = .ok (.iastore, 1) := by decide +kernel
theorem dX4_sums_189 : decode cX4_sums 189 = .ok (.aload_n 0, 1) := by decide +kernel
theorem dX4_sums_190 : decode cX4_sums 190 = .ok (.aload_n 0, 1) := by decide +kernel
theorem dX4_sums_191 : decode cX4_sums 191 = .ok (.getfield 14, 3) := by decide +kernel
theorem dX4_sums_194 : decode cX4_sums 194 = .ok (.bipush 7, 2) := by decide +kernel
theorem dX4_sums_196 : decode cX4_sums 196 = .ok (.iaload, 1) := by decide +kernel
theorem dX4_sums_197 : decode cX4_sums 197 = .ok (.ifCond .ne 7, 3) := by decide +kernel
theorem dX4_sums_200 : decode cX4_sums 200 = .ok (.iconst 1, 1) := by decide +kernel
theorem dX4_sums_201 : decode cX4_sums 201 = .ok (.goto 4, 3) := by decide +kernel
theorem dX4_sums_204 : decode cX4_sums 204 = .ok (.iconst 0, 1) := by decide +kernel
theorem dX4_sums_205 : decode cX4_sums 205 = .ok (.iconst 0, 1) := by decide +kernel
theorem dX4_sums_206 : decode cX4_sums 206 = .ok (.iconst 0, 1) := by decide +kernel
theorem dX4_sums_207 : decode cX4_sums 207 = .ok (.iconst 0, 1) := by decide +kernel
theorem dX4_sums_208 : decode cX4_sums 208 = .ok (.invokevirtual 70, 3) := by decide +kernel
theorem dX4_sums_211 : decode cX4_sums 211 = .ok (.goto 11, 3) := by decide +kernel
theorem dX4_sums_214 : decode cX4_sums 214 = .ok (.aload_n 0, 1) := by decide +kernel
theorem dX4_sums_215 : decode cX4_sums 215 = .ok (.iload_n 2, 1) := by decide +kernel
theorem dX4_sums_216 : decode cX4_sums 216 = .ok (.iconst 0, 1) := by decide +kernel
theorem dX4_sums_217 : decode cX4_sums 217 = .ok (.invokevirtual 77, 3) := by decide +kernel
theorem dX4_sums_220 : decode cX4_sums 220 = .ok (.istore 4, 2) := by decide +kernel
theorem dX4_sums_222 : decode cX4_sums 222 = .ok (.return_, 1) := by decide +kernel
theorem dX4_increased_0 : decode cX4_increased 0 = .ok (.iload_n 1, 1) := by decide +kernel
theorem dX4_increased_1 : decode cX4_increased 1 = .ok (.iconst 1, 1) := by decide +kernel
theorem dX4_increased_2 : decode cX4_increased 2 = .ok (.iadd, 1) := by decide +kernel
theorem dX4_increased_3 : decode cX4_increased 3 = .ok (.sipush 255, 3) := by decide +kernel
theorem dX4_increased_6 : decode cX4_increased 6 = .ok (.iand, 1) := by decide +kernel
theorem dX4_increased_7 : decode cX4_increased 7 = .ok (.istore_n 2, 1) := by decide +kernel
theorem dX4_increased_8 : decode cX4_increased 8 = .ok (.aload_n 0, 1) := by decide +kernel
theorem dX4_increased_9 : decode cX4_increased 9 = .ok (.iload_n 2, 1) := by decide +kernel
theorem dX4_increased_10 : decode cX4_increased 10 = .ok (.ifCond .ne 7, 3) := by decide +kernel
theorem dX4_increased_13 : decode cX4_increased 13 = .ok (.iconst 1, 1) := by decide +kernel
theorem dX4_increased_14 : decode cX4_increased 14 = .ok (.goto 4, 3) := by decide +kernel
theorem dX4_increased_17 : decode cX4_increased 17 = .ok (.iconst 0, 1) := by decide +kernel
theorem dX4_increased_18 : decode cX4_increased 18 = .ok (.iconst 0, 1) := by decide +kernel
theorem dX4_increased_19 : decode cX4_increased 19 = .ok (.iload_n 2, 1) := by decide +kernel
theorem dX4_increased_20 : decode cX4_increased 20 = .ok (.bipush 16, 2) := by decide +kernel
theorem dX4_increased_22 : decode cX4_increased 22 = .ok (.irem, 1) := by decide +kernel
theorem dX4_increased_23 : decode cX4_increased 23 = .ok (.ifCond .ne 7, 3) := by decide +kernel
theorem dX4_increased_26 : decode cX4_increased 26 = .ok (.iconst 1, 1) := by decide +kernel
theorem dX4_increased_27 : decode cX4_increased 27 = .ok (.goto 4, 3) := by decide +kernel
theorem dX4_increased_30 : decode cX4_increased 30 = .ok (.iconst 0, 1) := by decide +kernel
theorem dX4_increased_31 : decode cX4_increased 31 = .ok (.aload_n 0, 1) := by decide +kernel
theorem dX4_increased_32 : decode cX4_increased 32 = .ok (.getfield 64, 3) := by decide +kernel
theorem dX4_increased_35 : decode cX4_increased 35 = .ok (.invokevirtual 70, 3) := by decide +kernel
theorem dX4_increased_38 : decode cX4_increased 38 = .ok (.iload_n 2, 1) := by decide +kernel
theorem dX4_increased_39 : decode cX4_increased 39 = .ok (.ireturn, 1) := by decide +kernel
theorem dX4_decreased_0 : decode cX4_decreased 0 = .ok (.iload_n 1, 1) := by decide +kernel
theorem dX4_decreased_1 : decode cX4_decreased 1 = .ok (.iconst 1, 1) := by decide +kernel
theorem dX4_decreased_2 : decode cX4_decreased 2 = .ok (.isub, 1) := by decide +kernel
theorem dX4_decreased_3 : decode cX4_decreased 3 = .ok (.sipush 255, 3) := by decide +kernel
theorem dX4_decreased_6 : decode cX4_decreased 6 = .ok (.iand, 1) := by decide +kernel
theorem dX4_decreased_7 : decode cX4_decreased 7 = .ok (.istore_n 2, 1) := by decide +kernel
theorem dX4_decreased_8 : decode cX4_decreased 8 = .ok (.aload_n 0, 1) := by decide +kernel
theorem dX4_decreased_9 : decode cX4_decreased 9 = .ok (.iload_n 2, 1) := by decide +kernel
theorem dX4_decreased_10 : decode cX4_decreased 10 = .ok (.ifCond .ne 7, 3) := by decide +kernel
theorem dX4_decreased_13 : decode cX4_decreased 13 = .ok (.iconst 1, 1) := by decide +kernel
theorem dX4_decreased_14 : decode cX4_decreased 14 = .ok (.goto 4, 3) := by decide +kernel
theorem dX4_decreased_17 : decode cX4_decreased 17 = .ok (.iconst 0, 1) := by decide +kernel
theorem dX4_decreased_18 : decode cX4_decreased 18 = .ok (.iconst 1, 1) := by decide +kernel
theorem dX4_decreased_19 : decode cX4_decreased 19 = .ok (.iload_n 2, 1) := by decide +kernel
theorem dX4_decreased_20 : decode cX4_decreased 20 = .ok (.bipush 16, 2) := by decide +kernel
theorem dX4_decreased_22 : decode cX4_decreased 22 = .ok (.irem, 1) := by decide +kernel
theorem dX4_decreased_23 : decode cX4_decreased 23 = .ok (.bipush 15, 2) := by decide +kernel
theorem dX4_decreased_25 : decode cX4_decreased 25 = .ok (.if_icmp .ne 7, 3) := by decide +kernel
theorem dX4_decreased_28 : decode cX4_decreased 28 = .ok (.iconst 1, 1) := by decide +kernel
theorem dX4_decreased_29 : decode cX4_decreased 29 = .ok (.goto 4, 3) := by decide +kernel
theorem dX4_decreased_32 : decode cX4_decreased 32 = .ok (.iconst 0, 1) := by decide +kernel
theorem dX4_decreased_33 : decode cX4_decreased 33 = .ok (.aload_n 0, 1) := by decide +kernel
theorem dX4_decreased_34 : decode cX4_decreased 34 = .ok (.getfield 64, 3) := by decide +kernel
theorem dX4_decreased_37 : decode cX4_decreased 37 = .ok (.invokevirtual 70, 3) := by decide +kernel
theorem dX4_decreased_40 : decode cX4_decreased 40 = .ok (.iload_n 2, 1) := by decide +kernel
theorem dX4_decreased_41 : decode cX4_decreased 41 = .ok (.ireturn, 1) := by decide +kernel
theorem dX4_turned_0 : decode cX4_turned 0 = .ok (.aload_n 0, 1) := by decide +kernel
theorem dX4_turned_1 : decode cX4_turned 1 = .ok (.getfield 64, 3) := by decide +kernel
theorem dX4_turned_4 : decode cX4_turned 4 = .ok (.ifCond .eq 7, 3) := by decide +kernel
theorem dX4_turned_7 : decode cX4_turned 7 = .ok (.iconst 1, 1) := by decide +kernel
theorem dX4_turned_8 : decode cX4_turned 8 = .ok (.goto 4, 3) := by decide +kernel
theorem dX4_turned_11 : decode cX4_turned 11 = .ok (.iconst 0, 1) := by decide +kernel
theorem dX4_turned_12 : decode cX4_turned 12 = .ok (.istore_n 3, 1) := by decide +kernel
theorem dX4_turned_13 : decode cX4_turned 13 = .ok (.iload_n 1, 1) := by decide +kernel
theorem dX4_turned_14 : decode cX4_turned 14 = .ok (.iconst 2, 1) := by decide +kernel
theorem dX4_turned_15 : decode cX4_turned 15 = .ok (.irem, 1) := by decide +kernel
theorem dX4_turned_16 : decode cX4_turned 16 = .ok (.ifCond .ne 17, 3) := by decide +kernel
theorem dX4_turned_19 : decode cX4_turned 19 = .ok (.iload_n 2, 1) := by decide +kernel
theorem dX4_turned_20 : decode cX4_turned 20 = .ok (.bipush 127, 2) := by decide +kernel
theorem dX4_turned_22 : decode cX4_turned 22 = .ok (.if_icmp .le 7, 3) := by decide +kernel
theorem dX4_turned_25 : decode cX4_turned 25 = .ok (.iconst 1, 1) := by decide +kernel
theorem dX4_turned_26 : decode cX4_turned 26 = .ok (.goto 19, 3) := by decide +kernel
theorem dX4_turned_29 : decode cX4_turned 29 = .ok (.iconst 0, 1) := by decide +kernel
theorem dX4_turned_30 : decode cX4_turned 30 = .ok (.goto 15, 3) := by decide +kernel
theorem dX4_turned_33 : decode cX4_turned 33 = .ok (.iload_n 2, 1) := by decide +kernel
theorem dX4_turned_34 : decode cX4_turned 34 = .ok (.iconst 2, 1) := by decide +kernel
theorem dX4_turned_35 : decode cX4_turned 35 = .ok (.irem, 1) := by decide +kernel
theorem dX4_turned_36 : decode cX4_turned 36 = .ok (.iconst 1, 1) := by decide +kernel
theorem dX4_turned_37 : decode cX4_turned 37 = .ok (.if_icmp .ne 7, 3) := by decide +kernel
theorem dX4_turned_40 : decode cX4_turned 40 = .ok (.iconst 1, 1) := by decide +kernel
theorem dX4_turned_41 : decode cX4_turned 41 = .ok (.goto 4, 3) := by decide +kernel
theorem dX4_turned_44 : decode cX4_turned 44 = .ok (.iconst 0, 1) := by decide +kernel
theorem dX4_turned_45 : decode cX4_turned 45 = .ok (.istore 5, 2) := by decide +kernel
theorem dX4_turned_47 : decode cX4_turned 47 = .ok (.iload_n 1, 1) := by decide +kernel
theorem dX4_turned_48 : decode cX4_turned 48 = .ok (.tableswitch 130 0 6 #[44, 57, 70, 80, 93, 101, 115], 44) := by decide +kernel
theorem dX4_turned_92 : decode cX4_turned 92 = .ok (.iload_n 2, 1) := by decide +kernel
theorem dX4_turned_93 : decode cX4_turned 93 = .ok (.iconst 1, 1) := by decide +kernel
theorem dX4_turned_94 : decode cX4_turned 94 = .ok (.ishl, 1) := by decide +kernel
theorem dX4_turned_95 : decode cX4_turned 95 = .ok (.iload_n 2, 1) := by decide +kernel
theorem dX4_turned_96 : decode cX4_turned 96 = .ok (.bipush 7, 2) := by decide +kernel
theorem dX4_turned_98 : decode cX4_turned 98 = .ok (.ishr, 1) := by decide +kernel
theorem dX4_turned_99 : decode cX4_turned 99 = .ok (.ior, 1) := by decide +kernel
theorem dX4_turned_100 : decode cX4_turned 100 = .ok (.istore 4, 2) := by decide +kernel
theorem dX4_turned_102 : decode cX4_turned 102 = .ok (.goto 81, 3) := by decide +kernel
theorem dX4_turned_105 : decode cX4_turned 105 = .ok (.iload_n 2, 1) := by decide +kernel
theorem dX4_turned_106 : decode cX4_turned 106 = .ok (.iconst 1, 1) := by decide +kernel
theorem dX4_turned_107 : decode cX4_turned 107 = .ok (.ishr, 1) := by decide +kernel
theorem dX4_turned_108 : decode cX4_turned 108 = .ok (.iload_n 2, 1) := by decide +kernel
theorem dX4_turned_109 : decode cX4_turned 109 = .ok (.bipush 7, 2) := by decide +kernel
theorem dX4_turned_111 : decode cX4_turned 111 = .ok (.ishl, 1) := by decide +kernel
theorem dX4_turned_112 : decode cX4_turned 112 = .ok (.ior, 1) := by decide +kernel
theorem dX4_turned_113 : decode cX4_turned 113 = .ok (.istore 4, 2) := by decide +kernel
theorem dX4_turned_115 : decode cX4_turned 115 = .ok (.goto 68, 3) := by decide +kernel
theorem dX4_turned_118 : decode cX4_turned 118 = .ok (.iload_n 2, 1) := by decide +kernel
theorem dX4_turned_119 : decode cX4_turned 119 = .ok (.iconst 1, 1) := by decide +kernel
theorem dX4_turned_120 : decode cX4_turned 120 = .ok (.ishl, 1) := by decide +kernel
theorem dX4_turned_121 : decode cX4_turned 121 = .ok (.iload_n 3, 1) := by decide +kernel
theorem dX4_turned_122 : decode cX4_turned 122 = .ok (.ior, 1) := by decide +kernel
theorem dX4_turned_123 : decode cX4_turned 123 = .ok (.istore 4, 2) := by decide +kernel
theorem dX4_turned_125 : decode cX4_turned 125 = .ok (.goto 58, 3) := by decide +kernel
theorem dX4_turned_128 : decode cX4_turned 128 = .ok (.iload_n 2, 1) := by decide +kernel
theorem dX4_turned_129 : decode cX4_turned 129 = .ok (.iconst 1, 1) := by decide +kernel
theorem dX4_turned_130 : decode cX4_turned 130 = .ok (.ishr, 1) := by decide +kernel
theorem dX4_turned_131 : decode cX4_turned 131 = .ok (.iload_n 3, 1) := by decide +kernel
theorem dX4_turned_132 : decode cX4_turned 132 = .ok (.bipush 7, 2) := by decide +kernel
theorem dX4_turned_134 : decode cX4_turned 134 = .ok (.ishl, 1) := by decide +kernel
theorem dX4_turned_135 : decode cX4_turned 135 = .ok (.ior, 1) := by decide +kernel
theorem dX4_turned_136 : decode cX4_turned 136 = .ok (.istore 4, 2) := by decide +kernel
theorem dX4_turned_138 : decode cX4_turned 138 = .ok (.goto 45, 3) := by decide +kernel
theorem dX4_turned_141 : decode cX4_turned 141 = .ok (.iload_n 2, 1) := by decide +kernel
theorem dX4_turned_142 : decode cX4_turned 142 = .ok (.iconst 1, 1) := by decide +kernel
theorem dX4_turned_143 : decode cX4_turned 143 = .ok (.ishl, 1) := by decide +kernel
theorem dX4_turned_144 : decode cX4_turned 144 = .ok (.istore 4, 2) := by decide +kernel
theorem dX4_turned_146 : decode cX4_turned 146 = .ok (.goto 37, 3) := by decide +kernel
theorem dX4_turned_149 : decode cX4_turned 149 = .ok (.iload_n 2, 1) := by decide +kernel
theorem dX4_turned_150 : decode cX4_turned 150 = .ok (.iconst 1, 1) := by decide +kernel
theorem dX4_turned_151 : decode cX4_turned 151 = .ok (.ishr, 1) := by decide +kernel
theorem dX4_turned_152 : decode cX4_turned 152 = .ok (.iload_n 2, 1) := by decide +kernel
theorem dX4_turned_153 : decode cX4_turned 153 = .ok (.sipush 128, 3) := by decide +kernel
theorem dX4_turned_156 : decode cX4_turned 156 = .ok (.iand, 1) := by decide +kernel
theorem dX4_turned_157 : decode cX4_turned 157 = .ok (.ior, 1) := by decide +kernel
theorem dX4_turned_158 : decode cX4_turned 158 = .ok (.istore 4, 2) := by decide +kernel
theorem dX4_turned_160 : decode cX4_turned 160 = .ok (.goto 23, 3) := by decide +kernel
theorem dX4_turned_163 : decode cX4_turned 163 = .ok (.iload_n 2, 1) := by decide +kernel
theorem dX4_turned_164 : decode cX4_turned 164 = .ok (.iconst 4, 1) := by decide +kernel
theorem dX4_turned_165 : decode cX4_turned 165 = .ok (.ishl, 1) := by decide +kernel
theorem dX4_turned_166 : decode cX4_turned 166 = .ok (.iload_n 2, 1) := by decide +kernel
theorem dX4_turned_167 : decode cX4_turned 167 = .ok (.iconst 4, 1) := by decide +kernel
theorem dX4_turned_168 : decode cX4_turned 168 = .ok (.ishr, 1) := by decide +kernel
theorem dX4_turned_169 : decode cX4_turned 169 = .ok (.ior, 1) := by decide +kernel
theorem dX4_turned_170 : decode cX4_turned 170 = .ok (.istore 4, 2) := by decide +kernel
theorem dX4_turned_172 : decode cX4_turned 172 = .ok (.iconst 0, 1) := by decide +kernel
theorem dX4_turned_173 : decode cX4_turned 173 = .ok (.istore 5, 2) := by decide +kernel
theorem dX4_turned_175 : decode cX4_turned 175 = .ok (.goto 8, 3) := by decide +kernel
theorem dX4_turned_178 : decode cX4_turned 178 = .ok (.iload_n 2, 1) := by decide +kernel
theorem dX4_turned_179 : decode cX4_turned 179 = .ok (.iconst 1, 1) := by decide +kernel
theorem dX4_turned_180 : decode cX4_turned 180 = .ok (.ishr, 1) := by decide +kernel
theorem dX4_turned_181 : decode cX4_turned 181 = .ok (.istore 4, 2) := by decide +kernel
theorem dX4_turned_183 : decode cX4_turned 183 = .ok (.iload 4, 2) := by decide +kernel
theorem dX4_turned_185 : decode cX4_turned 185 = .ok (.sipush 255, 3) := by decide +kernel
theorem dX4_turned_188 : decode cX4_turned 188 = .ok (.iand, 1) := by decide +kernel
theorem dX4_turned_189 : decode cX4_turned 189 = .ok (.istore 4, 2) := by decide +kernel
theorem dX4_turned_191 : decode cX4_turned 191 = .ok (.aload_n 0, 1) := by decide +kernel
theorem dX4_turned_192 : decode cX4_turned 192 = .ok (.iload 4, 2) := by decide +kernel
theorem dX4_turned_194 : decode cX4_turned 194 = .ok (.ifCond .ne 7, 3) := by decide +kernel
theorem dX4_turned_197 : decode cX4_turned 197 = .ok (.iconst 1, 1) := by decide +kernel
theorem dX4_turned_198 : decode cX4_turned 198 = .ok (.goto 4, 3) := by decide +kernel
theorem dX4_turned_201 : decode cX4_turned 201 = .ok (.iconst 0, 1) := by decide +kernel
theorem dX4_turned_202 : decode cX4_turned 202 = .ok (.iconst 0, 1) := by decide +kernel
theorem dX4_turned_203 : decode cX4_turned 203 = .ok (.iconst 0, 1) := by decide +kernel
theorem dX4_turned_204 : decode cX4_turned 204 = .ok (.iload 5, 2) := by decide +kernel
theorem dX4_turned_206 : decode cX4_turned 206 = .ok (.invokevirtual 70, 3) := by decide +kernel
theorem dX4_turned_209 : decode cX4_turned 209 = .ok (.iload 4, 2) := by decide +kernel
theorem dX4_turned_211 : decode cX4_turned 211 = .ok (.ireturn, 1) := by decide +kernel
theorem dX4_adjusts_0 : decode cX4_adjusts 0 = .ok (.aload_n 0, 1) := by decide +kernel
theorem dX4_adjusts_1 : decode cX4_adjusts 1 = .ok (.getfield 14, 3) := by decide +kernel
theorem dX4_adjusts_4 : decode cX4_adjusts 4 = .ok (.bipush 7, 2) := by decide +kernel
theorem dX4_adjusts_6 : decode cX4_adjusts 6 = .ok (.iaload, 1) := by decide +kernel
theorem dX4_adjusts_7 : decode cX4_adjusts 7 = .ok (.istore_n 1, 1) := by decide +kernel
theorem dX4_adjusts_8 : decode cX4_adjusts 8 = .ok (.iconst 0, 1) := by decide +kernel
theorem dX4_adjusts_9 : decode cX4_adjusts 9 = .ok (.istore_n 2, 1) := by decide +kernel
theorem dX4_adjusts_10 : decode cX4_adjusts 10 = .ok (.aload_n 0, 1) := by decide +kernel
theorem dX4_adjusts_11 : decode cX4_adjusts 11 = .ok (.getfield 64, 3) := by decide +kernel
theorem dX4_adjusts_14 : decode cX4_adjusts 14 = .ok (.istore_n 3, 1) := by decide +kernel
theorem dX4_adjusts_15 : decode cX4_adjusts 15 = .ok (.aload_n 0, 1) := by decide +kernel
theorem dX4_adjusts_16 : decode cX4_adjusts 16 = .ok (.getfield 61, 3) := by decide +kernel
theorem dX4_adjusts_19 : decode cX4_adjusts 19 = .ok (.ifCond .ne 19, 3) := by decide +kernel
theorem dX4_adjusts_22 : decode cX4_adjusts 22 = .ok (.aload_n 0, 1) := by decide +kernel
theorem dX4_adjusts_23 : decode cX4_adjusts 23 = .ok (.getfield 58, 3) := by decide +kernel
theorem dX4_adjusts_26 : decode cX4_adjusts 26 = .ok (.ifCond .ne 15, 3) := by decide +kernel
theorem dX4_adjusts_29 : decode cX4_adjusts 29 = .ok (.iload_n 1, 1) := by decide +kernel
theorem dX4_adjusts_30 : decode cX4_adjusts 30 = .ok (.bipush 16, 2) := by decide +kernel
theorem dX4_adjusts_32 : decode cX4_adjusts 32 = .ok (.irem, 1) := by decide +kernel
theorem dX4_adjusts_33 : decode cX4_adjusts 33 = .ok (.bipush 9, 2) := by decide +kernel
theorem dX4_adjusts_35 : decode cX4_adjusts 35 = .ok (.if_icmp .le 6, 3) := by decide +kernel
theorem dX4_adjusts_38 : decode cX4_adjusts 38 = .ok (.iinc 2 6, 3) := by decide +kernel
theorem dX4_adjusts_41 : decode cX4_adjusts 41 = .ok (.aload_n 0, 1) := by decide +kernel
theorem dX4_adjusts_42 : decode cX4_adjusts 42 = .ok (.getfield 64, 3) := by decide +kernel
theorem dX4_adjusts_45 : decode cX4_adjusts 45 = .ok (.ifCond .ne 17, 3) := by decide +kernel
theorem dX4_adjusts_48 : decode cX4_adjusts 48 = .ok (.aload_n 0, 1) := by decide +kernel
theorem dX4_adjusts_49 : decode cX4_adjusts 49 = .ok (.getfield 58, 3) := by decide +kernel
theorem dX4_adjusts_52 : decode cX4_adjusts 52 = .ok (.ifCond .ne 15, 3) := by decide +kernel
theorem dX4_adjusts_55 : decode cX4_adjusts 55 = .ok (.iload_n 1, 1) := by decide +kernel
theorem dX4_adjusts_56 : decode cX4_adjusts 56 = .ok (.sipush 153, 3) := by decide +kernel
theorem dX4_adjusts_59 : decode cX4_adjusts 59 = .ok (.if_icmp .le 8, 3) := by decide +kernel
theorem dX4_adjusts_62 : decode cX4_adjusts 62 = .ok (.iinc 2 96, 3) := by decide +kernel
theorem dX4_adjusts_65 : decode cX4_adjusts 65 = .ok (.iconst 1, 1) := by decide +kernel
theorem dX4_adjusts_66 : decode cX4_adjusts 66 = .ok (.istore_n 3, 1) := by decide +kernel
theorem dX4_adjusts_67 : decode cX4_adjusts 67 = .ok (.aload_n 0, 1) := by decide +kernel
theorem dX4_adjusts_68 : decode cX4_adjusts 68 = .ok (.getfield 58, 3) := by decide +kernel
theorem dX4_adjusts_71 : decode cX4_adjusts 71 = .ok (.ifCond .eq 9, 3) := by decide +kernel
theorem dX4_adjusts_74 : decode cX4_adjusts 74 = .ok (.iload_n 1, 1) := by decide +kernel
theorem dX4_adjusts_75 : decode cX4_adjusts 75 = .ok (.iload_n 2, 1) := by decide +kernel
theorem dX4_adjusts_76 : decode cX4_adjusts 76 = .ok (.isub, 1) := by decide +kernel
theorem dX4_adjusts_77 : decode cX4_adjusts 77 = .ok (.goto 6, 3) := by decide +kernel
theorem dX4_adjusts_80 : decode cX4_adjusts 80 = .ok (.iload_n 1, 1) := by decide +kernel
theorem dX4_adjusts_81 : decode cX4_adjusts 81 = .ok (.iload_n 2, 1) := by decide +kernel
theorem dX4_adjusts_82 : decode cX4_adjusts 82 = .ok (.iadd, 1) := by decide +kernel
theorem dX4_adjusts_83 : decode cX4_adjusts 83 = .ok (.sipush 255, 3) := by decide +kernel
theorem dX4_adjusts_86 : decode cX4_adjusts 86 = .ok (.iand, 1) := by decide +kernel
theorem dX4_adjusts_87 : decode cX4_adjusts 87 = .ok (.istore_n 1, 1) := by decide +kernel
theorem dX4_adjusts_88 : decode cX4_adjusts 88 = .ok (.aload_n 0, 1) := by decide +kernel
theorem dX4_adjusts_89 : decode cX4_adjusts 89 = .ok (.getfield 14, 3) := by decide +kernel
theorem dX4_adjusts_92 : decode cX4_adjusts 92 = .ok (.bipush 7, 2) := by decide +kernel
theorem dX4_adjusts_94 : decode cX4_adjusts 94 = .ok (.iload_n 1, 1) := by decide +kernel
theorem dX4_adjusts_95 : decode cX4_adjusts 95 = .ok (.iastore, 1) := by decide +kernel
theorem dX4_adjusts_96 : decode cX4_adjusts 96 = .ok (.aload_n 0, 1) := by decide +kernel
theorem dX4_adjusts_97 : decode cX4_adjusts 97 = .ok (.iload_n 1, 1) := by decide +kernel
theorem dX4_adjusts_98 : decode cX4_adjusts 98 = .ok (.ifCond .ne 7, 3) := by decide +kernel
theorem dX4_adjusts_101 : decode cX4_adjusts 101 = .ok (.iconst 1, 1) := by decide +kernel
theorem dX4_adjusts_102 : decode cX4_adjusts 102 = .ok (.goto 4, 3) := by decide +kernel
theorem dX4_adjusts_105 : decode cX4_adjusts 105 = .ok (.iconst 0, 1) := by decide +kernel
theorem dX4_adjusts_106 : decode cX4_adjusts 106 = .ok (.aload_n 0, 1) := by decide +kernel
theorem dX4_adjusts_107 : decode cX4_adjusts 107 = .ok (.getfield 58, 3) := by decide +kernel
theorem dX4_adjusts_110 : decode cX4_adjusts 110 = .ok (.iconst 0, 1) := by decide +kernel
theorem dX4_adjusts_111 : decode cX4_adjusts 111 = .ok (.aload_n 0, 1) := by decide +kernel
theorem dX4_adjusts_112 : decode cX4_adjusts 112 = .ok (.getfield 58, 3) := by decide +kernel
theorem dX4_adjusts_115 : decode cX4_adjusts 115 = .ok (.ifCond .eq 10, 3) := by decide +kernel
theorem dX4_adjusts_118 : decode cX4_adjusts 118 = .ok (.aload_n 0, 1) := by decide +kernel
theorem dX4_adjusts_119 : decode cX4_adjusts 119 = .ok (.getfield 64, 3) := by decide +kernel
theorem dX4_adjusts_122 : decode cX4_adjusts 122 = .ok (.goto 4, 3) := by decide +kernel
theorem dX4_adjusts_125 : decode cX4_adjusts 125 = .ok (.iload_n 3, 1) := by decide +kernel
theorem dX4_adjusts_126 : decode cX4_adjusts 126 = .ok (.invokevirtual 70, 3) := by decide +kernel
theorem dX4_adjusts_129 : decode cX4_adjusts 129 = .ok (.return_, 1) := by decide +kernel
theorem dX4_moved_0 : decode cX4_moved 0 = .ok (.aload_n 0, 1) := by decide +kernel
theorem dX4_moved_1 : decode cX4_moved 1 = .ok (.getfield 48, 3) := by decide +kernel
theorem dX4_moved_4 : decode cX4_moved 4 = .ok (.sipush 255, 3) := by decide +kernel
theorem dX4_moved_7 : decode cX4_moved 7 = .ok (.iand, 1) := by decide +kernel
theorem dX4_moved_8 : decode cX4_moved 8 = .ok (.istore_n 2, 1) := by decide +kernel
theorem dX4_moved_9 : decode cX4_moved 9 = .ok (.aload_n 0, 1) := by decide +kernel
theorem dX4_moved_10 : decode cX4_moved 10 = .ok (.iconst 0, 1) := by decide +kernel
theorem dX4_moved_11 : decode cX4_moved 11 = .ok (.iconst 0, 1) := by decide +kernel
theorem dX4_moved_12 : decode cX4_moved 12 = .ok (.iload_n 2, 1) := by decide +kernel
theorem dX4_moved_13 : decode cX4_moved 13 = .ok (.bipush 15, 2) := by decide +kernel
theorem dX4_moved_15 : decode cX4_moved 15 = .ok (.iand, 1) := by decide +kernel
theorem dX4_moved_16 : decode cX4_moved 16 = .ok (.iload_n 1, 1) := by decide +kernel
theorem dX4_moved_17 : decode cX4_moved 17 = .ok (.bipush 15, 2) := by decide +kernel
theorem dX4_moved_19 : decode cX4_moved 19 = .ok (.iand, 1) := by decide +kernel
theorem dX4_moved_20 : decode cX4_moved 20 = .ok (.iadd, 1) := by decide +kernel
theorem dX4_moved_21 : decode cX4_moved 21 = .ok (.bipush 15, 2) := by decide +kernel
theorem dX4_moved_23 : decode cX4_moved 23 = .ok (.if_icmp .le 7, 3) := by decide +kernel
theorem dX4_moved_26 : decode cX4_moved 26 = .ok (.iconst 1, 1) := by decide +kernel
theorem dX4_moved_27 : decode cX4_moved 27 = .ok (.goto 4, 3) := by decide +kernel
theorem dX4_moved_30 : decode cX4_moved 30 = .ok (.iconst 0, 1) := by decide +kernel
theorem dX4_moved_31 : decode cX4_moved 31 = .ok (.iload_n 2, 1) := by decide +kernel
theorem dX4_moved_32 : decode cX4_moved 32 = .ok (.iload_n 1, 1) := by decide +kernel
theorem dX4_moved_33 : decode cX4_moved 33 = .ok (.iadd, 1) := by decide +kernel
theorem dX4_moved_34 : decode cX4_moved 34 = .ok (.sipush 255, 3) := by decide +kernel
theorem dX4_moved_37 : decode cX4_moved 37 = .ok (.if_icmp .le 7, 3) := by decide +kernel
theorem dX4_moved_40 : decode cX4_moved 40 = .ok (.iconst 1, 1) := by decide +kernel
theorem dX4_moved_41 : decode cX4_moved 41 = .ok (.goto 4, 3) := by decide +kernel
theorem dX4_moved_44 : decode cX4_moved 44 = .ok (.iconst 0, 1) := by decide +kernel
theorem dX4_moved_45 : decode cX4_moved 45 = .ok (.invokevirtual 70, 3) := by decide +kernel
theorem dX4_moved_48 : decode cX4_moved 48 = .ok (.aload_n 0, 1) := by decide +kernel
theorem dX4_moved_49 : decode cX4_moved 49 = .ok (.getfield 48, 3) := by decide +kernel
theorem dX4_moved_52 : decode cX4_moved 52 = .ok (.iload_n 1, 1) := by decide +kernel
theorem dX4_moved_53 : decode cX4_moved 53 = .ok (.i2b, 1) := by decide +kernel
theorem dX4_moved_54 : decode cX4_moved 54 = .ok (.iadd, 1) := by decide +kernel
theorem dX4_moved_55 : decode cX4_moved 55 = .ok (.ldc 22, 2) := by decide +kernel
theorem dX4_moved_57 : decode cX4_moved 57 = .ok (.iand, 1) := by decide +kernel
theorem dX4_moved_58 : decode cX4_moved 58 = .ok (.ireturn, 1) := by decide +kernel
theorem dX4_holds_0 : decode cX4_holds 0 = .ok (.iload_n 1, 1) := by decide +kernel
theorem dX4_holds_1 : decode cX4_holds 1 = .ok (.ifCond .ne 18, 3) := by decide +kernel
theorem dX4_holds_4 : decode cX4_holds 4 = .ok (.aload_n 0, 1) := by decide +kernel
theorem dX4_holds_5 : decode cX4_holds 5 = .ok (.getfield 54, 3) := by decide +kernel
theorem dX4_holds_8 : decode cX4_holds 8 = .ok (.ifCond .ne 7, 3) := by decide +kernel
theorem dX4_holds_11 : decode cX4_holds 11 = .ok (.iconst 1, 1) := by decide +kernel
theorem dX4_holds_12 : decode cX4_holds 12 = .ok (.goto 43, 3) := by decide +kernel
theorem dX4_holds_15 : decode cX4_holds 15 = .ok (.iconst 0, 1) := by decide +kernel
theorem dX4_holds_16 : decode cX4_holds 16 = .ok (.goto 39, 3) := by decide +kernel
theorem dX4_holds_19 : decode cX4_holds 19 = .ok (.iload_n 1, 1) := by decide +kernel
theorem dX4_holds_20 : decode cX4_holds 20 = .ok (.iconst 1, 1) := by decide +kernel
theorem dX4_holds_21 : decode cX4_holds 21 = .ok (.if_icmp .ne 10, 3) := by decide +kernel
theorem dX4_holds_24 : decode cX4_holds 24 = .ok (.aload_n 0, 1) := by decide +kernel
theorem dX4_holds_25 : decode cX4_holds 25 = .ok (.getfield 54, 3) := by decide +kernel
theorem dX4_holds_28 : decode cX4_holds 28 = .ok (.goto 27, 3) := by decide +kernel
theorem dX4_holds_31 : decode cX4_holds 31 = .ok (.iload_n 1, 1) := by decide +kernel
theorem dX4_holds_32 : decode cX4_holds 32 = .ok (.iconst 2, 1) := by decide +kernel
theorem dX4_holds_33 : decode cX4_holds 33 = .ok (.if_icmp .ne 18, 3) := by decide +kernel
theorem dX4_holds_36 : decode cX4_holds 36 = .ok (.aload_n 0, 1) := by decide +kernel
theorem dX4_holds_37 : decode cX4_holds 37 = .ok (.getfield 64, 3) := by decide +kernel
theorem dX4_holds_40 : decode cX4_holds 40 = .ok (.ifCond .ne 7, 3) := by decide +kernel
theorem dX4_holds_43 : decode cX4_holds 43 = .ok (.iconst 1, 1) := by decide +kernel
theorem dX4_holds_44 : decode cX4_holds 44 = .ok (.goto 11, 3) := by decide +kernel
theorem dX4_holds_47 : decode cX4_holds 47 = .ok (.iconst 0, 1) := by decide +kernel
theorem dX4_holds_48 : decode cX4_holds 48 = .ok (.goto 7, 3) := by decide +kernel
theorem dX4_holds_51 : decode cX4_holds 51 = .ok (.aload_n 0, 1) := by decide +kernel
theorem dX4_holds_52 : decode cX4_holds 52 = .ok (.getfield 64, 3) := by decide +kernel
theorem dX4_holds_55 : decode cX4_holds 55 = .ok (.ireturn, 1) := by decide +kernel
theorem dX4_isNone_0 : decode cX4_isNone 0 = .ok (.iload_n 0, 1) := by decide +kernel
theorem dX4_isNone_1 : decode cX4_isNone 1 = .ok (.sipush 211, 3) := by decide +kernel
theorem dX4_isNone_4 : decode cX4_isNone 4 = .ok (.if_icmp .eq 79, 3) := by decide +kernel
theorem dX4_isNone_7 : decode cX4_isNone 7 = .ok (.iload_n 0, 1) := by decide +kernel
theorem dX4_isNone_8 : decode cX4_isNone 8 = .ok (.sipush 219, 3) := by decide +kernel
theorem dX4_isNone_11 : decode cX4_isNone 11 = .ok (.if_icmp .eq 72, 3) := by decide +kernel
theorem dX4_isNone_14 : decode cX4_isNone 14 = .ok (.iload_n 0, 1) := by decide +kernel
theorem dX4_isNone_15 : decode cX4_isNone 15 = .ok (.sipush 221, 3) := by decide +kernel
theorem dX4_isNone_18 : decode cX4_isNone 18 = .ok (.if_icmp .eq 65, 3) := by decide +kernel
theorem dX4_isNone_21 : decode cX4_isNone 21 = .ok (.iload_n 0, 1) := by decide +kernel
theorem dX4_isNone_22 : decode cX4_isNone 22 = .ok (.sipush 227, 3) := by decide +kernel
theorem dX4_isNone_25 : decode cX4_isNone 25 = .ok (.if_icmp .eq 58, 3) := by decide +kernel
theorem dX4_isNone_28 : decode cX4_isNone 28 = .ok (.iload_n 0, 1) := by decide +kernel
theorem dX4_isNone_29 : decode cX4_isNone 29 = .ok (.sipush 228, 3) := by decide +kernel
theorem dX4_isNone_32 : decode cX4_isNone 32 = .ok (.if_icmp .eq 51, 3) := by decide +kernel
theorem dX4_isNone_35 : decode cX4_isNone 35 = .ok (.iload_n 0, 1) := by decide +kernel
theorem dX4_isNone_36 : decode cX4_isNone 36 = .ok (.sipush 235, 3) := by decide +kernel
theorem dX4_isNone_39 : decode cX4_isNone 39 = .ok (.if_icmp .eq 44, 3) := by decide +kernel
theorem dX4_isNone_42 : decode cX4_isNone 42 = .ok (.iload_n 0, 1) := by decide +kernel
theorem dX4_isNone_43 : decode cX4_isNone 43 = .ok (.sipush 236, 3) := by decide +kernel
theorem dX4_isNone_46 : decode cX4_isNone 46 = .ok (.if_icmp .eq 37, 3) := by decide +kernel
theorem dX4_isNone_49 : decode cX4_isNone 49 = .ok (.iload_n 0, 1) := by decide +kernel
theorem dX4_isNone_50 : decode cX4_isNone 50 = .ok (.sipush 237, 3) := by decide +kernel
theorem dX4_isNone_53 : decode cX4_isNone 53 = .ok (.if_icmp .eq 30, 3) := by decide +kernel
theorem dX4_isNone_56 : decode cX4_isNone 56 = .ok (.iload_n 0, 1) := by decide +kernel
theorem dX4_isNone_57 : decode cX4_isNone 57 = .ok (.sipush 244, 3) := by decide +kernel
theorem dX4_isNone_60 : decode cX4_isNone 60 = .ok (.if_icmp .eq 23, 3) := by decide +kernel
theorem dX4_isNone_63 : decode cX4_isNone 63 = .ok (.iload_n 0, 1) := by decide +kernel
theorem dX4_isNone_64 : decode cX4_isNone 64 = .ok (.sipush 252, 3) := by decide +kernel
theorem dX4_isNone_67 : decode cX4_isNone 67 = .ok (.if_icmp .eq 16, 3) := by decide +kernel
theorem dX4_isNone_70 : decode cX4_isNone 70 = .ok (.iload_n 0, 1) := by decide +kernel
theorem dX4_isNone_71 : decode cX4_isNone 71 = .ok (.sipush 253, 3) := by decide +kernel
theorem dX4_isNone_74 : decode cX4_isNone 74 = .ok (.if_icmp .eq 9, 3) := by decide +kernel
theorem dX4_isNone_77 : decode cX4_isNone 77 = .ok (.iload_n 0, 1) := by decide +kernel
theorem dX4_isNone_78 : decode cX4_isNone 78 = .ok (.bipush 16, 2) := by decide +kernel
theorem dX4_isNone_80 : decode cX4_isNone 80 = .ok (.if_icmp .ne 7, 3) := by decide +kernel
theorem dX4_isNone_83 : decode cX4_isNone 83 = .ok (.iconst 1, 1) := by decide +kernel
theorem dX4_isNone_84 : decode cX4_isNone 84 = .ok (.goto 4, 3) := by decide +kernel
theorem dX4_isNone_87 : decode cX4_isNone 87 = .ok (.iconst 0, 1) := by decide +kernel
theorem dX4_isNone_88 : decode cX4_isNone 88 = .ok (.ireturn, 1) := by decide +kernel
theorem dX4_instruction_0 : decode cX4_instruction 0 = .ok (.aload_n 0, 1) := by decide +kernel
theorem dX4_instruction_1 : decode cX4_instruction 1 = .ok (.getfield 38, 3) := by decide +kernel
theorem dX4_instruction_4 : decode cX4_instruction 4 = .ok (.istore_n 1, 1) := by decide +kernel
theorem dX4_instruction_5 : decode cX4_instruction 5 = .ok (.aload_n 0, 1) := by decide +kernel
theorem dX4_instruction_6 : decode cX4_instruction 6 = .ok (.aload_n 0, 1) := by decide +kernel
theorem dX4_instruction_7 : decode cX4_instruction 7 = .ok (.getfield 38, 3) := by decide +kernel
theorem dX4_instruction_10 : decode cX4_instruction 10 = .ok (.invokevirtual 41, 3) := by decide +kernel
theorem dX4_instruction_13 : decode cX4_instruction 13 = .ok (.istore_n 2, 1) := by decide +kernel
theorem dX4_instruction_14 : decode cX4_instruction 14 = .ok (.aload_n 0, 1) := by decide +kernel
theorem dX4_instruction_15 : decode cX4_instruction 15 = .ok (.getfield 81, 3) := by decide +kernel
theorem dX4_instruction_18 : decode cX4_instruction 18 = .ok (.ifCond .ne 16, 3) := by decide +kernel
theorem dX4_instruction_21 : decode cX4_instruction 21 = .ok (.aload_n 0, 1) := by decide +kernel
theorem dX4_instruction_22 : decode cX4_instruction 22 = .ok (.aload_n 0, 1) := by decide +kernel
theorem dX4_instruction_23 : decode cX4_instruction 23 = .ok (.getfield 38, 3) := by decide +kernel
theorem dX4_instruction_26 : decode cX4_instruction 26 = .ok (.iconst 1, 1) := by decide +kernel
theorem dX4_instruction_27 : decode cX4_instruction 27 = .ok (.iadd, 1) := by decide +kernel
theorem dX4_instruction_28 : decode cX4_instruction 28 = .ok (.ldc 22, 2) := by decide +kernel
theorem dX4_instruction_30 : decode cX4_instruction 30 = .ok (.iand, 1) := by decide +kernel
theorem dX4_instruction_31 : decode cX4_instruction 31 = .ok (.putfield 38, 3) := by decide +kernel
theorem dX4_instruction_34 : decode cX4_instruction 34 = .ok (.aload_n 0, 1) := by decide +kernel
theorem dX4_instruction_35 : decode cX4_instruction 35 = .ok (.iconst 0, 1) := by decide +kernel
theorem dX4_instruction_36 : decode cX4_instruction 36 = .ok (.putfield 81, 3) := by decide +kernel
theorem dX4_instruction_39 : decode cX4_instruction 39 = .ok (.iload_n 2, 1) := by decide +kernel
theorem dX4_instruction_40 : decode cX4_instruction 40 = .ok (.iconst 3, 1) := by decide +kernel
theorem dX4_instruction_41 : decode cX4_instruction 41 = .ok (.ishr, 1) := by decide +kernel
theorem dX4_instruction_42 : decode cX4_instruction 42 = .ok (.bipush 7, 2) := by decide +kernel
theorem dX4_instruction_44 : decode cX4_instruction 44 = .ok (.iand, 1) := by decide +kernel
theorem dX4_instruction_45 : decode cX4_instruction 45 = .ok (.istore_n 3, 1) := by decide +kernel
theorem dX4_instruction_46 : decode cX4_instruction 46 = .ok (.iload_n 2, 1) := by decide +kernel
theorem dX4_instruction_47 : decode cX4_instruction 47 = .ok (.bipush 7, 2) := by decide +kernel
theorem dX4_instruction_49 : decode cX4_instruction 49 = .ok (.iand, 1) := by decide +kernel
theorem dX4_instruction_50 : decode cX4_instruction 50 = .ok (.istore 4, 2) := by decide +kernel
theorem dX4_instruction_52 : decode cX4_instruction 52 = .ok (.iload_n 2, 1) := by decide +kernel
theorem dX4_instruction_53 : decode cX4_instruction 53 = .ok (.bipush 6, 2) := by decide +kernel
theorem dX4_instruction_55 : decode cX4_instruction 55 = .ok (.ishr, 1) := by decide +kernel
theorem dX4_instruction_56 : decode cX4_instruction 56 = .ok (.tableswitch 80 0 2 #[28, 38, 66], 28) := by decide +kernel
theorem dX4_instruction_84 : decode cX4_instruction 84 = .ok (.aload_n 0, 1) := by decide +kernel
theorem dX4_instruction_85 : decode cX4_instruction 85 = .ok (.iload_n 3, 1) := by decide +kernel
theorem dX4_instruction_86 : decode cX4_instruction 86 = .ok (.iload 4, 2) := by decide +kernel
theorem dX4_instruction_88 : decode cX4_instruction 88 = .ok (.invokevirtual 84, 3) := by decide +kernel
theorem dX4_instruction_91 : decode cX4_instruction 91 = .ok (.goto 52, 3) := by decide +kernel
theorem dX4_instruction_94 : decode cX4_instruction 94 = .ok (.iload_n 2, 1) := by decide +kernel
theorem dX4_instruction_95 : decode cX4_instruction 95 = .ok (.bipush 118, 2) := by decide +kernel
theorem dX4_instruction_97 : decode cX4_instruction 97 = .ok (.if_icmp .ne 11, 3) := by decide +kernel
theorem dX4_instruction_100 : decode cX4_instruction 100 = .ok (.aload_n 0, 1) := by decide +kernel
theorem dX4_instruction_101 : decode cX4_instruction 101 = .ok (.iload_n 1, 1) := by decide +kernel
theorem dX4_instruction_102 : decode cX4_instruction 102 = .ok (.invokevirtual 87, 3) := by decide +kernel
theorem dX4_instruction_105 : decode cX4_instruction 105 = .ok (.goto 38, 3) := by decide +kernel
theorem dX4_instruction_108 : decode cX4_instruction 108 = .ok (.aload_n 0, 1) := by decide +kernel
theorem dX4_instruction_109 : decode cX4_instruction 109 = .ok (.iload_n 3, 1) := by decide +kernel
theorem dX4_instruction_110 : decode cX4_instruction 110 = .ok (.aload_n 0, 1) := by decide +kernel
theorem dX4_instruction_111 : decode cX4_instruction 111 = .ok (.iload 4, 2) := by decide +kernel
theorem dX4_instruction_113 : decode cX4_instruction 113 = .ok (.invokevirtual 91, 3) := by decide +kernel
theorem dX4_instruction_116 : decode cX4_instruction 116 = .ok (.invokevirtual 94, 3) := by decide +kernel
theorem dX4_instruction_119 : decode cX4_instruction 119 = .ok (.goto 24, 3) := by decide +kernel
theorem dX4_instruction_122 : decode cX4_instruction 122 = .ok (.aload_n 0, 1) := by decide +kernel
theorem dX4_instruction_123 : decode cX4_instruction 123 = .ok (.iload_n 3, 1) := by decide +kernel
theorem dX4_instruction_124 : decode cX4_instruction 124 = .ok (.aload_n 0, 1) := by decide +kernel
theorem dX4_instruction_125 : decode cX4_instruction 125 = .ok (.iload 4, 2) := by decide +kernel
theorem dX4_instruction_127 : decode cX4_instruction 127 = .ok (.invokevirtual 91, 3) := by decide +kernel
theorem dX4_instruction_130 : decode cX4_instruction 130 = .ok (.invokevirtual 97, 3) := by decide +kernel
theorem dX4_instruction_133 : decode cX4_instruction 133 = .ok (.goto 10, 3) := by decide +kernel
theorem dX4_instruction_136 : decode cX4_instruction 136 = .ok (.aload_n 0, 1) := by decide +kernel
theorem dX4_instruction_137 : decode cX4_instruction 137 = .ok (.iload_n 3, 1) := by decide +kernel
theorem dX4_instruction_138 : decode cX4_instruction 138 = .ok (.iload 4, 2) := by decide +kernel
theorem dX4_instruction_140 : decode cX4_instruction 140 = .ok (.invokevirtual 100, 3) := by decide +kernel
theorem dX4_instruction_143 : decode cX4_instruction 143 = .ok (.return_, 1) := by decide +kernel
theorem dX4_halts_0 : decode cX4_halts 0 = .ok (.aload_n 0, 1) := by decide +kernel
theorem dX4_halts_1 : decode cX4_halts 1 = .ok (.ldc 22, 2) := by decide +kernel
theorem dX4_halts_3 : decode cX4_halts 3 = .ok (.invokevirtual 26, 3) := by decide +kernel
theorem dX4_halts_6 : decode cX4_halts 6 = .ok (.aload_n 0, 1) := by decide +kernel
theorem dX4_halts_7 : decode cX4_halts 7 = .ok (.ldc 103, 2) := by decide +kernel
theorem dX4_halts_9 : decode cX4_halts 9 = .ok (.invokevirtual 26, 3) := by decide +kernel
theorem dX4_halts_12 : decode cX4_halts 12 = .ok (.iand, 1) := by decide +kernel
theorem dX4_halts_13 : decode cX4_halts 13 = .ok (.bipush 31, 2) := by decide +kernel
theorem dX4_halts_15 : decode cX4_halts 15 = .ok (.iand, 1) := by decide +kernel
theorem dX4_halts_16 : decode cX4_halts 16 = .ok (.ifCond .eq 10, 3) := by decide +kernel
theorem dX4_halts_19 : decode cX4_halts 19 = .ok (.aload_n 0, 1) := by decide +kernel
theorem dX4_halts_20 : decode cX4_halts 20 = .ok (.getfield 104, 3) := by decide +kernel
theorem dX4_halts_23 : decode cX4_halts 23 = .ok (.ifCond .eq 11, 3) := by decide +kernel
theorem dX4_halts_26 : decode cX4_halts 26 = .ok (.aload_n 0, 1) := by decide +kernel
theorem dX4_halts_27 : decode cX4_halts 27 = .ok (.iconst 1, 1) := by decide +kernel
theorem dX4_halts_28 : decode cX4_halts 28 = .ok (.putfield 107, 3) := by decide +kernel
theorem dX4_halts_31 : decode cX4_halts 31 = .ok (.goto 23, 3) := by decide +kernel
theorem dX4_halts_34 : decode cX4_halts 34 = .ok (.aload_n 0, 1) := by decide +kernel
theorem dX4_halts_35 : decode cX4_halts 35 = .ok (.getfield 110, 3) := by decide +kernel
theorem dX4_halts_38 : decode cX4_halts 38 = .ok (.ifCond .eq 11, 3) := by decide +kernel
theorem dX4_halts_41 : decode cX4_halts 41 = .ok (.aload_n 0, 1) := by decide +kernel
theorem dX4_halts_42 : decode cX4_halts 42 = .ok (.iload_n 1, 1) := by decide +kernel
theorem dX4_halts_43 : decode cX4_halts 43 = .ok (.putfield 38, 3) := by decide +kernel
theorem dX4_halts_46 : decode cX4_halts 46 = .ok (.goto 8, 3) := by decide +kernel
theorem dX4_halts_49 : decode cX4_halts 49 = .ok (.aload_n 0, 1) := by decide +kernel
theorem dX4_halts_50 : decode cX4_halts 50 = .ok (.iconst 1, 1) := by decide +kernel
theorem dX4_halts_51 : decode cX4_halts 51 = .ok (.putfield 81, 3) := by decide +kernel
theorem dX4_halts_54 : decode cX4_halts 54 = .ok (.return_, 1) := by decide +kernel
theorem dX4_first_0 : decode cX4_first 0 = .ok (.iload_n 1, 1) := by decide +kernel
theorem dX4_first_1 : decode cX4_first 1 = .ok (.iconst 1, 1) := by decide +kernel
theorem dX4_first_2 : decode cX4_first 2 = .ok (.ishr, 1) := by decide +kernel
theorem dX4_first_3 : decode cX4_first 3 = .ok (.istore_n 3, 1) := by decide +kernel
theorem dX4_first_4 : decode cX4_first 4 = .ok (.iload_n 1, 1) := by decide +kernel
theorem dX4_first_5 : decode cX4_first 5 = .ok (.iconst 2, 1) := by decide +kernel
theorem dX4_first_6 : decode cX4_first 6 = .ok (.irem, 1) := by decide +kernel
theorem dX4_first_7 : decode cX4_first 7 = .ok (.iconst 1, 1) := by decide +kernel
theorem dX4_first_8 : decode cX4_first 8 = .ok (.if_icmp .ne 7, 3) := by decide +kernel
theorem dX4_first_11 : decode cX4_first 11 = .ok (.iconst 1, 1) := by decide +kernel
theorem dX4_first_12 : decode cX4_first 12 = .ok (.goto 4, 3) := by decide +kernel
theorem dX4_first_15 : decode cX4_first 15 = .ok (.iconst 0, 1) := by decide +kernel
theorem dX4_first_16 : decode cX4_first 16 = .ok (.istore 4, 2) := by decide +kernel
theorem dX4_first_18 : decode cX4_first 18 = .ok (.iload_n 2, 1) := by decide +kernel
theorem dX4_first_19 : decode cX4_first 19 = .ok (.tableswitch 167 0 6 #[41, 49, 74, 84, 121, 138, 155], 41) := by decide +kernel
theorem dX4_first_60 : decode cX4_first 60 = .ok (.aload_n 0, 1) := by decide +kernel
theorem dX4_first_61 : decode cX4_first 61 = .ok (.iload_n 1, 1) := by decide +kernel
theorem dX4_first_62 : decode cX4_first 62 = .ok (.invokevirtual 113, 3) := by decide +kernel
theorem dX4_first_65 : decode cX4_first 65 = .ok (.goto 126, 3) := by decide +kernel
theorem dX4_first_68 : decode cX4_first 68 = .ok (.iload 4, 2) := by decide +kernel
theorem dX4_first_70 : decode cX4_first 70 = .ok (.ifCond .eq 11, 3) := by decide +kernel
theorem dX4_first_73 : decode cX4_first 73 = .ok (.aload_n 0, 1) := by decide +kernel
theorem dX4_first_74 : decode cX4_first 74 = .ok (.iload_n 3, 1) := by decide +kernel
theorem dX4_first_75 : decode cX4_first 75 = .ok (.invokevirtual 116, 3) := by decide +kernel
theorem dX4_first_78 : decode cX4_first 78 = .ok (.goto 113, 3) := by decide +kernel
theorem dX4_first_81 : decode cX4_first 81 = .ok (.aload_n 0, 1) := by decide +kernel
theorem dX4_first_82 : decode cX4_first 82 = .ok (.iload_n 3, 1) := by decide +kernel
theorem dX4_first_83 : decode cX4_first 83 = .ok (.aload_n 0, 1) := by decide +kernel
theorem dX4_first_84 : decode cX4_first 84 = .ok (.invokevirtual 119, 3) := by decide +kernel
theorem dX4_first_87 : decode cX4_first 87 = .ok (.invokevirtual 122, 3) := by decide +kernel
theorem dX4_first_90 : decode cX4_first 90 = .ok (.goto 101, 3) := by decide +kernel
theorem dX4_first_93 : decode cX4_first 93 = .ok (.aload_n 0, 1) := by decide +kernel
theorem dX4_first_94 : decode cX4_first 94 = .ok (.iload_n 3, 1) := by decide +kernel
theorem dX4_first_95 : decode cX4_first 95 = .ok (.iload 4, 2) := by decide +kernel
theorem dX4_first_97 : decode cX4_first 97 = .ok (.invokevirtual 125, 3) := by decide +kernel
theorem dX4_first_100 : decode cX4_first 100 = .ok (.goto 91, 3) := by decide +kernel
theorem dX4_first_103 : decode cX4_first 103 = .ok (.aload_n 0, 1) := by decide +kernel
theorem dX4_first_104 : decode cX4_first 104 = .ok (.dup, 1) := by decide +kernel
theorem dX4_first_105 : decode cX4_first 105 = .ok (.getfield 23, 3) := by decide +kernel
theorem dX4_first_108 : decode cX4_first 108 = .ok (.iconst 1, 1) := by decide +kernel
theorem dX4_first_109 : decode cX4_first 109 = .ok (.iadd, 1) := by decide +kernel
theorem dX4_first_110 : decode cX4_first 110 = .ok (.putfield 23, 3) := by decide +kernel
theorem dX4_first_113 : decode cX4_first 113 = .ok (.aload_n 0, 1) := by decide +kernel
theorem dX4_first_114 : decode cX4_first 114 = .ok (.iload_n 3, 1) := by decide +kernel
theorem dX4_first_115 : decode cX4_first 115 = .ok (.aload_n 0, 1) := by decide +kernel
theorem dX4_first_116 : decode cX4_first 116 = .ok (.iload_n 3, 1) := by decide +kernel
theorem dX4_first_117 : decode cX4_first 117 = .ok (.invokevirtual 129, 3) := by decide +kernel
theorem dX4_first_120 : decode cX4_first 120 = .ok (.iload 4, 2) := by decide +kernel
theorem dX4_first_122 : decode cX4_first 122 = .ok (.ifCond .eq 7, 3) := by decide +kernel
theorem dX4_first_125 : decode cX4_first 125 = .ok (.iconst (-1), 1) := by decide +kernel
theorem dX4_first_126 : decode cX4_first 126 = .ok (.goto 4, 3) := by decide +kernel
theorem dX4_first_129 : decode cX4_first 129 = .ok (.iconst 1, 1) := by decide +kernel
theorem dX4_first_130 : decode cX4_first 130 = .ok (.iadd, 1) := by decide +kernel
theorem dX4_first_131 : decode cX4_first 131 = .ok (.ldc 22, 2) := by decide +kernel
theorem dX4_first_133 : decode cX4_first 133 = .ok (.iand, 1) := by decide +kernel
theorem dX4_first_134 : decode cX4_first 134 = .ok (.invokevirtual 122, 3) := by decide +kernel
theorem dX4_first_137 : decode cX4_first 137 = .ok (.goto 54, 3) := by decide +kernel
theorem dX4_first_140 : decode cX4_first 140 = .ok (.aload_n 0, 1) := by decide +kernel
theorem dX4_first_141 : decode cX4_first 141 = .ok (.iload_n 1, 1) := by decide +kernel
theorem dX4_first_142 : decode cX4_first 142 = .ok (.aload_n 0, 1) := by decide +kernel
theorem dX4_first_143 : decode cX4_first 143 = .ok (.aload_n 0, 1) := by decide +kernel
theorem dX4_first_144 : decode cX4_first 144 = .ok (.iload_n 1, 1) := by decide +kernel
theorem dX4_first_145 : decode cX4_first 145 = .ok (.invokevirtual 91, 3) := by decide +kernel
theorem dX4_first_148 : decode cX4_first 148 = .ok (.invokevirtual 132, 3) := by decide +kernel
theorem dX4_first_151 : decode cX4_first 151 = .ok (.invokevirtual 94, 3) := by decide +kernel
theorem dX4_first_154 : decode cX4_first 154 = .ok (.goto 37, 3) := by decide +kernel
theorem dX4_first_157 : decode cX4_first 157 = .ok (.aload_n 0, 1) := by decide +kernel
theorem dX4_first_158 : decode cX4_first 158 = .ok (.iload_n 1, 1) := by decide +kernel
theorem dX4_first_159 : decode cX4_first 159 = .ok (.aload_n 0, 1) := by decide +kernel
theorem dX4_first_160 : decode cX4_first 160 = .ok (.aload_n 0, 1) := by decide +kernel
theorem dX4_first_161 : decode cX4_first 161 = .ok (.iload_n 1, 1) := by decide +kernel
theorem dX4_first_162 : decode cX4_first 162 = .ok (.invokevirtual 91, 3) := by decide +kernel
theorem dX4_first_165 : decode cX4_first 165 = .ok (.invokevirtual 135, 3) := by decide +kernel
theorem dX4_first_168 : decode cX4_first 168 = .ok (.invokevirtual 94, 3) := by decide +kernel
theorem dX4_first_171 : decode cX4_first 171 = .ok (.goto 20, 3) := by decide +kernel
theorem dX4_first_174 : decode cX4_first 174 = .ok (.aload_n 0, 1) := by decide +kernel
theorem dX4_first_175 : decode cX4_first 175 = .ok (.iload_n 1, 1) := by decide +kernel
theorem dX4_first_176 : decode cX4_first 176 = .ok (.aload_n 0, 1) := by decide +kernel
theorem dX4_first_177 : decode cX4_first 177 = .ok (.invokevirtual 44, 3) := by decide +kernel
theorem dX4_first_180 : decode cX4_first 180 = .ok (.invokevirtual 94, 3) := by decide +kernel
theorem dX4_first_183 : decode cX4_first 183 = .ok (.goto 8, 3) := by decide +kernel
theorem dX4_first_186 : decode cX4_first 186 = .ok (.aload_n 0, 1) := by decide +kernel
theorem dX4_first_187 : decode cX4_first 187 = .ok (.iload_n 1, 1) := by decide +kernel
theorem dX4_first_188 : decode cX4_first 188 = .ok (.invokevirtual 138, 3) := by decide +kernel
theorem dX4_first_191 : decode cX4_first 191 = .ok (.return_, 1) := by decide +kernel
theorem dX4_wide_0 : decode cX4_wide 0 = .ok (.iload_n 1, 1) := by decide +kernel
theorem dX4_wide_1 : decode cX4_wide 1 = .ok (.iconst 3, 1) := by decide +kernel
theorem dX4_wide_2 : decode cX4_wide 2 = .ok (.if_icmp .ne 10, 3) := by decide +kernel
theorem dX4_wide_5 : decode cX4_wide 5 = .ok (.aload_n 0, 1) := by decide +kernel
theorem dX4_wide_6 : decode cX4_wide 6 = .ok (.getfield 48, 3) := by decide +kernel
theorem dX4_wide_9 : decode cX4_wide 9 = .ok (.goto 8, 3) := by decide +kernel
theorem dX4_wide_12 : decode cX4_wide 12 = .ok (.aload_n 0, 1) := by decide +kernel
theorem dX4_wide_13 : decode cX4_wide 13 = .ok (.iload_n 1, 1) := by decide +kernel
theorem dX4_wide_14 : decode cX4_wide 14 = .ok (.invokevirtual 141, 3) := by decide +kernel
theorem dX4_wide_17 : decode cX4_wide 17 = .ok (.ireturn, 1) := by decide +kernel
theorem dX4_setWide_0 : decode cX4_setWide 0 = .ok (.iload_n 1, 1) := by decide +kernel
theorem dX4_setWide_1 : decode cX4_setWide 1 = .ok (.iconst 3, 1) := by decide +kernel
theorem dX4_setWide_2 : decode cX4_setWide 2 = .ok (.if_icmp .ne 11, 3) := by decide +kernel
theorem dX4_setWide_5 : decode cX4_setWide 5 = .ok (.aload_n 0, 1) := by decide +kernel
theorem dX4_setWide_6 : decode cX4_setWide 6 = .ok (.iload_n 2, 1) := by decide +kernel
theorem dX4_setWide_7 : decode cX4_setWide 7 = .ok (.putfield 48, 3) := by decide +kernel
theorem dX4_setWide_10 : decode cX4_setWide 10 = .ok (.goto 9, 3) := by decide +kernel
theorem dX4_setWide_13 : decode cX4_setWide 13 = .ok (.aload_n 0, 1) := by decide +kernel
theorem dX4_setWide_14 : decode cX4_setWide 14 = .ok (.iload_n 1, 1) := by decide +kernel
theorem dX4_setWide_15 : decode cX4_setWide 15 = .ok (.iload_n 2, 1) := by decide +kernel
theorem dX4_setWide_16 : decode cX4_setWide 16 = .ok (.invokevirtual 144, 3) := by decide +kernel
theorem dX4_setWide_19 : decode cX4_setWide 19 = .ok (.return_, 1) := by decide +kernel
theorem dX4_jumpsNear_0 : decode cX4_jumpsNear 0 = .ok (.iload_n 1, 1) := by decide +kernel
theorem dX4_jumpsNear_1 : decode cX4_jumpsNear 1 = .ok (.ifCond .ne 4, 3) := by decide +kernel
theorem dX4_jumpsNear_4 : decode cX4_jumpsNear 4 = .ok (.return_, 1) := by decide +kernel
theorem dX4_jumpsNear_5 : decode cX4_jumpsNear 5 = .ok (.iload_n 1, 1) := by decide +kernel
theorem dX4_jumpsNear_6 : decode cX4_jumpsNear 6 = .ok (.iconst 1, 1) := by decide +kernel
theorem dX4_jumpsNear_7 : decode cX4_jumpsNear 7 = .ok (.if_icmp .ne 36, 3) := by decide +kernel
theorem dX4_jumpsNear_10 : decode cX4_jumpsNear 10 = .ok (.aload_n 0, 1) := by decide +kernel
theorem dX4_jumpsNear_11 : decode cX4_jumpsNear 11 = .ok (.invokevirtual 119, 3) := by decide +kernel
theorem dX4_jumpsNear_14 : decode cX4_jumpsNear 14 = .ok (.istore_n 2, 1) := by decide +kernel
theorem dX4_jumpsNear_15 : decode cX4_jumpsNear 15 = .ok (.aload_n 0, 1) := by decide +kernel
theorem dX4_jumpsNear_16 : decode cX4_jumpsNear 16 = .ok (.iload_n 2, 1) := by decide +kernel
theorem dX4_jumpsNear_17 : decode cX4_jumpsNear 17 = .ok (.aload_n 0, 1) := by decide +kernel
theorem dX4_jumpsNear_18 : decode cX4_jumpsNear 18 = .ok (.getfield 48, 3) := by decide +kernel
theorem dX4_jumpsNear_21 : decode cX4_jumpsNear 21 = .ok (.sipush 255, 3) := by decide +kernel
theorem dX4_jumpsNear_24 : decode cX4_jumpsNear 24 = .ok (.iand, 1) := by decide +kernel
theorem dX4_jumpsNear_25 : decode cX4_jumpsNear 25 = .ok (.invokevirtual 51, 3) := by decide +kernel
theorem dX4_jumpsNear_28 : decode cX4_jumpsNear 28 = .ok (.aload_n 0, 1) := by decide +kernel
theorem dX4_jumpsNear_29 : decode cX4_jumpsNear 29 = .ok (.iload_n 2, 1) := by decide +kernel
theorem dX4_jumpsNear_30 : decode cX4_jumpsNear 30 = .ok (.iconst 1, 1) := by decide +kernel
theorem dX4_jumpsNear_31 : decode cX4_jumpsNear 31 = .ok (.iadd, 1) := by decide +kernel
theorem dX4_jumpsNear_32 : decode cX4_jumpsNear 32 = .ok (.aload_n 0, 1) := by decide +kernel
theorem dX4_jumpsNear_33 : decode cX4_jumpsNear 33 = .ok (.getfield 48, 3) := by decide +kernel
theorem dX4_jumpsNear_36 : decode cX4_jumpsNear 36 = .ok (.bipush 8, 2) := by decide +kernel
theorem dX4_jumpsNear_38 : decode cX4_jumpsNear 38 = .ok (.ishr, 1) := by decide +kernel
theorem dX4_jumpsNear_39 : decode cX4_jumpsNear 39 = .ok (.invokevirtual 51, 3) := by decide +kernel
theorem dX4_jumpsNear_42 : decode cX4_jumpsNear 42 = .ok (.return_, 1) := by decide +kernel
theorem dX4_jumpsNear_43 : decode cX4_jumpsNear 43 = .ok (.aload_n 0, 1) := by decide +kernel
theorem dX4_jumpsNear_44 : decode cX4_jumpsNear 44 = .ok (.invokevirtual 44, 3) := by decide +kernel
theorem dX4_jumpsNear_47 : decode cX4_jumpsNear 47 = .ok (.istore_n 2, 1) := by decide +kernel
theorem dX4_jumpsNear_48 : decode cX4_jumpsNear 48 = .ok (.iload_n 1, 1) := by decide +kernel
theorem dX4_jumpsNear_49 : decode cX4_jumpsNear 49 = .ok (.iconst 3, 1) := by decide +kernel
theorem dX4_jumpsNear_50 : decode cX4_jumpsNear 50 = .ok (.if_icmp .eq 13, 3) := by decide +kernel
theorem dX4_jumpsNear_53 : decode cX4_jumpsNear 53 = .ok (.aload_n 0, 1) := by decide +kernel
theorem dX4_jumpsNear_54 : decode cX4_jumpsNear 54 = .ok (.iload_n 1, 1) := by decide +kernel
theorem dX4_jumpsNear_55 : decode cX4_jumpsNear 55 = .ok (.iconst 4, 1) := by decide +kernel
theorem dX4_jumpsNear_56 : decode cX4_jumpsNear 56 = .ok (.isub, 1) := by decide +kernel
theorem dX4_jumpsNear_57 : decode cX4_jumpsNear 57 = .ok (.invokevirtual 147, 3) := by decide +kernel
theorem dX4_jumpsNear_60 : decode cX4_jumpsNear 60 = .ok (.ifCond .eq 27, 3) := by decide +kernel
theorem dX4_jumpsNear_63 : decode cX4_jumpsNear 63 = .ok (.aload_n 0, 1) := by decide +kernel
theorem dX4_jumpsNear_64 : decode cX4_jumpsNear 64 = .ok (.dup, 1) := by decide +kernel
theorem dX4_jumpsNear_65 : decode cX4_jumpsNear 65 = .ok (.getfield 23, 3) := by decide +kernel
theorem dX4_jumpsNear_68 : decode cX4_jumpsNear 68 = .ok (.iconst 1, 1) := by decide +kernel
theorem dX4_jumpsNear_69 : decode cX4_jumpsNear 69 = .ok (.iadd, 1) := by decide +kernel
theorem dX4_jumpsNear_70 : decode cX4_jumpsNear 70 = .ok (.putfield 23, 3) := by decide +kernel
theorem dX4_jumpsNear_73 : decode cX4_jumpsNear 73 = .ok (.aload_n 0, 1) := by decide +kernel
theorem dX4_jumpsNear_74 : decode cX4_jumpsNear 74 = .ok (.aload_n 0, 1) := by decide +kernel
theorem dX4_jumpsNear_75 : decode cX4_jumpsNear 75 = .ok (.getfield 38, 3) := by decide +kernel
theorem dX4_jumpsNear_78 : decode cX4_jumpsNear 78 = .ok (.iload_n 2, 1) := by decide +kernel
theorem dX4_jumpsNear_79 : decode cX4_jumpsNear 79 = .ok (.i2b, 1) := by decide +kernel
theorem dX4_jumpsNear_80 : decode cX4_jumpsNear 80 = .ok (.iadd, 1) := by decide +kernel
theorem dX4_jumpsNear_81 : decode cX4_jumpsNear 81 = .ok (.ldc 22, 2) := by decide +kernel
theorem dX4_jumpsNear_83 : decode cX4_jumpsNear 83 = .ok (.iand, 1) := by decide +kernel
theorem dX4_jumpsNear_84 : decode cX4_jumpsNear 84 = .ok (.putfield 38, 3) := by decide +kernel
theorem dX4_jumpsNear_87 : decode cX4_jumpsNear 87 = .ok (.return_, 1) := by decide +kernel
theorem dX4_addsPair_0 : decode cX4_addsPair 0 = .ok (.aload_n 0, 1) := by decide +kernel
theorem dX4_addsPair_1 : decode cX4_addsPair 1 = .ok (.dup, 1) := by decide +kernel
theorem dX4_addsPair_2 : decode cX4_addsPair 2 = .ok (.getfield 23, 3) := by decide +kernel
theorem dX4_addsPair_5 : decode cX4_addsPair 5 = .ok (.iconst 1, 1) := by decide +kernel
theorem dX4_addsPair_6 : decode cX4_addsPair 6 = .ok (.iadd, 1) := by decide +kernel
theorem dX4_addsPair_7 : decode cX4_addsPair 7 = .ok (.putfield 23, 3) := by decide +kernel
theorem dX4_addsPair_10 : decode cX4_addsPair 10 = .ok (.aload_n 0, 1) := by decide +kernel
theorem dX4_addsPair_11 : decode cX4_addsPair 11 = .ok (.invokevirtual 67, 3) := by decide +kernel
theorem dX4_addsPair_14 : decode cX4_addsPair 14 = .ok (.istore_n 2, 1) := by decide +kernel
theorem dX4_addsPair_15 : decode cX4_addsPair 15 = .ok (.aload_n 0, 1) := by decide +kernel
theorem dX4_addsPair_16 : decode cX4_addsPair 16 = .ok (.iload_n 1, 1) := by decide +kernel
theorem dX4_addsPair_17 : decode cX4_addsPair 17 = .ok (.invokevirtual 129, 3) := by decide +kernel
theorem dX4_addsPair_20 : decode cX4_addsPair 20 = .ok (.istore_n 3, 1) := by decide +kernel
theorem dX4_addsPair_21 : decode cX4_addsPair 21 = .ok (.aload_n 0, 1) := by decide +kernel
theorem dX4_addsPair_22 : decode cX4_addsPair 22 = .ok (.aload_n 0, 1) := by decide +kernel
theorem dX4_addsPair_23 : decode cX4_addsPair 23 = .ok (.getfield 54, 3) := by decide +kernel
theorem dX4_addsPair_26 : decode cX4_addsPair 26 = .ok (.iconst 0, 1) := by decide +kernel
theorem dX4_addsPair_27 : decode cX4_addsPair 27 = .ok (.iload_n 2, 1) := by decide +kernel
theorem dX4_addsPair_28 : decode cX4_addsPair 28 = .ok (.sipush 4095, 3) := by decide +kernel
theorem dX4_addsPair_31 : decode cX4_addsPair 31 = .ok (.iand, 1) := by decide +kernel
theorem dX4_addsPair_32 : decode cX4_addsPair 32 = .ok (.iload_n 3, 1) := by decide +kernel
theorem dX4_addsPair_33 : decode cX4_addsPair 33 = .ok (.sipush 4095, 3) := by decide +kernel
theorem dX4_addsPair_36 : decode cX4_addsPair 36 = .ok (.iand, 1) := by decide +kernel
theorem dX4_addsPair_37 : decode cX4_addsPair 37 = .ok (.iadd, 1) := by decide +kernel
theorem dX4_addsPair_38 : decode cX4_addsPair 38 = .ok (.sipush 4095, 3) := by decide +kernel
theorem dX4_addsPair_41 : decode cX4_addsPair 41 = .ok (.if_icmp .le 7, 3) := by decide +kernel
theorem dX4_addsPair_44 : decode cX4_addsPair 44 = .ok (.iconst 1, 1) := by decide +kernel
theorem dX4_addsPair_45 : decode cX4_addsPair 45 = .ok (.goto 4, 3) := by decide +kernel
theorem dX4_addsPair_48 : decode cX4_addsPair 48 = .ok (.iconst 0, 1) := by decide +kernel
theorem dX4_addsPair_49 : decode cX4_addsPair 49 = .ok (.iload_n 2, 1) := by decide +kernel
theorem dX4_addsPair_50 : decode cX4_addsPair 50 = .ok (.iload_n 3, 1) := by decide +kernel
theorem dX4_addsPair_51 : decode cX4_addsPair 51 = .ok (.iadd, 1) := by decide +kernel
theorem dX4_addsPair_52 : decode cX4_addsPair 52 = .ok (.ldc 22, 2) := by decide +kernel
theorem dX4_addsPair_54 : decode cX4_addsPair 54 = .ok (.if_icmp .le 7, 3) := by decide +kernel
theorem dX4_addsPair_57 : decode cX4_addsPair 57 = .ok (.iconst 1, 1) := by decide +kernel
theorem dX4_addsPair_58 : decode cX4_addsPair 58 = .ok (.goto 4, 3) := by decide +kernel
theorem dX4_addsPair_61 : decode cX4_addsPair 61 = .ok (.iconst 0, 1) := by decide +kernel
theorem dX4_addsPair_62 : decode cX4_addsPair 62 = .ok (.invokevirtual 70, 3) := by decide +kernel
theorem dX4_addsPair_65 : decode cX4_addsPair 65 = .ok (.aload_n 0, 1) := by decide +kernel
theorem dX4_addsPair_66 : decode cX4_addsPair 66 = .ok (.iconst 2, 1) := by decide +kernel
theorem dX4_addsPair_67 : decode cX4_addsPair 67 = .ok (.iload_n 2, 1) := by decide +kernel
theorem dX4_addsPair_68 : decode cX4_addsPair 68 = .ok (.iload_n 3, 1) := by decide +kernel
theorem dX4_addsPair_69 : decode cX4_addsPair 69 = .ok (.iadd, 1) := by decide +kernel
theorem dX4_addsPair_70 : decode cX4_addsPair 70 = .ok (.ldc 22, 2) := by decide +kernel
theorem dX4_addsPair_72 : decode cX4_addsPair 72 = .ok (.iand, 1) := by decide +kernel
theorem dX4_addsPair_73 : decode cX4_addsPair 73 = .ok (.invokevirtual 144, 3) := by decide +kernel
theorem dX4_addsPair_76 : decode cX4_addsPair 76 = .ok (.return_, 1) := by decide +kernel
theorem dX4_byPair_0 : decode cX4_byPair 0 = .ok (.iload_n 1, 1) := by decide +kernel
theorem dX4_byPair_1 : decode cX4_byPair 1 = .ok (.iconst 2, 1) := by decide +kernel
theorem dX4_byPair_2 : decode cX4_byPair 2 = .ok (.if_icmp .ge 11, 3) := by decide +kernel
theorem dX4_byPair_5 : decode cX4_byPair 5 = .ok (.aload_n 0, 1) := by decide +kernel
theorem dX4_byPair_6 : decode cX4_byPair 6 = .ok (.iload_n 1, 1) := by decide +kernel
theorem dX4_byPair_7 : decode cX4_byPair 7 = .ok (.invokevirtual 141, 3) := by decide +kernel
theorem dX4_byPair_10 : decode cX4_byPair 10 = .ok (.goto 7, 3) := by decide +kernel
theorem dX4_byPair_13 : decode cX4_byPair 13 = .ok (.aload_n 0, 1) := by decide +kernel
theorem dX4_byPair_14 : decode cX4_byPair 14 = .ok (.invokevirtual 67, 3) := by decide +kernel
theorem dX4_byPair_17 : decode cX4_byPair 17 = .ok (.istore_n 3, 1) := by decide +kernel
theorem dX4_byPair_18 : decode cX4_byPair 18 = .ok (.iload_n 2, 1) := by decide +kernel
theorem dX4_byPair_19 : decode cX4_byPair 19 = .ok (.ifCond .eq 18, 3) := by decide +kernel
theorem dX4_byPair_22 : decode cX4_byPair 22 = .ok (.aload_n 0, 1) := by decide +kernel
theorem dX4_byPair_23 : decode cX4_byPair 23 = .ok (.getfield 14, 3) := by decide +kernel
theorem dX4_byPair_26 : decode cX4_byPair 26 = .ok (.bipush 7, 2) := by decide +kernel
theorem dX4_byPair_28 : decode cX4_byPair 28 = .ok (.aload_n 0, 1) := by decide +kernel
theorem dX4_byPair_29 : decode cX4_byPair 29 = .ok (.iload_n 3, 1) := by decide +kernel
theorem dX4_byPair_30 : decode cX4_byPair 30 = .ok (.invokevirtual 41, 3) := by decide +kernel
theorem dX4_byPair_33 : decode cX4_byPair 33 = .ok (.iastore, 1) := by decide +kernel
theorem dX4_byPair_34 : decode cX4_byPair 34 = .ok (.goto 15, 3) := by decide +kernel
theorem dX4_byPair_37 : decode cX4_byPair 37 = .ok (.aload_n 0, 1) := by decide +kernel
theorem dX4_byPair_38 : decode cX4_byPair 38 = .ok (.iload_n 3, 1) := by decide +kernel
theorem dX4_byPair_39 : decode cX4_byPair 39 = .ok (.aload_n 0, 1) := by decide +kernel
theorem dX4_byPair_40 : decode cX4_byPair 40 = .ok (.getfield 14, 3) := by decide +kernel
theorem dX4_byPair_43 : decode cX4_byPair 43 = .ok (.bipush 7, 2) := by decide +kernel
theorem dX4_byPair_45 : decode cX4_byPair 45 = .ok (.iaload, 1) := by decide +kernel
theorem dX4_byPair_46 : decode cX4_byPair 46 = .ok (.invokevirtual 51, 3) := by decide +kernel
theorem dX4_byPair_49 : decode cX4_byPair 49 = .ok (.iload_n 1, 1) := by decide +kernel
theorem dX4_byPair_50 : decode cX4_byPair 50 = .ok (.iconst 2, 1) := by decide +kernel
theorem dX4_byPair_51 : decode cX4_byPair 51 = .ok (.if_icmp .ne 14, 3) := by decide +kernel
theorem dX4_byPair_54 : decode cX4_byPair 54 = .ok (.aload_n 0, 1) := by decide +kernel
theorem dX4_byPair_55 : decode cX4_byPair 55 = .ok (.iconst 2, 1) := by decide +kernel
theorem dX4_byPair_56 : decode cX4_byPair 56 = .ok (.iload_n 3, 1) := by decide +kernel
theorem dX4_byPair_57 : decode cX4_byPair 57 = .ok (.iconst 1, 1) := by decide +kernel
theorem dX4_byPair_58 : decode cX4_byPair 58 = .ok (.iadd, 1) := by decide +kernel
theorem dX4_byPair_59 : decode cX4_byPair 59 = .ok (.ldc 22, 2) := by decide +kernel
theorem dX4_byPair_61 : decode cX4_byPair 61 = .ok (.iand, 1) := by decide +kernel
theorem dX4_byPair_62 : decode cX4_byPair 62 = .ok (.invokevirtual 144, 3) := by decide +kernel
theorem dX4_byPair_65 : decode cX4_byPair 65 = .ok (.iload_n 1, 1) := by decide +kernel
theorem dX4_byPair_66 : decode cX4_byPair 66 = .ok (.iconst 3, 1) := by decide +kernel
theorem dX4_byPair_67 : decode cX4_byPair 67 = .ok (.if_icmp .ne 14, 3) := by decide +kernel
theorem dX4_byPair_70 : decode cX4_byPair 70 = .ok (.aload_n 0, 1) := by decide +kernel
theorem dX4_byPair_71 : decode cX4_byPair 71 = .ok (.iconst 2, 1) := by decide +kernel
theorem dX4_byPair_72 : decode cX4_byPair 72 = .ok (.iload_n 3, 1) := by decide +kernel
theorem dX4_byPair_73 : decode cX4_byPair 73 = .ok (.iconst 1, 1) := by decide +kernel
theorem dX4_byPair_74 : decode cX4_byPair 74 = .ok (.isub, 1) := by decide +kernel
theorem dX4_byPair_75 : decode cX4_byPair 75 = .ok (.ldc 22, 2) := by decide +kernel
theorem dX4_byPair_77 : decode cX4_byPair 77 = .ok (.iand, 1) := by decide +kernel
theorem dX4_byPair_78 : decode cX4_byPair 78 = .ok (.invokevirtual 144, 3) := by decide +kernel
theorem dX4_byPair_81 : decode cX4_byPair 81 = .ok (.return_, 1) := by decide +kernel
theorem dX4_onA_0 : decode cX4_onA 0 = .ok (.iload_n 1, 1) := by decide +kernel
theorem dX4_onA_1 : decode cX4_onA 1 = .ok (.iconst 4, 1) := by decide +kernel
theorem dX4_onA_2 : decode cX4_onA 2 = .ok (.if_icmp .ge 30, 3) := by decide +kernel
theorem dX4_onA_5 : decode cX4_onA 5 = .ok (.aload_n 0, 1) := by decide +kernel
theorem dX4_onA_6 : decode cX4_onA 6 = .ok (.getfield 14, 3) := by decide +kernel
theorem dX4_onA_9 : decode cX4_onA 9 = .ok (.bipush 7, 2) := by decide +kernel
theorem dX4_onA_11 : decode cX4_onA 11 = .ok (.aload_n 0, 1) := by decide +kernel
theorem dX4_onA_12 : decode cX4_onA 12 = .ok (.iload_n 1, 1) := by decide +kernel
theorem dX4_onA_13 : decode cX4_onA 13 = .ok (.aload_n 0, 1) := by decide +kernel
theorem dX4_onA_14 : decode cX4_onA 14 = .ok (.getfield 14, 3) := by decide +kernel
theorem dX4_onA_17 : decode cX4_onA 17 = .ok (.bipush 7, 2) := by decide +kernel
theorem dX4_onA_19 : decode cX4_onA 19 = .ok (.iaload, 1) := by decide +kernel
theorem dX4_onA_20 : decode cX4_onA 20 = .ok (.invokevirtual 151, 3) := by decide +kernel
theorem dX4_onA_23 : decode cX4_onA 23 = .ok (.iastore, 1) := by decide +kernel
theorem dX4_onA_24 : decode cX4_onA 24 = .ok (.aload_n 0, 1) := by decide +kernel
theorem dX4_onA_25 : decode cX4_onA 25 = .ok (.iconst 0, 1) := by decide +kernel
theorem dX4_onA_26 : decode cX4_onA 26 = .ok (.putfield 54, 3) := by decide +kernel
theorem dX4_onA_29 : decode cX4_onA 29 = .ok (.goto 74, 3) := by decide +kernel
theorem dX4_onA_32 : decode cX4_onA 32 = .ok (.iload_n 1, 1) := by decide +kernel
theorem dX4_onA_33 : decode cX4_onA 33 = .ok (.iconst 4, 1) := by decide +kernel
theorem dX4_onA_34 : decode cX4_onA 34 = .ok (.if_icmp .ne 10, 3) := by decide +kernel
theorem dX4_onA_37 : decode cX4_onA 37 = .ok (.aload_n 0, 1) := by decide +kernel
theorem dX4_onA_38 : decode cX4_onA 38 = .ok (.invokevirtual 154, 3) := by decide +kernel
theorem dX4_onA_41 : decode cX4_onA 41 = .ok (.goto 62, 3) := by decide +kernel
theorem dX4_onA_44 : decode cX4_onA 44 = .ok (.iload_n 1, 1) := by decide +kernel
theorem dX4_onA_45 : decode cX4_onA 45 = .ok (.iconst 5, 1) := by decide +kernel
theorem dX4_onA_46 : decode cX4_onA 46 = .ok (.if_icmp .ne 29, 3) := by decide +kernel
theorem dX4_onA_49 : decode cX4_onA 49 = .ok (.aload_n 0, 1) := by decide +kernel
theorem dX4_onA_50 : decode cX4_onA 50 = .ok (.getfield 14, 3) := by decide +kernel
theorem dX4_onA_53 : decode cX4_onA 53 = .ok (.bipush 7, 2) := by decide +kernel
theorem dX4_onA_55 : decode cX4_onA 55 = .ok (.dup2, 1) := by decide +kernel
theorem dX4_onA_56 : decode cX4_onA 56 = .ok (.iaload, 1) := by decide +kernel
theorem dX4_onA_57 : decode cX4_onA 57 = .ok (.sipush 255, 3) := by decide +kernel
theorem dX4_onA_60 : decode cX4_onA 60 = .ok (.ixor, 1) := by decide +kernel
theorem dX4_onA_61 : decode cX4_onA 61 = .ok (.iastore, 1) := by decide +kernel
theorem dX4_onA_62 : decode cX4_onA 62 = .ok (.aload_n 0, 1) := by decide +kernel
theorem dX4_onA_63 : decode cX4_onA 63 = .ok (.iconst 1, 1) := by decide +kernel
theorem dX4_onA_64 : decode cX4_onA 64 = .ok (.putfield 58, 3) := by decide +kernel
theorem dX4_onA_67 : decode cX4_onA 67 = .ok (.aload_n 0, 1) := by decide +kernel
theorem dX4_onA_68 : decode cX4_onA 68 = .ok (.iconst 1, 1) := by decide +kernel
theorem dX4_onA_69 : decode cX4_onA 69 = .ok (.putfield 61, 3) := by decide +kernel
theorem dX4_onA_72 : decode cX4_onA 72 = .ok (.goto 31, 3) := by decide +kernel
theorem dX4_onA_75 : decode cX4_onA 75 = .ok (.aload_n 0, 1) := by decide +kernel
theorem dX4_onA_76 : decode cX4_onA 76 = .ok (.aload_n 0, 1) := by decide +kernel
theorem dX4_onA_77 : decode cX4_onA 77 = .ok (.getfield 54, 3) := by decide +kernel
theorem dX4_onA_80 : decode cX4_onA 80 = .ok (.iconst 0, 1) := by decide +kernel
theorem dX4_onA_81 : decode cX4_onA 81 = .ok (.iconst 0, 1) := by decide +kernel
theorem dX4_onA_82 : decode cX4_onA 82 = .ok (.iload_n 1, 1) := by decide +kernel
theorem dX4_onA_83 : decode cX4_onA 83 = .ok (.bipush 6, 2) := by decide +kernel
theorem dX4_onA_85 : decode cX4_onA 85 = .ok (.if_icmp .eq 10, 3) := by decide +kernel
theorem dX4_onA_88 : decode cX4_onA 88 = .ok (.aload_n 0, 1) := by decide +kernel
theorem dX4_onA_89 : decode cX4_onA 89 = .ok (.getfield 64, 3) := by decide +kernel
theorem dX4_onA_92 : decode cX4_onA 92 = .ok (.ifCond .ne 7, 3) := by decide +kernel
theorem dX4_onA_95 : decode cX4_onA 95 = .ok (.iconst 1, 1) := by decide +kernel
theorem dX4_onA_96 : decode cX4_onA 96 = .ok (.goto 4, 3) := by decide +kernel
theorem dX4_onA_99 : decode cX4_onA 99 = .ok (.iconst 0, 1) := by decide +kernel
theorem dX4_onA_100 : decode cX4_onA 100 = .ok (.invokevirtual 70, 3) := by decide +kernel
theorem dX4_onA_103 : decode cX4_onA 103 = .ok (.return_, 1) := by decide +kernel
theorem dX4_last_0 : decode cX4_last 0 = .ok (.iload_n 2, 1) := by decide +kernel
theorem dX4_last_1 : decode cX4_last 1 = .ok (.tableswitch 186 0 6 #[43, 64, 72, 93, 101, 109, 174], 43) := by decide +kernel
theorem dX4_last_44 : decode cX4_last 44 = .ok (.iload_n 1, 1) := by decide +kernel
theorem dX4_last_45 : decode cX4_last 45 = .ok (.iconst 4, 1) := by decide +kernel
theorem dX4_last_46 : decode cX4_last 46 = .ok (.if_icmp .ge 11, 3) := by decide +kernel
theorem dX4_last_49 : decode cX4_last 49 = .ok (.aload_n 0, 1) := by decide +kernel
theorem dX4_last_50 : decode cX4_last 50 = .ok (.iload_n 1, 1) := by decide +kernel
theorem dX4_last_51 : decode cX4_last 51 = .ok (.invokevirtual 157, 3) := by decide +kernel
theorem dX4_last_54 : decode cX4_last 54 = .ok (.goto 141, 3) := by decide +kernel
theorem dX4_last_57 : decode cX4_last 57 = .ok (.aload_n 0, 1) := by decide +kernel
theorem dX4_last_58 : decode cX4_last 58 = .ok (.iload_n 1, 1) := by decide +kernel
theorem dX4_last_59 : decode cX4_last 59 = .ok (.invokevirtual 160, 3) := by decide +kernel
theorem dX4_last_62 : decode cX4_last 62 = .ok (.goto 133, 3) := by decide +kernel
theorem dX4_last_65 : decode cX4_last 65 = .ok (.aload_n 0, 1) := by decide +kernel
theorem dX4_last_66 : decode cX4_last 66 = .ok (.iload_n 1, 1) := by decide +kernel
theorem dX4_last_67 : decode cX4_last 67 = .ok (.invokevirtual 163, 3) := by decide +kernel
theorem dX4_last_70 : decode cX4_last 70 = .ok (.goto 125, 3) := by decide +kernel
theorem dX4_last_73 : decode cX4_last 73 = .ok (.iload_n 1, 1) := by decide +kernel
theorem dX4_last_74 : decode cX4_last 74 = .ok (.iconst 4, 1) := by decide +kernel
theorem dX4_last_75 : decode cX4_last 75 = .ok (.if_icmp .ge 11, 3) := by decide +kernel
theorem dX4_last_78 : decode cX4_last 78 = .ok (.aload_n 0, 1) := by decide +kernel
theorem dX4_last_79 : decode cX4_last 79 = .ok (.iload_n 1, 1) := by decide +kernel
theorem dX4_last_80 : decode cX4_last 80 = .ok (.invokevirtual 166, 3) := by decide +kernel
theorem dX4_last_83 : decode cX4_last 83 = .ok (.goto 112, 3) := by decide +kernel
theorem dX4_last_86 : decode cX4_last 86 = .ok (.aload_n 0, 1) := by decide +kernel
theorem dX4_last_87 : decode cX4_last 87 = .ok (.iload_n 1, 1) := by decide +kernel
theorem dX4_last_88 : decode cX4_last 88 = .ok (.invokevirtual 169, 3) := by decide +kernel
theorem dX4_last_91 : decode cX4_last 91 = .ok (.goto 104, 3) := by decide +kernel
theorem dX4_last_94 : decode cX4_last 94 = .ok (.aload_n 0, 1) := by decide +kernel
theorem dX4_last_95 : decode cX4_last 95 = .ok (.iload_n 1, 1) := by decide +kernel
theorem dX4_last_96 : decode cX4_last 96 = .ok (.invokevirtual 172, 3) := by decide +kernel
theorem dX4_last_99 : decode cX4_last 99 = .ok (.goto 96, 3) := by decide +kernel
theorem dX4_last_102 : decode cX4_last 102 = .ok (.aload_n 0, 1) := by decide +kernel
theorem dX4_last_103 : decode cX4_last 103 = .ok (.iload_n 1, 1) := by decide +kernel
theorem dX4_last_104 : decode cX4_last 104 = .ok (.invokevirtual 175, 3) := by decide +kernel
theorem dX4_last_107 : decode cX4_last 107 = .ok (.goto 88, 3) := by decide +kernel
theorem dX4_last_110 : decode cX4_last 110 = .ok (.iload_n 1, 1) := by decide +kernel
theorem dX4_last_111 : decode cX4_last 111 = .ok (.iconst 2, 1) := by decide +kernel
theorem dX4_last_112 : decode cX4_last 112 = .ok (.irem, 1) := by decide +kernel
theorem dX4_last_113 : decode cX4_last 113 = .ok (.ifCond .ne 51, 3) := by decide +kernel
theorem dX4_last_116 : decode cX4_last 116 = .ok (.aload_n 0, 1) := by decide +kernel
theorem dX4_last_117 : decode cX4_last 117 = .ok (.dup, 1) := by decide +kernel
theorem dX4_last_118 : decode cX4_last 118 = .ok (.getfield 23, 3) := by decide +kernel
theorem dX4_last_121 : decode cX4_last 121 = .ok (.iconst 1, 1) := by decide +kernel
theorem dX4_last_122 : decode cX4_last 122 = .ok (.iadd, 1) := by decide +kernel
theorem dX4_last_123 : decode cX4_last 123 = .ok (.putfield 23, 3) := by decide +kernel
theorem dX4_last_126 : decode cX4_last 126 = .ok (.aload_n 0, 1) := by decide +kernel
theorem dX4_last_127 : decode cX4_last 127 = .ok (.iload_n 1, 1) := by decide +kernel
theorem dX4_last_128 : decode cX4_last 128 = .ok (.bipush 6, 2) := by decide +kernel
theorem dX4_last_130 : decode cX4_last 130 = .ok (.if_icmp .ne 21, 3) := by decide +kernel
theorem dX4_last_133 : decode cX4_last 133 = .ok (.aload_n 0, 1) := by decide +kernel
theorem dX4_last_134 : decode cX4_last 134 = .ok (.getfield 14, 3) := by decide +kernel
theorem dX4_last_137 : decode cX4_last 137 = .ok (.bipush 7, 2) := by decide +kernel
theorem dX4_last_139 : decode cX4_last 139 = .ok (.iaload, 1) := by decide +kernel
theorem dX4_last_140 : decode cX4_last 140 = .ok (.bipush 8, 2) := by decide +kernel
theorem dX4_last_142 : decode cX4_last 142 = .ok (.ishl, 1) := by decide +kernel
theorem dX4_last_143 : decode cX4_last 143 = .ok (.aload_n 0, 1) := by decide +kernel
theorem dX4_last_144 : decode cX4_last 144 = .ok (.invokevirtual 178, 3) := by decide +kernel
theorem dX4_last_147 : decode cX4_last 147 = .ok (.ior, 1) := by decide +kernel
theorem dX4_last_148 : decode cX4_last 148 = .ok (.goto 10, 3) := by decide +kernel
theorem dX4_last_151 : decode cX4_last 151 = .ok (.aload_n 0, 1) := by decide +kernel
theorem dX4_last_152 : decode cX4_last 152 = .ok (.iload_n 1, 1) := by decide +kernel
theorem dX4_last_153 : decode cX4_last 153 = .ok (.iconst 1, 1) := by decide +kernel
theorem dX4_last_154 : decode cX4_last 154 = .ok (.ishr, 1) := by decide +kernel
theorem dX4_last_155 : decode cX4_last 155 = .ok (.invokevirtual 141, 3) := by decide +kernel
theorem dX4_last_158 : decode cX4_last 158 = .ok (.invokevirtual 181, 3) := by decide +kernel
theorem dX4_last_161 : decode cX4_last 161 = .ok (.goto 34, 3) := by decide +kernel
theorem dX4_last_164 : decode cX4_last 164 = .ok (.aload_n 0, 1) := by decide +kernel
theorem dX4_last_165 : decode cX4_last 165 = .ok (.aload_n 0, 1) := by decide +kernel
theorem dX4_last_166 : decode cX4_last 166 = .ok (.invokevirtual 119, 3) := by decide +kernel
theorem dX4_last_169 : decode cX4_last 169 = .ok (.invokevirtual 184, 3) := by decide +kernel
theorem dX4_last_172 : decode cX4_last 172 = .ok (.goto 23, 3) := by decide +kernel
theorem dX4_last_175 : decode cX4_last 175 = .ok (.aload_n 0, 1) := by decide +kernel
theorem dX4_last_176 : decode cX4_last 176 = .ok (.iload_n 1, 1) := by decide +kernel
theorem dX4_last_177 : decode cX4_last 177 = .ok (.aload_n 0, 1) := by decide +kernel
theorem dX4_last_178 : decode cX4_last 178 = .ok (.invokevirtual 44, 3) := by decide +kernel
theorem dX4_last_181 : decode cX4_last 181 = .ok (.invokevirtual 97, 3) := by decide +kernel
theorem dX4_last_184 : decode cX4_last 184 = .ok (.goto 11, 3) := by decide +kernel
theorem dX4_last_187 : decode cX4_last 187 = .ok (.aload_n 0, 1) := by decide +kernel
theorem dX4_last_188 : decode cX4_last 188 = .ok (.bipush 8, 2) := by decide +kernel
theorem dX4_last_190 : decode cX4_last 190 = .ok (.iload_n 1, 1) := by decide +kernel
theorem dX4_last_191 : decode cX4_last 191 = .ok (.imul, 1) := by decide +kernel
theorem dX4_last_192 : decode cX4_last 192 = .ok (.invokevirtual 184, 3) := by decide +kernel
theorem dX4_last_195 : decode cX4_last 195 = .ok (.return_, 1) := by decide +kernel
theorem dX4_calls_0 : decode cX4_calls 0 = .ok (.aload_n 0, 1) := by decide +kernel
theorem dX4_calls_1 : decode cX4_calls 1 = .ok (.dup, 1) := by decide +kernel
theorem dX4_calls_2 : decode cX4_calls 2 = .ok (.getfield 23, 3) := by decide +kernel
theorem dX4_calls_5 : decode cX4_calls 5 = .ok (.iconst 1, 1) := by decide +kernel
theorem dX4_calls_6 : decode cX4_calls 6 = .ok (.iadd, 1) := by decide +kernel
theorem dX4_calls_7 : decode cX4_calls 7 = .ok (.putfield 23, 3) := by decide +kernel
theorem dX4_calls_10 : decode cX4_calls 10 = .ok (.aload_n 0, 1) := by decide +kernel
theorem dX4_calls_11 : decode cX4_calls 11 = .ok (.aload_n 0, 1) := by decide +kernel
theorem dX4_calls_12 : decode cX4_calls 12 = .ok (.getfield 38, 3) := by decide +kernel
theorem dX4_calls_15 : decode cX4_calls 15 = .ok (.invokevirtual 181, 3) := by decide +kernel
theorem dX4_calls_18 : decode cX4_calls 18 = .ok (.aload_n 0, 1) := by decide +kernel
theorem dX4_calls_19 : decode cX4_calls 19 = .ok (.iload_n 1, 1) := by decide +kernel
theorem dX4_calls_20 : decode cX4_calls 20 = .ok (.putfield 38, 3) := by decide +kernel
theorem dX4_calls_23 : decode cX4_calls 23 = .ok (.return_, 1) := by decide +kernel
theorem dX4_callsIf_0 : decode cX4_callsIf 0 = .ok (.aload_n 0, 1) := by decide +kernel
theorem dX4_callsIf_1 : decode cX4_callsIf 1 = .ok (.invokevirtual 119, 3) := by decide +kernel
theorem dX4_callsIf_4 : decode cX4_callsIf 4 = .ok (.istore_n 2, 1) := by decide +kernel
theorem dX4_callsIf_5 : decode cX4_callsIf 5 = .ok (.aload_n 0, 1) := by decide +kernel
theorem dX4_callsIf_6 : decode cX4_callsIf 6 = .ok (.iload_n 1, 1) := by decide +kernel
theorem dX4_callsIf_7 : decode cX4_callsIf 7 = .ok (.invokevirtual 147, 3) := by decide +kernel
theorem dX4_callsIf_10 : decode cX4_callsIf 10 = .ok (.ifCond .eq 8, 3) := by decide +kernel
theorem dX4_callsIf_13 : decode cX4_callsIf 13 = .ok (.aload_n 0, 1) := by decide +kernel
theorem dX4_callsIf_14 : decode cX4_callsIf 14 = .ok (.iload_n 2, 1) := by decide +kernel
theorem dX4_callsIf_15 : decode cX4_callsIf 15 = .ok (.invokevirtual 184, 3) := by decide +kernel
theorem dX4_callsIf_18 : decode cX4_callsIf 18 = .ok (.return_, 1) := by decide +kernel
theorem dX4_returnsIf_0 : decode cX4_returnsIf 0 = .ok (.aload_n 0, 1) := by decide +kernel
theorem dX4_returnsIf_1 : decode cX4_returnsIf 1 = .ok (.dup, 1) := by decide +kernel
theorem dX4_returnsIf_2 : decode cX4_returnsIf 2 = .ok (.getfield 23, 3) := by decide +kernel
theorem dX4_returnsIf_5 : decode cX4_returnsIf 5 = .ok (.iconst 1, 1) := by decide +kernel
theorem dX4_returnsIf_6 : decode cX4_returnsIf 6 = .ok (.iadd, 1) := by decide +kernel
theorem dX4_returnsIf_7 : decode cX4_returnsIf 7 = .ok (.putfield 23, 3) := by decide +kernel
theorem dX4_returnsIf_10 : decode cX4_returnsIf 10 = .ok (.aload_n 0, 1) := by decide +kernel
theorem dX4_returnsIf_11 : decode cX4_returnsIf 11 = .ok (.iload_n 1, 1) := by decide +kernel
theorem dX4_returnsIf_12 : decode cX4_returnsIf 12 = .ok (.invokevirtual 147, 3) := by decide +kernel
theorem dX4_returnsIf_15 : decode cX4_returnsIf 15 = .ok (.ifCond .ne 4, 3) := by decide +kernel
theorem dX4_returnsIf_18 : decode cX4_returnsIf 18 = .ok (.return_, 1) := by decide +kernel
theorem dX4_returnsIf_19 : decode cX4_returnsIf 19 = .ok (.aload_n 0, 1) := by decide +kernel
theorem dX4_returnsIf_20 : decode cX4_returnsIf 20 = .ok (.aload_n 0, 1) := by decide +kernel
theorem dX4_returnsIf_21 : decode cX4_returnsIf 21 = .ok (.invokevirtual 187, 3) := by decide +kernel
theorem dX4_returnsIf_24 : decode cX4_returnsIf 24 = .ok (.putfield 38, 3) := by decide +kernel
theorem dX4_returnsIf_27 : decode cX4_returnsIf 27 = .ok (.aload_n 0, 1) := by decide +kernel
theorem dX4_returnsIf_28 : decode cX4_returnsIf 28 = .ok (.dup, 1) := by decide +kernel
theorem dX4_returnsIf_29 : decode cX4_returnsIf 29 = .ok (.getfield 23, 3) := by decide +kernel
theorem dX4_returnsIf_32 : decode cX4_returnsIf 32 = .ok (.iconst 1, 1) := by decide +kernel
theorem dX4_returnsIf_33 : decode cX4_returnsIf 33 = .ok (.iadd, 1) := by decide +kernel
theorem dX4_returnsIf_34 : decode cX4_returnsIf 34 = .ok (.putfield 23, 3) := by decide +kernel
theorem dX4_returnsIf_37 : decode cX4_returnsIf 37 = .ok (.return_, 1) := by decide +kernel
theorem dX4_jumpsIf_0 : decode cX4_jumpsIf 0 = .ok (.aload_n 0, 1) := by decide +kernel
theorem dX4_jumpsIf_1 : decode cX4_jumpsIf 1 = .ok (.invokevirtual 119, 3) := by decide +kernel
theorem dX4_jumpsIf_4 : decode cX4_jumpsIf 4 = .ok (.istore_n 2, 1) := by decide +kernel
theorem dX4_jumpsIf_5 : decode cX4_jumpsIf 5 = .ok (.aload_n 0, 1) := by decide +kernel
theorem dX4_jumpsIf_6 : decode cX4_jumpsIf 6 = .ok (.iload_n 1, 1) := by decide +kernel
theorem dX4_jumpsIf_7 : decode cX4_jumpsIf 7 = .ok (.invokevirtual 147, 3) := by decide +kernel
theorem dX4_jumpsIf_10 : decode cX4_jumpsIf 10 = .ok (.ifCond .ne 4, 3) := by decide +kernel
theorem dX4_jumpsIf_13 : decode cX4_jumpsIf 13 = .ok (.return_, 1) := by decide +kernel
theorem dX4_jumpsIf_14 : decode cX4_jumpsIf 14 = .ok (.aload_n 0, 1) := by decide +kernel
theorem dX4_jumpsIf_15 : decode cX4_jumpsIf 15 = .ok (.dup, 1) := by decide +kernel
theorem dX4_jumpsIf_16 : decode cX4_jumpsIf 16 = .ok (.getfield 23, 3) := by decide +kernel
theorem dX4_jumpsIf_19 : decode cX4_jumpsIf 19 = .ok (.iconst 1, 1) := by decide +kernel
theorem dX4_jumpsIf_20 : decode cX4_jumpsIf 20 = .ok (.iadd, 1) := by decide +kernel
theorem dX4_jumpsIf_21 : decode cX4_jumpsIf 21 = .ok (.putfield 23, 3) := by decide +kernel
theorem dX4_jumpsIf_24 : decode cX4_jumpsIf 24 = .ok (.aload_n 0, 1) := by decide +kernel
theorem dX4_jumpsIf_25 : decode cX4_jumpsIf 25 = .ok (.iload_n 2, 1) := by decide +kernel
theorem dX4_jumpsIf_26 : decode cX4_jumpsIf 26 = .ok (.putfield 38, 3) := by decide +kernel
theorem dX4_jumpsIf_29 : decode cX4_jumpsIf 29 = .ok (.return_, 1) := by decide +kernel
theorem dX4_high_0 : decode cX4_high 0 = .ok (.aload_n 0, 1) := by decide +kernel
theorem dX4_high_1 : decode cX4_high 1 = .ok (.invokevirtual 44, 3) := by decide +kernel
theorem dX4_high_4 : decode cX4_high 4 = .ok (.istore_n 2, 1) := by decide +kernel
theorem dX4_high_5 : decode cX4_high 5 = .ok (.iload_n 1, 1) := by decide +kernel
theorem dX4_high_6 : decode cX4_high 6 = .ok (.iconst 4, 1) := by decide +kernel
theorem dX4_high_7 : decode cX4_high 7 = .ok (.if_icmp .ne 21, 3) := by decide +kernel
theorem dX4_high_10 : decode cX4_high 10 = .ok (.aload_n 0, 1) := by decide +kernel
theorem dX4_high_11 : decode cX4_high 11 = .ok (.ldc 190, 2) := by decide +kernel
theorem dX4_high_13 : decode cX4_high 13 = .ok (.iload_n 2, 1) := by decide +kernel
theorem dX4_high_14 : decode cX4_high 14 = .ok (.iadd, 1) := by decide +kernel
theorem dX4_high_15 : decode cX4_high 15 = .ok (.aload_n 0, 1) := by decide +kernel
theorem dX4_high_16 : decode cX4_high 16 = .ok (.getfield 14, 3) := by decide +kernel
theorem dX4_high_19 : decode cX4_high 19 = .ok (.bipush 7, 2) := by decide +kernel
theorem dX4_high_21 : decode cX4_high 21 = .ok (.iaload, 1) := by decide +kernel
theorem dX4_high_22 : decode cX4_high 22 = .ok (.invokevirtual 51, 3) := by decide +kernel
theorem dX4_high_25 : decode cX4_high 25 = .ok (.goto 74, 3) := by decide +kernel
theorem dX4_high_28 : decode cX4_high 28 = .ok (.iload_n 1, 1) := by decide +kernel
theorem dX4_high_29 : decode cX4_high 29 = .ok (.bipush 6, 2) := by decide +kernel
theorem dX4_high_31 : decode cX4_high 31 = .ok (.if_icmp .ne 21, 3) := by decide +kernel
theorem dX4_high_34 : decode cX4_high 34 = .ok (.aload_n 0, 1) := by decide +kernel
theorem dX4_high_35 : decode cX4_high 35 = .ok (.getfield 14, 3) := by decide +kernel
theorem dX4_high_38 : decode cX4_high 38 = .ok (.bipush 7, 2) := by decide +kernel
theorem dX4_high_40 : decode cX4_high 40 = .ok (.aload_n 0, 1) := by decide +kernel
theorem dX4_high_41 : decode cX4_high 41 = .ok (.ldc 190, 2) := by decide +kernel
theorem dX4_high_43 : decode cX4_high 43 = .ok (.iload_n 2, 1) := by decide +kernel
theorem dX4_high_44 : decode cX4_high 44 = .ok (.iadd, 1) := by decide +kernel
theorem dX4_high_45 : decode cX4_high 45 = .ok (.invokevirtual 41, 3) := by decide +kernel
theorem dX4_high_48 : decode cX4_high 48 = .ok (.iastore, 1) := by decide +kernel
theorem dX4_high_49 : decode cX4_high 49 = .ok (.goto 50, 3) := by decide +kernel
theorem dX4_high_52 : decode cX4_high 52 = .ok (.iload_n 1, 1) := by decide +kernel
theorem dX4_high_53 : decode cX4_high 53 = .ok (.iconst 5, 1) := by decide +kernel
theorem dX4_high_54 : decode cX4_high 54 = .ok (.if_icmp .ne 25, 3) := by decide +kernel
theorem dX4_high_57 : decode cX4_high 57 = .ok (.aload_n 0, 1) := by decide +kernel
theorem dX4_high_58 : decode cX4_high 58 = .ok (.dup, 1) := by decide +kernel
theorem dX4_high_59 : decode cX4_high 59 = .ok (.getfield 23, 3) := by decide +kernel
theorem dX4_high_62 : decode cX4_high 62 = .ok (.iconst 2, 1) := by decide +kernel
theorem dX4_high_63 : decode cX4_high 63 = .ok (.iadd, 1) := by decide +kernel
theorem dX4_high_64 : decode cX4_high 64 = .ok (.putfield 23, 3) := by decide +kernel
theorem dX4_high_67 : decode cX4_high 67 = .ok (.aload_n 0, 1) := by decide +kernel
theorem dX4_high_68 : decode cX4_high 68 = .ok (.aload_n 0, 1) := by decide +kernel
theorem dX4_high_69 : decode cX4_high 69 = .ok (.iload_n 2, 1) := by decide +kernel
theorem dX4_high_70 : decode cX4_high 70 = .ok (.invokevirtual 191, 3) := by decide +kernel
theorem dX4_high_73 : decode cX4_high 73 = .ok (.putfield 48, 3) := by decide +kernel
theorem dX4_high_76 : decode cX4_high 76 = .ok (.goto 23, 3) := by decide +kernel
theorem dX4_high_79 : decode cX4_high 79 = .ok (.aload_n 0, 1) := by decide +kernel
theorem dX4_high_80 : decode cX4_high 80 = .ok (.dup, 1) := by decide +kernel
theorem dX4_high_81 : decode cX4_high 81 = .ok (.getfield 23, 3) := by decide +kernel
theorem dX4_high_84 : decode cX4_high 84 = .ok (.iconst 1, 1) := by decide +kernel
theorem dX4_high_85 : decode cX4_high 85 = .ok (.iadd, 1) := by decide +kernel
theorem dX4_high_86 : decode cX4_high 86 = .ok (.putfield 23, 3) := by decide +kernel
theorem dX4_high_89 : decode cX4_high 89 = .ok (.aload_n 0, 1) := by decide +kernel
theorem dX4_high_90 : decode cX4_high 90 = .ok (.iconst 2, 1) := by decide +kernel
theorem dX4_high_91 : decode cX4_high 91 = .ok (.aload_n 0, 1) := by decide +kernel
theorem dX4_high_92 : decode cX4_high 92 = .ok (.iload_n 2, 1) := by decide +kernel
theorem dX4_high_93 : decode cX4_high 93 = .ok (.invokevirtual 191, 3) := by decide +kernel
theorem dX4_high_96 : decode cX4_high 96 = .ok (.invokevirtual 144, 3) := by decide +kernel
theorem dX4_high_99 : decode cX4_high 99 = .ok (.return_, 1) := by decide +kernel
theorem dX4_popsOr_0 : decode cX4_popsOr 0 = .ok (.iload_n 1, 1) := by decide +kernel
theorem dX4_popsOr_1 : decode cX4_popsOr 1 = .ok (.iconst 2, 1) := by decide +kernel
theorem dX4_popsOr_2 : decode cX4_popsOr 2 = .ok (.irem, 1) := by decide +kernel
theorem dX4_popsOr_3 : decode cX4_popsOr 3 = .ok (.ifCond .ne 44, 3) := by decide +kernel
theorem dX4_popsOr_6 : decode cX4_popsOr 6 = .ok (.aload_n 0, 1) := by decide +kernel
theorem dX4_popsOr_7 : decode cX4_popsOr 7 = .ok (.invokevirtual 187, 3) := by decide +kernel
theorem dX4_popsOr_10 : decode cX4_popsOr 10 = .ok (.istore_n 2, 1) := by decide +kernel
theorem dX4_popsOr_11 : decode cX4_popsOr 11 = .ok (.iload_n 1, 1) := by decide +kernel
theorem dX4_popsOr_12 : decode cX4_popsOr 12 = .ok (.bipush 6, 2) := by decide +kernel
theorem dX4_popsOr_14 : decode cX4_popsOr 14 = .ok (.if_icmp .ne 22, 3) := by decide +kernel
theorem dX4_popsOr_17 : decode cX4_popsOr 17 = .ok (.aload_n 0, 1) := by decide +kernel
theorem dX4_popsOr_18 : decode cX4_popsOr 18 = .ok (.getfield 14, 3) := by decide +kernel
theorem dX4_popsOr_21 : decode cX4_popsOr 21 = .ok (.bipush 7, 2) := by decide +kernel
theorem dX4_popsOr_23 : decode cX4_popsOr 23 = .ok (.iload_n 2, 1) := by decide +kernel
theorem dX4_popsOr_24 : decode cX4_popsOr 24 = .ok (.bipush 8, 2) := by decide +kernel
theorem dX4_popsOr_26 : decode cX4_popsOr 26 = .ok (.ishr, 1) := by decide +kernel
theorem dX4_popsOr_27 : decode cX4_popsOr 27 = .ok (.iastore, 1) := by decide +kernel
theorem dX4_popsOr_28 : decode cX4_popsOr 28 = .ok (.aload_n 0, 1) := by decide +kernel
theorem dX4_popsOr_29 : decode cX4_popsOr 29 = .ok (.iload_n 2, 1) := by decide +kernel
theorem dX4_popsOr_30 : decode cX4_popsOr 30 = .ok (.invokevirtual 194, 3) := by decide +kernel
theorem dX4_popsOr_33 : decode cX4_popsOr 33 = .ok (.goto 11, 3) := by decide +kernel
theorem dX4_popsOr_36 : decode cX4_popsOr 36 = .ok (.aload_n 0, 1) := by decide +kernel
theorem dX4_popsOr_37 : decode cX4_popsOr 37 = .ok (.iload_n 1, 1) := by decide +kernel
theorem dX4_popsOr_38 : decode cX4_popsOr 38 = .ok (.iconst 1, 1) := by decide +kernel
theorem dX4_popsOr_39 : decode cX4_popsOr 39 = .ok (.ishr, 1) := by decide +kernel
theorem dX4_popsOr_40 : decode cX4_popsOr 40 = .ok (.iload_n 2, 1) := by decide +kernel
theorem dX4_popsOr_41 : decode cX4_popsOr 41 = .ok (.invokevirtual 144, 3) := by decide +kernel
theorem dX4_popsOr_44 : decode cX4_popsOr 44 = .ok (.goto 79, 3) := by decide +kernel
theorem dX4_popsOr_47 : decode cX4_popsOr 47 = .ok (.iload_n 1, 1) := by decide +kernel
theorem dX4_popsOr_48 : decode cX4_popsOr 48 = .ok (.iconst 5, 1) := by decide +kernel
theorem dX4_popsOr_49 : decode cX4_popsOr 49 = .ok (.if_icmp .ne 14, 3) := by decide +kernel
theorem dX4_popsOr_52 : decode cX4_popsOr 52 = .ok (.aload_n 0, 1) := by decide +kernel
theorem dX4_popsOr_53 : decode cX4_popsOr 53 = .ok (.aload_n 0, 1) := by decide +kernel
theorem dX4_popsOr_54 : decode cX4_popsOr 54 = .ok (.invokevirtual 67, 3) := by decide +kernel
theorem dX4_popsOr_57 : decode cX4_popsOr 57 = .ok (.putfield 38, 3) := by decide +kernel
theorem dX4_popsOr_60 : decode cX4_popsOr 60 = .ok (.goto 63, 3) := by decide +kernel
theorem dX4_popsOr_63 : decode cX4_popsOr 63 = .ok (.iload_n 1, 1) := by decide +kernel
theorem dX4_popsOr_64 : decode cX4_popsOr 64 = .ok (.bipush 7, 2) := by decide +kernel
theorem dX4_popsOr_66 : decode cX4_popsOr 66 = .ok (.if_icmp .ne 24, 3) := by decide +kernel
theorem dX4_popsOr_69 : decode cX4_popsOr 69 = .ok (.aload_n 0, 1) := by decide +kernel
theorem dX4_popsOr_70 : decode cX4_popsOr 70 = .ok (.dup, 1) := by decide +kernel
theorem dX4_popsOr_71 : decode cX4_popsOr 71 = .ok (.getfield 23, 3) := by decide +kernel
theorem dX4_popsOr_74 : decode cX4_popsOr 74 = .ok (.iconst 1, 1) := by decide +kernel
theorem dX4_popsOr_75 : decode cX4_popsOr 75 = .ok (.iadd, 1) := by decide +kernel
theorem dX4_popsOr_76 : decode cX4_popsOr 76 = .ok (.putfield 23, 3) := by decide +kernel
theorem dX4_popsOr_79 : decode cX4_popsOr 79 = .ok (.aload_n 0, 1) := by decide +kernel
theorem dX4_popsOr_80 : decode cX4_popsOr 80 = .ok (.aload_n 0, 1) := by decide +kernel
theorem dX4_popsOr_81 : decode cX4_popsOr 81 = .ok (.invokevirtual 67, 3) := by decide +kernel
theorem dX4_popsOr_84 : decode cX4_popsOr 84 = .ok (.putfield 48, 3) := by decide +kernel
theorem dX4_popsOr_87 : decode cX4_popsOr 87 = .ok (.goto 36, 3) := by decide +kernel
theorem dX4_popsOr_90 : decode cX4_popsOr 90 = .ok (.aload_n 0, 1) := by decide +kernel
theorem dX4_popsOr_91 : decode cX4_popsOr 91 = .ok (.aload_n 0, 1) := by decide +kernel
theorem dX4_popsOr_92 : decode cX4_popsOr 92 = .ok (.invokevirtual 187, 3) := by decide +kernel
theorem dX4_popsOr_95 : decode cX4_popsOr 95 = .ok (.putfield 38, 3) := by decide +kernel
theorem dX4_popsOr_98 : decode cX4_popsOr 98 = .ok (.aload_n 0, 1) := by decide +kernel
theorem dX4_popsOr_99 : decode cX4_popsOr 99 = .ok (.dup, 1) := by decide +kernel
theorem dX4_popsOr_100 : decode cX4_popsOr 100 = .ok (.getfield 23, 3) := by decide +kernel
theorem dX4_popsOr_103 : decode cX4_popsOr 103 = .ok (.iconst 1, 1) := by decide +kernel
theorem dX4_popsOr_104 : decode cX4_popsOr 104 = .ok (.iadd, 1) := by decide +kernel
theorem dX4_popsOr_105 : decode cX4_popsOr 105 = .ok (.putfield 23, 3) := by decide +kernel
theorem dX4_popsOr_108 : decode cX4_popsOr 108 = .ok (.iload_n 1, 1) := by decide +kernel
theorem dX4_popsOr_109 : decode cX4_popsOr 109 = .ok (.iconst 3, 1) := by decide +kernel
theorem dX4_popsOr_110 : decode cX4_popsOr 110 = .ok (.if_icmp .ne 13, 3) := by decide +kernel
theorem dX4_popsOr_113 : decode cX4_popsOr 113 = .ok (.aload_n 0, 1) := by decide +kernel
theorem dX4_popsOr_114 : decode cX4_popsOr 114 = .ok (.iconst 1, 1) := by decide +kernel
theorem dX4_popsOr_115 : decode cX4_popsOr 115 = .ok (.putfield 104, 3) := by decide +kernel
theorem dX4_popsOr_118 : decode cX4_popsOr 118 = .ok (.aload_n 0, 1) := by decide +kernel
theorem dX4_popsOr_119 : decode cX4_popsOr 119 = .ok (.iconst 0, 1) := by decide +kernel
theorem dX4_popsOr_120 : decode cX4_popsOr 120 = .ok (.putfield 197, 3) := by decide +kernel
theorem dX4_popsOr_123 : decode cX4_popsOr 123 = .ok (.return_, 1) := by decide +kernel
theorem dX4_far_0 : decode cX4_far 0 = .ok (.iload_n 1, 1) := by decide +kernel
theorem dX4_far_1 : decode cX4_far 1 = .ok (.iconst 2, 1) := by decide +kernel
theorem dX4_far_2 : decode cX4_far 2 = .ok (.irem, 1) := by decide +kernel
theorem dX4_far_3 : decode cX4_far 3 = .ok (.ifCond .ne 15, 3) := by decide +kernel
theorem dX4_far_6 : decode cX4_far 6 = .ok (.ldc 190, 2) := by decide +kernel
theorem dX4_far_8 : decode cX4_far 8 = .ok (.aload_n 0, 1) := by decide +kernel
theorem dX4_far_9 : decode cX4_far 9 = .ok (.getfield 14, 3) := by decide +kernel
theorem dX4_far_12 : decode cX4_far 12 = .ok (.iconst 1, 1) := by decide +kernel
theorem dX4_far_13 : decode cX4_far 13 = .ok (.iaload, 1) := by decide +kernel
theorem dX4_far_14 : decode cX4_far 14 = .ok (.iadd, 1) := by decide +kernel
theorem dX4_far_15 : decode cX4_far 15 = .ok (.goto 7, 3) := by decide +kernel
theorem dX4_far_18 : decode cX4_far 18 = .ok (.aload_n 0, 1) := by decide +kernel
theorem dX4_far_19 : decode cX4_far 19 = .ok (.invokevirtual 119, 3) := by decide +kernel
theorem dX4_far_22 : decode cX4_far 22 = .ok (.istore_n 2, 1) := by decide +kernel
theorem dX4_far_23 : decode cX4_far 23 = .ok (.iload_n 1, 1) := by decide +kernel
theorem dX4_far_24 : decode cX4_far 24 = .ok (.bipush 6, 2) := by decide +kernel
theorem dX4_far_26 : decode cX4_far 26 = .ok (.if_icmp .ge 18, 3) := by decide +kernel
theorem dX4_far_29 : decode cX4_far 29 = .ok (.aload_n 0, 1) := by decide +kernel
theorem dX4_far_30 : decode cX4_far 30 = .ok (.iload_n 2, 1) := by decide +kernel
theorem dX4_far_31 : decode cX4_far 31 = .ok (.aload_n 0, 1) := by decide +kernel
theorem dX4_far_32 : decode cX4_far 32 = .ok (.getfield 14, 3) := by decide +kernel
theorem dX4_far_35 : decode cX4_far 35 = .ok (.bipush 7, 2) := by decide +kernel
theorem dX4_far_37 : decode cX4_far 37 = .ok (.iaload, 1) := by decide +kernel
theorem dX4_far_38 : decode cX4_far 38 = .ok (.invokevirtual 51, 3) := by decide +kernel
theorem dX4_far_41 : decode cX4_far 41 = .ok (.goto 15, 3) := by decide +kernel
theorem dX4_far_44 : decode cX4_far 44 = .ok (.aload_n 0, 1) := by decide +kernel
theorem dX4_far_45 : decode cX4_far 45 = .ok (.getfield 14, 3) := by decide +kernel
theorem dX4_far_48 : decode cX4_far 48 = .ok (.bipush 7, 2) := by decide +kernel
theorem dX4_far_50 : decode cX4_far 50 = .ok (.aload_n 0, 1) := by decide +kernel
theorem dX4_far_51 : decode cX4_far 51 = .ok (.iload_n 2, 1) := by decide +kernel
theorem dX4_far_52 : decode cX4_far 52 = .ok (.invokevirtual 41, 3) := by decide +kernel
theorem dX4_far_55 : decode cX4_far 55 = .ok (.iastore, 1) := by decide +kernel
theorem dX4_far_56 : decode cX4_far 56 = .ok (.return_, 1) := by decide +kernel
theorem dX4_others_0 : decode cX4_others 0 = .ok (.iload_n 1, 1) := by decide +kernel
theorem dX4_others_1 : decode cX4_others 1 = .ok (.ifCond .ne 24, 3) := by decide +kernel
theorem dX4_others_4 : decode cX4_others 4 = .ok (.aload_n 0, 1) := by decide +kernel
theorem dX4_others_5 : decode cX4_others 5 = .ok (.dup, 1) := by decide +kernel
theorem dX4_others_6 : decode cX4_others 6 = .ok (.getfield 23, 3) := by decide +kernel
theorem dX4_others_9 : decode cX4_others 9 = .ok (.iconst 1, 1) := by decide +kernel
theorem dX4_others_10 : decode cX4_others 10 = .ok (.iadd, 1) := by decide +kernel
theorem dX4_others_11 : decode cX4_others 11 = .ok (.putfield 23, 3) := by decide +kernel
theorem dX4_others_14 : decode cX4_others 14 = .ok (.aload_n 0, 1) := by decide +kernel
theorem dX4_others_15 : decode cX4_others 15 = .ok (.aload_n 0, 1) := by decide +kernel
theorem dX4_others_16 : decode cX4_others 16 = .ok (.invokevirtual 119, 3) := by decide +kernel
theorem dX4_others_19 : decode cX4_others 19 = .ok (.putfield 38, 3) := by decide +kernel
theorem dX4_others_22 : decode cX4_others 22 = .ok (.goto 54, 3) := by decide +kernel
theorem dX4_others_25 : decode cX4_others 25 = .ok (.iload_n 1, 1) := by decide +kernel
theorem dX4_others_26 : decode cX4_others 26 = .ok (.iconst 1, 1) := by decide +kernel
theorem dX4_others_27 : decode cX4_others 27 = .ok (.if_icmp .ne 14, 3) := by decide +kernel
theorem dX4_others_30 : decode cX4_others 30 = .ok (.aload_n 0, 1) := by decide +kernel
theorem dX4_others_31 : decode cX4_others 31 = .ok (.aload_n 0, 1) := by decide +kernel
theorem dX4_others_32 : decode cX4_others 32 = .ok (.invokevirtual 44, 3) := by decide +kernel
theorem dX4_others_35 : decode cX4_others 35 = .ok (.invokevirtual 200, 3) := by decide +kernel
theorem dX4_others_38 : decode cX4_others 38 = .ok (.goto 38, 3) := by decide +kernel
theorem dX4_others_41 : decode cX4_others 41 = .ok (.iload_n 1, 1) := by decide +kernel
theorem dX4_others_42 : decode cX4_others 42 = .ok (.bipush 6, 2) := by decide +kernel
theorem dX4_others_44 : decode cX4_others 44 = .ok (.if_icmp .ne 16, 3) := by decide +kernel
theorem dX4_others_47 : decode cX4_others 47 = .ok (.aload_n 0, 1) := by decide +kernel
theorem dX4_others_48 : decode cX4_others 48 = .ok (.iconst 0, 1) := by decide +kernel
theorem dX4_others_49 : decode cX4_others 49 = .ok (.putfield 104, 3) := by decide +kernel
theorem dX4_others_52 : decode cX4_others 52 = .ok (.aload_n 0, 1) := by decide +kernel
theorem dX4_others_53 : decode cX4_others 53 = .ok (.iconst 0, 1) := by decide +kernel
theorem dX4_others_54 : decode cX4_others 54 = .ok (.putfield 197, 3) := by decide +kernel
theorem dX4_others_57 : decode cX4_others 57 = .ok (.goto 19, 3) := by decide +kernel
theorem dX4_others_60 : decode cX4_others 60 = .ok (.aload_n 0, 1) := by decide +kernel
theorem dX4_others_61 : decode cX4_others 61 = .ok (.aload_n 0, 1) := by decide +kernel
theorem dX4_others_62 : decode cX4_others 62 = .ok (.getfield 104, 3) := by decide +kernel
theorem dX4_others_65 : decode cX4_others 65 = .ok (.ifCond .ne 7, 3) := by decide +kernel
theorem dX4_others_68 : decode cX4_others 68 = .ok (.iconst 1, 1) := by decide +kernel
theorem dX4_others_69 : decode cX4_others 69 = .ok (.goto 4, 3) := by decide +kernel
theorem dX4_others_72 : decode cX4_others 72 = .ok (.iconst 0, 1) := by decide +kernel
theorem dX4_others_73 : decode cX4_others 73 = .ok (.putfield 203, 3) := by decide +kernel
theorem dX4_others_76 : decode cX4_others 76 = .ok (.return_, 1) := by decide +kernel
theorem dX4_extended_0 : decode cX4_extended 0 = .ok (.iload_n 1, 1) := by decide +kernel
theorem dX4_extended_1 : decode cX4_extended 1 = .ok (.iconst 3, 1) := by decide +kernel
theorem dX4_extended_2 : decode cX4_extended 2 = .ok (.ishr, 1) := by decide +kernel
theorem dX4_extended_3 : decode cX4_extended 3 = .ok (.bipush 7, 2) := by decide +kernel
theorem dX4_extended_5 : decode cX4_extended 5 = .ok (.iand, 1) := by decide +kernel
theorem dX4_extended_6 : decode cX4_extended 6 = .ok (.istore_n 2, 1) := by decide +kernel
theorem dX4_extended_7 : decode cX4_extended 7 = .ok (.iload_n 1, 1) := by decide +kernel
theorem dX4_extended_8 : decode cX4_extended 8 = .ok (.bipush 7, 2) := by decide +kernel
theorem dX4_extended_10 : decode cX4_extended 10 = .ok (.iand, 1) := by decide +kernel
theorem dX4_extended_11 : decode cX4_extended 11 = .ok (.istore_n 3, 1) := by decide +kernel
theorem dX4_extended_12 : decode cX4_extended 12 = .ok (.aload_n 0, 1) := by decide +kernel
theorem dX4_extended_13 : decode cX4_extended 13 = .ok (.iload_n 3, 1) := by decide +kernel
theorem dX4_extended_14 : decode cX4_extended 14 = .ok (.invokevirtual 91, 3) := by decide +kernel
theorem dX4_extended_17 : decode cX4_extended 17 = .ok (.istore 4, 2) := by decide +kernel
theorem dX4_extended_19 : decode cX4_extended 19 = .ok (.iload_n 1, 1) := by decide +kernel
theorem dX4_extended_20 : decode cX4_extended 20 = .ok (.bipush 6, 2) := by decide +kernel
theorem dX4_extended_22 : decode cX4_extended 22 = .ok (.ishr, 1) := by decide +kernel
theorem dX4_extended_23 : decode cX4_extended 23 = .ok (.tableswitch 83 0 2 #[25, 40, 67], 25) := by decide +kernel
theorem dX4_extended_48 : decode cX4_extended 48 = .ok (.aload_n 0, 1) := by decide +kernel
theorem dX4_extended_49 : decode cX4_extended 49 = .ok (.iload_n 3, 1) := by decide +kernel
theorem dX4_extended_50 : decode cX4_extended 50 = .ok (.aload_n 0, 1) := by decide +kernel
theorem dX4_extended_51 : decode cX4_extended 51 = .ok (.iload_n 2, 1) := by decide +kernel
theorem dX4_extended_52 : decode cX4_extended 52 = .ok (.iload 4, 2) := by decide +kernel
theorem dX4_extended_54 : decode cX4_extended 54 = .ok (.invokevirtual 151, 3) := by decide +kernel
theorem dX4_extended_57 : decode cX4_extended 57 = .ok (.invokevirtual 94, 3) := by decide +kernel
theorem dX4_extended_60 : decode cX4_extended 60 = .ok (.goto 57, 3) := by decide +kernel
theorem dX4_extended_63 : decode cX4_extended 63 = .ok (.aload_n 0, 1) := by decide +kernel
theorem dX4_extended_64 : decode cX4_extended 64 = .ok (.iload 4, 2) := by decide +kernel
theorem dX4_extended_66 : decode cX4_extended 66 = .ok (.iload_n 2, 1) := by decide +kernel
theorem dX4_extended_67 : decode cX4_extended 67 = .ok (.ishr, 1) := by decide +kernel
theorem dX4_extended_68 : decode cX4_extended 68 = .ok (.iconst 1, 1) := by decide +kernel
theorem dX4_extended_69 : decode cX4_extended 69 = .ok (.iand, 1) := by decide +kernel
theorem dX4_extended_70 : decode cX4_extended 70 = .ok (.ifCond .ne 7, 3) := by decide +kernel
theorem dX4_extended_73 : decode cX4_extended 73 = .ok (.iconst 1, 1) := by decide +kernel
theorem dX4_extended_74 : decode cX4_extended 74 = .ok (.goto 4, 3) := by decide +kernel
theorem dX4_extended_77 : decode cX4_extended 77 = .ok (.iconst 0, 1) := by decide +kernel
theorem dX4_extended_78 : decode cX4_extended 78 = .ok (.iconst 0, 1) := by decide +kernel
theorem dX4_extended_79 : decode cX4_extended 79 = .ok (.iconst 1, 1) := by decide +kernel
theorem dX4_extended_80 : decode cX4_extended 80 = .ok (.aload_n 0, 1) := by decide +kernel
theorem dX4_extended_81 : decode cX4_extended 81 = .ok (.getfield 64, 3) := by decide +kernel
theorem dX4_extended_84 : decode cX4_extended 84 = .ok (.invokevirtual 70, 3) := by decide +kernel
theorem dX4_extended_87 : decode cX4_extended 87 = .ok (.goto 30, 3) := by decide +kernel
theorem dX4_extended_90 : decode cX4_extended 90 = .ok (.aload_n 0, 1) := by decide +kernel
theorem dX4_extended_91 : decode cX4_extended 91 = .ok (.iload_n 3, 1) := by decide +kernel
theorem dX4_extended_92 : decode cX4_extended 92 = .ok (.iload 4, 2) := by decide +kernel
theorem dX4_extended_94 : decode cX4_extended 94 = .ok (.iconst 1, 1) := by decide +kernel
theorem dX4_extended_95 : decode cX4_extended 95 = .ok (.iload_n 2, 1) := by decide +kernel
theorem dX4_extended_96 : decode cX4_extended 96 = .ok (.ishl, 1) := by decide +kernel
theorem dX4_extended_97 : decode cX4_extended 97 = .ok (.iconst (-1), 1) := by decide +kernel
theorem dX4_extended_98 : decode cX4_extended 98 = .ok (.ixor, 1) := by decide +kernel
theorem dX4_extended_99 : decode cX4_extended 99 = .ok (.iand, 1) := by decide +kernel
theorem dX4_extended_100 : decode cX4_extended 100 = .ok (.invokevirtual 94, 3) := by decide +kernel
theorem dX4_extended_103 : decode cX4_extended 103 = .ok (.goto 14, 3) := by decide +kernel
theorem dX4_extended_106 : decode cX4_extended 106 = .ok (.aload_n 0, 1) := by decide +kernel
theorem dX4_extended_107 : decode cX4_extended 107 = .ok (.iload_n 3, 1) := by decide +kernel
theorem dX4_extended_108 : decode cX4_extended 108 = .ok (.iload 4, 2) := by decide +kernel
theorem dX4_extended_110 : decode cX4_extended 110 = .ok (.iconst 1, 1) := by decide +kernel
theorem dX4_extended_111 : decode cX4_extended 111 = .ok (.iload_n 2, 1) := by decide +kernel
theorem dX4_extended_112 : decode cX4_extended 112 = .ok (.ishl, 1) := by decide +kernel
theorem dX4_extended_113 : decode cX4_extended 113 = .ok (.ior, 1) := by decide +kernel
theorem dX4_extended_114 : decode cX4_extended 114 = .ok (.invokevirtual 94, 3) := by decide +kernel
theorem dX4_extended_117 : decode cX4_extended 117 = .ok (.return_, 1) := by decide +kernel
theorem dX4_dispatch_0 : decode cX4_dispatch 0 = .ok (.iconst 0, 1) := by decide +kernel
theorem dX4_dispatch_1 : decode cX4_dispatch 1 = .ok (.istore_n 2, 1) := by decide +kernel
theorem dX4_dispatch_2 : decode cX4_dispatch 2 = .ok (.iload_n 1, 1) := by decide +kernel
theorem dX4_dispatch_3 : decode cX4_dispatch 3 = .ok (.iload_n 2, 1) := by decide +kernel
theorem dX4_dispatch_4 : decode cX4_dispatch 4 = .ok (.ishr, 1) := by decide +kernel
theorem dX4_dispatch_5 : decode cX4_dispatch 5 = .ok (.iconst 1, 1) := by decide +kernel
theorem dX4_dispatch_6 : decode cX4_dispatch 6 = .ok (.iand, 1) := by decide +kernel
theorem dX4_dispatch_7 : decode cX4_dispatch 7 = .ok (.ifCond .ne 9, 3) := by decide +kernel
theorem dX4_dispatch_10 : decode cX4_dispatch 10 = .ok (.iinc 2 1, 3) := by decide +kernel
theorem dX4_dispatch_13 : decode cX4_dispatch 13 = .ok (.goto (-11), 3) := by decide +kernel
theorem dX4_dispatch_16 : decode cX4_dispatch 16 = .ok (.aload_n 0, 1) := by decide +kernel
theorem dX4_dispatch_17 : decode cX4_dispatch 17 = .ok (.iconst 0, 1) := by decide +kernel
theorem dX4_dispatch_18 : decode cX4_dispatch 18 = .ok (.putfield 104, 3) := by decide +kernel
theorem dX4_dispatch_21 : decode cX4_dispatch 21 = .ok (.aload_n 0, 1) := by decide +kernel
theorem dX4_dispatch_22 : decode cX4_dispatch 22 = .ok (.iconst 0, 1) := by decide +kernel
theorem dX4_dispatch_23 : decode cX4_dispatch 23 = .ok (.putfield 107, 3) := by decide +kernel
theorem dX4_dispatch_26 : decode cX4_dispatch 26 = .ok (.aload_n 0, 1) := by decide +kernel
theorem dX4_dispatch_27 : decode cX4_dispatch 27 = .ok (.ldc 103, 2) := by decide +kernel
theorem dX4_dispatch_29 : decode cX4_dispatch 29 = .ok (.aload_n 0, 1) := by decide +kernel
theorem dX4_dispatch_30 : decode cX4_dispatch 30 = .ok (.ldc 103, 2) := by decide +kernel
theorem dX4_dispatch_32 : decode cX4_dispatch 32 = .ok (.invokevirtual 26, 3) := by decide +kernel
theorem dX4_dispatch_35 : decode cX4_dispatch 35 = .ok (.iconst 1, 1) := by decide +kernel
theorem dX4_dispatch_36 : decode cX4_dispatch 36 = .ok (.iload_n 2, 1) := by decide +kernel
theorem dX4_dispatch_37 : decode cX4_dispatch 37 = .ok (.ishl, 1) := by decide +kernel
theorem dX4_dispatch_38 : decode cX4_dispatch 38 = .ok (.iconst (-1), 1) := by decide +kernel
theorem dX4_dispatch_39 : decode cX4_dispatch 39 = .ok (.ixor, 1) := by decide +kernel
theorem dX4_dispatch_40 : decode cX4_dispatch 40 = .ok (.iand, 1) := by decide +kernel
theorem dX4_dispatch_41 : decode cX4_dispatch 41 = .ok (.invokevirtual 31, 3) := by decide +kernel
theorem dX4_dispatch_44 : decode cX4_dispatch 44 = .ok (.aload_n 0, 1) := by decide +kernel
theorem dX4_dispatch_45 : decode cX4_dispatch 45 = .ok (.iconst 3, 1) := by decide +kernel
theorem dX4_dispatch_46 : decode cX4_dispatch 46 = .ok (.putfield 23, 3) := by decide +kernel
theorem dX4_dispatch_49 : decode cX4_dispatch 49 = .ok (.aload_n 0, 1) := by decide +kernel
theorem dX4_dispatch_50 : decode cX4_dispatch 50 = .ok (.aload_n 0, 1) := by decide +kernel
theorem dX4_dispatch_51 : decode cX4_dispatch 51 = .ok (.getfield 38, 3) := by decide +kernel
theorem dX4_dispatch_54 : decode cX4_dispatch 54 = .ok (.invokevirtual 181, 3) := by decide +kernel
theorem dX4_dispatch_57 : decode cX4_dispatch 57 = .ok (.aload_n 0, 1) := by decide +kernel
theorem dX4_dispatch_58 : decode cX4_dispatch 58 = .ok (.bipush 64, 2) := by decide +kernel
theorem dX4_dispatch_60 : decode cX4_dispatch 60 = .ok (.bipush 8, 2) := by decide +kernel
theorem dX4_dispatch_62 : decode cX4_dispatch 62 = .ok (.iload_n 2, 1) := by decide +kernel
theorem dX4_dispatch_63 : decode cX4_dispatch 63 = .ok (.imul, 1) := by decide +kernel
theorem dX4_dispatch_64 : decode cX4_dispatch 64 = .ok (.iadd, 1) := by decide +kernel
theorem dX4_dispatch_65 : decode cX4_dispatch 65 = .ok (.putfield 38, 3) := by decide +kernel
theorem dX4_dispatch_68 : decode cX4_dispatch 68 = .ok (.return_, 1) := by decide +kernel
theorem dX4_time_0 : decode cX4_time 0 = .ok (.iconst 0, 1) := by decide +kernel
theorem dX4_time_1 : decode cX4_time 1 = .ok (.istore_n 1, 1) := by decide +kernel
theorem dX4_time_2 : decode cX4_time 2 = .ok (.iload_n 1, 1) := by decide +kernel
theorem dX4_time_3 : decode cX4_time 3 = .ok (.aload_n 0, 1) := by decide +kernel
theorem dX4_time_4 : decode cX4_time 4 = .ok (.getfield 23, 3) := by decide +kernel
theorem dX4_time_7 : decode cX4_time 7 = .ok (.if_icmp .ge 159, 3) := by decide +kernel
theorem dX4_time_10 : decode cX4_time 10 = .ok (.aload_n 0, 1) := by decide +kernel
theorem dX4_time_11 : decode cX4_time 11 = .ok (.aload_n 0, 1) := by decide +kernel
theorem dX4_time_12 : decode cX4_time 12 = .ok (.getfield 35, 3) := by decide +kernel
theorem dX4_time_15 : decode cX4_time 15 = .ok (.iconst 1, 1) := by decide +kernel
theorem dX4_time_16 : decode cX4_time 16 = .ok (.iadd, 1) := by decide +kernel
theorem dX4_time_17 : decode cX4_time 17 = .ok (.sipush 255, 3) := by decide +kernel
theorem dX4_time_20 : decode cX4_time 20 = .ok (.iand, 1) := by decide +kernel
theorem dX4_time_21 : decode cX4_time 21 = .ok (.putfield 35, 3) := by decide +kernel
theorem dX4_time_24 : decode cX4_time 24 = .ok (.aload_n 0, 1) := by decide +kernel
theorem dX4_time_25 : decode cX4_time 25 = .ok (.getfield 35, 3) := by decide +kernel
theorem dX4_time_28 : decode cX4_time 28 = .ok (.bipush 64, 2) := by decide +kernel
theorem dX4_time_30 : decode cX4_time 30 = .ok (.irem, 1) := by decide +kernel
theorem dX4_time_31 : decode cX4_time 31 = .ok (.ifCond .ne 17, 3) := by decide +kernel
theorem dX4_time_34 : decode cX4_time 34 = .ok (.aload_n 0, 1) := by decide +kernel
theorem dX4_time_35 : decode cX4_time 35 = .ok (.ldc 30, 2) := by decide +kernel
theorem dX4_time_37 : decode cX4_time 37 = .ok (.aload_n 0, 1) := by decide +kernel
theorem dX4_time_38 : decode cX4_time 38 = .ok (.ldc 30, 2) := by decide +kernel
theorem dX4_time_40 : decode cX4_time 40 = .ok (.invokevirtual 26, 3) := by decide +kernel
theorem dX4_time_43 : decode cX4_time 43 = .ok (.iconst 1, 1) := by decide +kernel
theorem dX4_time_44 : decode cX4_time 44 = .ok (.iadd, 1) := by decide +kernel
theorem dX4_time_45 : decode cX4_time 45 = .ok (.invokevirtual 31, 3) := by decide +kernel
theorem dX4_time_48 : decode cX4_time 48 = .ok (.aload_n 0, 1) := by decide +kernel
theorem dX4_time_49 : decode cX4_time 49 = .ok (.ldc 206, 2) := by decide +kernel
theorem dX4_time_51 : decode cX4_time 51 = .ok (.invokevirtual 26, 3) := by decide +kernel
theorem dX4_time_54 : decode cX4_time 54 = .ok (.istore_n 2, 1) := by decide +kernel
theorem dX4_time_55 : decode cX4_time 55 = .ok (.iload_n 2, 1) := by decide +kernel
theorem dX4_time_56 : decode cX4_time 56 = .ok (.iconst 4, 1) := by decide +kernel
theorem dX4_time_57 : decode cX4_time 57 = .ok (.irem, 1) := by decide +kernel
theorem dX4_time_58 : decode cX4_time 58 = .ok (.ifCond .ne 9, 3) := by decide +kernel
theorem dX4_time_61 : decode cX4_time 61 = .ok (.sipush 256, 3) := by decide +kernel
theorem dX4_time_64 : decode cX4_time 64 = .ok (.goto 28, 3) := by decide +kernel
theorem dX4_time_67 : decode cX4_time 67 = .ok (.iload_n 2, 1) := by decide +kernel
theorem dX4_time_68 : decode cX4_time 68 = .ok (.iconst 4, 1) := by decide +kernel
theorem dX4_time_69 : decode cX4_time 69 = .ok (.irem, 1) := by decide +kernel
theorem dX4_time_70 : decode cX4_time 70 = .ok (.iconst 1, 1) := by decide +kernel
theorem dX4_time_71 : decode cX4_time 71 = .ok (.if_icmp .ne 7, 3) := by decide +kernel
theorem dX4_time_74 : decode cX4_time 74 = .ok (.iconst 4, 1) := by decide +kernel
theorem dX4_time_75 : decode cX4_time 75 = .ok (.goto 17, 3) := by decide +kernel
theorem dX4_time_78 : decode cX4_time 78 = .ok (.iload_n 2, 1) := by decide +kernel
theorem dX4_time_79 : decode cX4_time 79 = .ok (.iconst 4, 1) := by decide +kernel
theorem dX4_time_80 : decode cX4_time 80 = .ok (.irem, 1) := by decide +kernel
theorem dX4_time_81 : decode cX4_time 81 = .ok (.iconst 2, 1) := by decide +kernel
theorem dX4_time_82 : decode cX4_time 82 = .ok (.if_icmp .ne 8, 3) := by decide +kernel
theorem dX4_time_85 : decode cX4_time 85 = .ok (.bipush 16, 2) := by decide +kernel
theorem dX4_time_87 : decode cX4_time 87 = .ok (.goto 5, 3) := by decide +kernel
theorem dX4_time_90 : decode cX4_time 90 = .ok (.bipush 64, 2) := by decide +kernel
theorem dX4_time_92 : decode cX4_time 92 = .ok (.istore_n 3, 1) := by decide +kernel
theorem dX4_time_93 : decode cX4_time 93 = .ok (.iload_n 2, 1) := by decide +kernel
theorem dX4_time_94 : decode cX4_time 94 = .ok (.iconst 4, 1) := by decide +kernel
theorem dX4_time_95 : decode cX4_time 95 = .ok (.iand, 1) := by decide +kernel
theorem dX4_time_96 : decode cX4_time 96 = .ok (.ifCond .eq 64, 3) := by decide +kernel
theorem dX4_time_99 : decode cX4_time 99 = .ok (.aload_n 0, 1) := by decide +kernel
theorem dX4_time_100 : decode cX4_time 100 = .ok (.getfield 35, 3) := by decide +kernel
theorem dX4_time_103 : decode cX4_time 103 = .ok (.iload_n 3, 1) := by decide +kernel
theorem dX4_time_104 : decode cX4_time 104 = .ok (.irem, 1) := by decide +kernel
theorem dX4_time_105 : decode cX4_time 105 = .ok (.ifCond .eq 6, 3) := by decide +kernel
theorem dX4_time_108 : decode cX4_time 108 = .ok (.goto 52, 3) := by decide +kernel
theorem dX4_time_111 : decode cX4_time 111 = .ok (.aload_n 0, 1) := by decide +kernel
theorem dX4_time_112 : decode cX4_time 112 = .ok (.ldc 207, 2) := by decide +kernel
theorem dX4_time_114 : decode cX4_time 114 = .ok (.aload_n 0, 1) := by decide +kernel
theorem dX4_time_115 : decode cX4_time 115 = .ok (.ldc 207, 2) := by decide +kernel
theorem dX4_time_117 : decode cX4_time 117 = .ok (.invokevirtual 26, 3) := by decide +kernel
theorem dX4_time_120 : decode cX4_time 120 = .ok (.iconst 1, 1) := by decide +kernel
theorem dX4_time_121 : decode cX4_time 121 = .ok (.iadd, 1) := by decide +kernel
theorem dX4_time_122 : decode cX4_time 122 = .ok (.invokevirtual 31, 3) := by decide +kernel
theorem dX4_time_125 : decode cX4_time 125 = .ok (.aload_n 0, 1) := by decide +kernel
theorem dX4_time_126 : decode cX4_time 126 = .ok (.ldc 207, 2) := by decide +kernel
theorem dX4_time_128 : decode cX4_time 128 = .ok (.invokevirtual 26, 3) := by decide +kernel
theorem dX4_time_131 : decode cX4_time 131 = .ok (.ifCond .ne 29, 3) := by decide +kernel
theorem dX4_time_134 : decode cX4_time 134 = .ok (.aload_n 0, 1) := by decide +kernel
theorem dX4_time_135 : decode cX4_time 135 = .ok (.ldc 207, 2) := by decide +kernel
theorem dX4_time_137 : decode cX4_time 137 = .ok (.aload_n 0, 1) := by decide +kernel
theorem dX4_time_138 : decode cX4_time 138 = .ok (.ldc 208, 2) := by decide +kernel
theorem dX4_time_140 : decode cX4_time 140 = .ok (.invokevirtual 26, 3) := by decide +kernel
theorem dX4_time_143 : decode cX4_time 143 = .ok (.invokevirtual 31, 3) := by decide +kernel
theorem dX4_time_146 : decode cX4_time 146 = .ok (.aload_n 0, 1) := by decide +kernel
theorem dX4_time_147 : decode cX4_time 147 = .ok (.ldc 103, 2) := by decide +kernel
theorem dX4_time_149 : decode cX4_time 149 = .ok (.aload_n 0, 1) := by decide +kernel
theorem dX4_time_150 : decode cX4_time 150 = .ok (.ldc 103, 2) := by decide +kernel
theorem dX4_time_152 : decode cX4_time 152 = .ok (.invokevirtual 26, 3) := by decide +kernel
theorem dX4_time_155 : decode cX4_time 155 = .ok (.iconst 4, 1) := by decide +kernel
theorem dX4_time_156 : decode cX4_time 156 = .ok (.ior, 1) := by decide +kernel
theorem dX4_time_157 : decode cX4_time 157 = .ok (.invokevirtual 31, 3) := by decide +kernel
theorem dX4_time_160 : decode cX4_time 160 = .ok (.iinc 1 1, 3) := by decide +kernel
theorem dX4_time_163 : decode cX4_time 163 = .ok (.goto (-161), 3) := by decide +kernel
theorem dX4_time_166 : decode cX4_time 166 = .ok (.aload_n 0, 1) := by decide +kernel
theorem dX4_time_167 : decode cX4_time 167 = .ok (.aload_n 0, 1) := by decide +kernel
theorem dX4_time_168 : decode cX4_time 168 = .ok (.getfield 209, 3) := by decide +kernel
theorem dX4_time_171 : decode cX4_time 171 = .ok (.aload_n 0, 1) := by decide +kernel
theorem dX4_time_172 : decode cX4_time 172 = .ok (.getfield 23, 3) := by decide +kernel
theorem dX4_time_175 : decode cX4_time 175 = .ok (.iadd, 1) := by decide +kernel
theorem dX4_time_176 : decode cX4_time 176 = .ok (.ldc 212, 2) := by decide +kernel
theorem dX4_time_178 : decode cX4_time 178 = .ok (.iand, 1) := by decide +kernel
theorem dX4_time_179 : decode cX4_time 179 = .ok (.putfield 209, 3) := by decide +kernel
theorem dX4_time_182 : decode cX4_time 182 = .ok (.return_, 1) := by decide +kernel
theorem dX4_step_0 : decode cX4_step 0 = .ok (.aload_n 0, 1) := by decide +kernel
theorem dX4_step_1 : decode cX4_step 1 = .ok (.iconst 0, 1) := by decide +kernel
theorem dX4_step_2 : decode cX4_step 2 = .ok (.putfield 18, 3) := by decide +kernel
theorem dX4_step_5 : decode cX4_step 5 = .ok (.aload_n 0, 1) := by decide +kernel
theorem dX4_step_6 : decode cX4_step 6 = .ok (.ldc 22, 2) := by decide +kernel
theorem dX4_step_8 : decode cX4_step 8 = .ok (.invokevirtual 26, 3) := by decide +kernel
theorem dX4_step_11 : decode cX4_step 11 = .ok (.aload_n 0, 1) := by decide +kernel
theorem dX4_step_12 : decode cX4_step 12 = .ok (.ldc 103, 2) := by decide +kernel
theorem dX4_step_14 : decode cX4_step 14 = .ok (.invokevirtual 26, 3) := by decide +kernel
theorem dX4_step_17 : decode cX4_step 17 = .ok (.iand, 1) := by decide +kernel
theorem dX4_step_18 : decode cX4_step 18 = .ok (.bipush 31, 2) := by decide +kernel
theorem dX4_step_20 : decode cX4_step 20 = .ok (.iand, 1) := by decide +kernel
theorem dX4_step_21 : decode cX4_step 21 = .ok (.istore_n 1, 1) := by decide +kernel
theorem dX4_step_22 : decode cX4_step 22 = .ok (.aload_n 0, 1) := by decide +kernel
theorem dX4_step_23 : decode cX4_step 23 = .ok (.iconst 0, 1) := by decide +kernel
theorem dX4_step_24 : decode cX4_step 24 = .ok (.putfield 23, 3) := by decide +kernel
theorem dX4_step_27 : decode cX4_step 27 = .ok (.aload_n 0, 1) := by decide +kernel
theorem dX4_step_28 : decode cX4_step 28 = .ok (.getfield 104, 3) := by decide +kernel
theorem dX4_step_31 : decode cX4_step 31 = .ok (.ifCond .eq 15, 3) := by decide +kernel
theorem dX4_step_34 : decode cX4_step 34 = .ok (.iload_n 1, 1) := by decide +kernel
theorem dX4_step_35 : decode cX4_step 35 = .ok (.ifCond .le 11, 3) := by decide +kernel
theorem dX4_step_38 : decode cX4_step 38 = .ok (.aload_n 0, 1) := by decide +kernel
theorem dX4_step_39 : decode cX4_step 39 = .ok (.iload_n 1, 1) := by decide +kernel
theorem dX4_step_40 : decode cX4_step 40 = .ok (.invokevirtual 213, 3) := by decide +kernel
theorem dX4_step_43 : decode cX4_step 43 = .ok (.goto 102, 3) := by decide +kernel
theorem dX4_step_46 : decode cX4_step 46 = .ok (.aload_n 0, 1) := by decide +kernel
theorem dX4_step_47 : decode cX4_step 47 = .ok (.getfield 107, 3) := by decide +kernel
theorem dX4_step_50 : decode cX4_step 50 = .ok (.ifCond .eq 18, 3) := by decide +kernel
theorem dX4_step_53 : decode cX4_step 53 = .ok (.iload_n 1, 1) := by decide +kernel
theorem dX4_step_54 : decode cX4_step 54 = .ok (.ifCond .ne 14, 3) := by decide +kernel
theorem dX4_step_57 : decode cX4_step 57 = .ok (.aload_n 0, 1) := by decide +kernel
theorem dX4_step_58 : decode cX4_step 58 = .ok (.iconst 1, 1) := by decide +kernel
theorem dX4_step_59 : decode cX4_step 59 = .ok (.putfield 23, 3) := by decide +kernel
theorem dX4_step_62 : decode cX4_step 62 = .ok (.aload_n 0, 1) := by decide +kernel
theorem dX4_step_63 : decode cX4_step 63 = .ok (.invokevirtual 216, 3) := by decide +kernel
theorem dX4_step_66 : decode cX4_step 66 = .ok (.iconst 1, 1) := by decide +kernel
theorem dX4_step_67 : decode cX4_step 67 = .ok (.ireturn, 1) := by decide +kernel
theorem dX4_step_68 : decode cX4_step 68 = .ok (.aload_n 0, 1) := by decide +kernel
theorem dX4_step_69 : decode cX4_step 69 = .ok (.aload_n 0, 1) := by decide +kernel
theorem dX4_step_70 : decode cX4_step 70 = .ok (.getfield 38, 3) := by decide +kernel
theorem dX4_step_73 : decode cX4_step 73 = .ok (.invokevirtual 26, 3) := by decide +kernel
theorem dX4_step_76 : decode cX4_step 76 = .ok (.invokestatic 219, 3) := by decide +kernel
theorem dX4_step_79 : decode cX4_step 79 = .ok (.ifCond .eq 5, 3) := by decide +kernel
theorem dX4_step_82 : decode cX4_step 82 = .ok (.iconst 2, 1) := by decide +kernel
theorem dX4_step_83 : decode cX4_step 83 = .ok (.ireturn, 1) := by decide +kernel
theorem dX4_step_84 : decode cX4_step 84 = .ok (.aload_n 0, 1) := by decide +kernel
theorem dX4_step_85 : decode cX4_step 85 = .ok (.iconst 0, 1) := by decide +kernel
theorem dX4_step_86 : decode cX4_step 86 = .ok (.putfield 107, 3) := by decide +kernel
theorem dX4_step_89 : decode cX4_step 89 = .ok (.aload_n 0, 1) := by decide +kernel
theorem dX4_step_90 : decode cX4_step 90 = .ok (.aload_n 0, 1) := by decide +kernel
theorem dX4_step_91 : decode cX4_step 91 = .ok (.getfield 197, 3) := by decide +kernel
theorem dX4_step_94 : decode cX4_step 94 = .ok (.putfield 110, 3) := by decide +kernel
theorem dX4_step_97 : decode cX4_step 97 = .ok (.aload_n 0, 1) := by decide +kernel
theorem dX4_step_98 : decode cX4_step 98 = .ok (.iconst 0, 1) := by decide +kernel
theorem dX4_step_99 : decode cX4_step 99 = .ok (.putfield 203, 3) := by decide +kernel
theorem dX4_step_102 : decode cX4_step 102 = .ok (.aload_n 0, 1) := by decide +kernel
theorem dX4_step_103 : decode cX4_step 103 = .ok (.invokevirtual 222, 3) := by decide +kernel
theorem dX4_step_106 : decode cX4_step 106 = .ok (.aload_n 0, 1) := by decide +kernel
theorem dX4_step_107 : decode cX4_step 107 = .ok (.getfield 110, 3) := by decide +kernel
theorem dX4_step_110 : decode cX4_step 110 = .ok (.ifCond .eq 23, 3) := by decide +kernel
theorem dX4_step_113 : decode cX4_step 113 = .ok (.aload_n 0, 1) := by decide +kernel
theorem dX4_step_114 : decode cX4_step 114 = .ok (.getfield 197, 3) := by decide +kernel
theorem dX4_step_117 : decode cX4_step 117 = .ok (.ifCond .eq 16, 3) := by decide +kernel
theorem dX4_step_120 : decode cX4_step 120 = .ok (.aload_n 0, 1) := by decide +kernel
theorem dX4_step_121 : decode cX4_step 121 = .ok (.iconst 0, 1) := by decide +kernel
theorem dX4_step_122 : decode cX4_step 122 = .ok (.putfield 197, 3) := by decide +kernel
theorem dX4_step_125 : decode cX4_step 125 = .ok (.aload_n 0, 1) := by decide +kernel
theorem dX4_step_126 : decode cX4_step 126 = .ok (.iconst 1, 1) := by decide +kernel
theorem dX4_step_127 : decode cX4_step 127 = .ok (.putfield 104, 3) := by decide +kernel
theorem dX4_step_130 : decode cX4_step 130 = .ok (.goto 15, 3) := by decide +kernel
theorem dX4_step_133 : decode cX4_step 133 = .ok (.aload_n 0, 1) := by decide +kernel
theorem dX4_step_134 : decode cX4_step 134 = .ok (.getfield 203, 3) := by decide +kernel
theorem dX4_step_137 : decode cX4_step 137 = .ok (.ifCond .eq 8, 3) := by decide +kernel
theorem dX4_step_140 : decode cX4_step 140 = .ok (.aload_n 0, 1) := by decide +kernel
theorem dX4_step_141 : decode cX4_step 141 = .ok (.iconst 1, 1) := by decide +kernel
theorem dX4_step_142 : decode cX4_step 142 = .ok (.putfield 197, 3) := by decide +kernel
theorem dX4_step_145 : decode cX4_step 145 = .ok (.aload_n 0, 1) := by decide +kernel
theorem dX4_step_146 : decode cX4_step 146 = .ok (.invokevirtual 216, 3) := by decide +kernel
theorem dX4_step_149 : decode cX4_step 149 = .ok (.iconst 0, 1) := by decide +kernel
theorem dX4_step_150 : decode cX4_step 150 = .ok (.ireturn, 1) := by decide +kernel
theorem dX4_run_0 : decode cX4_run 0 = .ok (.aload_n 0, 1) := by decide +kernel
theorem dX4_run_1 : decode cX4_run 1 = .ok (.iconst 0, 1) := by decide +kernel
theorem dX4_run_2 : decode cX4_run 2 = .ok (.putfield 18, 3) := by decide +kernel
theorem dX4_run_5 : decode cX4_run 5 = .ok (.iload_n 1, 1) := by decide +kernel
theorem dX4_run_6 : decode cX4_run 6 = .ok (.iconst 1, 1) := by decide +kernel
theorem dX4_run_7 : decode cX4_run 7 = .ok (.if_icmp .lt 10, 3) := by decide +kernel
theorem dX4_run_10 : decode cX4_run 10 = .ok (.iload_n 1, 1) := by decide +kernel
theorem dX4_run_11 : decode cX4_run 11 = .ok (.sipush 2000, 3) := by decide +kernel
theorem dX4_run_14 : decode cX4_run 14 = .ok (.if_icmp .le 5, 3) := by decide +kernel
theorem dX4_run_17 : decode cX4_run 17 = .ok (.iconst (-1), 1) := by decide +kernel
theorem dX4_run_18 : decode cX4_run 18 = .ok (.ireturn, 1) := by decide +kernel
theorem dX4_run_19 : decode cX4_run 19 = .ok (.iconst 0, 1) := by decide +kernel
theorem dX4_run_20 : decode cX4_run 20 = .ok (.istore_n 2, 1) := by decide +kernel
theorem dX4_run_21 : decode cX4_run 21 = .ok (.iload_n 2, 1) := by decide +kernel
theorem dX4_run_22 : decode cX4_run 22 = .ok (.iload_n 1, 1) := by decide +kernel
theorem dX4_run_23 : decode cX4_run 23 = .ok (.if_icmp .ge 17, 3) := by decide +kernel
theorem dX4_run_26 : decode cX4_run 26 = .ok (.aload_n 0, 1) := by decide +kernel
theorem dX4_run_27 : decode cX4_run 27 = .ok (.invokevirtual 225, 3) := by decide +kernel
theorem dX4_run_30 : decode cX4_run 30 = .ok (.iconst 2, 1) := by decide +kernel
theorem dX4_run_31 : decode cX4_run 31 = .ok (.if_icmp .ge 9, 3) := by decide +kernel
theorem dX4_run_34 : decode cX4_run 34 = .ok (.iinc 2 1, 3) := by decide +kernel
theorem dX4_run_37 : decode cX4_run 37 = .ok (.goto (-16), 3) := by decide +kernel
theorem dX4_run_40 : decode cX4_run 40 = .ok (.iload_n 2, 1) := by decide +kernel
theorem dX4_run_41 : decode cX4_run 41 = .ok (.ireturn, 1) := by decide +kernel
theorem dX4_poke_0 : decode cX4_poke 0 = .ok (.aload_n 0, 1) := by decide +kernel
theorem dX4_poke_1 : decode cX4_poke 1 = .ok (.iconst 0, 1) := by decide +kernel
theorem dX4_poke_2 : decode cX4_poke 2 = .ok (.putfield 18, 3) := by decide +kernel
theorem dX4_poke_5 : decode cX4_poke 5 = .ok (.iload_n 1, 1) := by decide +kernel
theorem dX4_poke_6 : decode cX4_poke 6 = .ok (.ifCond .lt 9, 3) := by decide +kernel
theorem dX4_poke_9 : decode cX4_poke 9 = .ok (.iload_n 1, 1) := by decide +kernel
theorem dX4_poke_10 : decode cX4_poke 10 = .ok (.ldc 22, 2) := by decide +kernel
theorem dX4_poke_12 : decode cX4_poke 12 = .ok (.if_icmp .le 5, 3) := by decide +kernel
theorem dX4_poke_15 : decode cX4_poke 15 = .ok (.iconst 0, 1) := by decide +kernel
theorem dX4_poke_16 : decode cX4_poke 16 = .ok (.ireturn, 1) := by decide +kernel
theorem dX4_poke_17 : decode cX4_poke 17 = .ok (.aload_n 0, 1) := by decide +kernel
theorem dX4_poke_18 : decode cX4_poke 18 = .ok (.iload_n 1, 1) := by decide +kernel
theorem dX4_poke_19 : decode cX4_poke 19 = .ok (.iload_n 2, 1) := by decide +kernel
theorem dX4_poke_20 : decode cX4_poke 20 = .ok (.invokevirtual 31, 3) := by decide +kernel
theorem dX4_poke_23 : decode cX4_poke 23 = .ok (.iconst 1, 1) := by decide +kernel
theorem dX4_poke_24 : decode cX4_poke 24 = .ok (.ireturn, 1) := by decide +kernel
theorem dX4_feed_0 : decode cX4_feed 0 = .ok (.aload_n 0, 1) := by decide +kernel
theorem dX4_feed_1 : decode cX4_feed 1 = .ok (.iconst 0, 1) := by decide +kernel
theorem dX4_feed_2 : decode cX4_feed 2 = .ok (.putfield 18, 3) := by decide +kernel
theorem dX4_feed_5 : decode cX4_feed 5 = .ok (.iload_n 1, 1) := by decide +kernel
theorem dX4_feed_6 : decode cX4_feed 6 = .ok (.ifCond .lt 9, 3) := by decide +kernel
theorem dX4_feed_9 : decode cX4_feed 9 = .ok (.iload_n 1, 1) := by decide +kernel
theorem dX4_feed_10 : decode cX4_feed 10 = .ok (.ldc 228, 2) := by decide +kernel
theorem dX4_feed_12 : decode cX4_feed 12 = .ok (.if_icmp .le 5, 3) := by decide +kernel
theorem dX4_feed_15 : decode cX4_feed 15 = .ok (.iconst 0, 1) := by decide +kernel
theorem dX4_feed_16 : decode cX4_feed 16 = .ok (.ireturn, 1) := by decide +kernel
theorem dX4_feed_17 : decode cX4_feed 17 = .ok (.iconst 0, 1) := by decide +kernel
theorem dX4_feed_18 : decode cX4_feed 18 = .ok (.istore 6, 2) := by decide +kernel
theorem dX4_feed_20 : decode cX4_feed 20 = .ok (.iload 6, 2) := by decide +kernel
theorem dX4_feed_22 : decode cX4_feed 22 = .ok (.bipush 16, 2) := by decide +kernel
theorem dX4_feed_24 : decode cX4_feed 24 = .ok (.if_icmp .ge 67, 3) := by decide +kernel
theorem dX4_feed_27 : decode cX4_feed 27 = .ok (.iload 6, 2) := by decide +kernel
theorem dX4_feed_29 : decode cX4_feed 29 = .ok (.iconst 4, 1) := by decide +kernel
theorem dX4_feed_30 : decode cX4_feed 30 = .ok (.if_icmp .ge 7, 3) := by decide +kernel
theorem dX4_feed_33 : decode cX4_feed 33 = .ok (.iload_n 2, 1) := by decide +kernel
theorem dX4_feed_34 : decode cX4_feed 34 = .ok (.goto 28, 3) := by decide +kernel
theorem dX4_feed_37 : decode cX4_feed 37 = .ok (.iload 6, 2) := by decide +kernel
theorem dX4_feed_39 : decode cX4_feed 39 = .ok (.bipush 8, 2) := by decide +kernel
theorem dX4_feed_41 : decode cX4_feed 41 = .ok (.if_icmp .ge 7, 3) := by decide +kernel
theorem dX4_feed_44 : decode cX4_feed 44 = .ok (.iload_n 3, 1) := by decide +kernel
theorem dX4_feed_45 : decode cX4_feed 45 = .ok (.goto 17, 3) := by decide +kernel
theorem dX4_feed_48 : decode cX4_feed 48 = .ok (.iload 6, 2) := by decide +kernel
theorem dX4_feed_50 : decode cX4_feed 50 = .ok (.bipush 12, 2) := by decide +kernel
theorem dX4_feed_52 : decode cX4_feed 52 = .ok (.if_icmp .ge 8, 3) := by decide +kernel
theorem dX4_feed_55 : decode cX4_feed 55 = .ok (.iload 4, 2) := by decide +kernel
theorem dX4_feed_57 : decode cX4_feed 57 = .ok (.goto 5, 3) := by decide +kernel
theorem dX4_feed_60 : decode cX4_feed 60 = .ok (.iload 5, 2) := by decide +kernel
theorem dX4_feed_62 : decode cX4_feed 62 = .ok (.istore 7, 2) := by decide +kernel
theorem dX4_feed_64 : decode cX4_feed 64 = .ok (.aload_n 0, 1) := by decide +kernel
theorem dX4_feed_65 : decode cX4_feed 65 = .ok (.iload_n 1, 1) := by decide +kernel
theorem dX4_feed_66 : decode cX4_feed 66 = .ok (.iload 6, 2) := by decide +kernel
theorem dX4_feed_68 : decode cX4_feed 68 = .ok (.iadd, 1) := by decide +kernel
theorem dX4_feed_69 : decode cX4_feed 69 = .ok (.iload 7, 2) := by decide +kernel
theorem dX4_feed_71 : decode cX4_feed 71 = .ok (.bipush 24, 2) := by decide +kernel
theorem dX4_feed_73 : decode cX4_feed 73 = .ok (.bipush 8, 2) := by decide +kernel
theorem dX4_feed_75 : decode cX4_feed 75 = .ok (.iload 6, 2) := by decide +kernel
theorem dX4_feed_77 : decode cX4_feed 77 = .ok (.iconst 4, 1) := by decide +kernel
theorem dX4_feed_78 : decode cX4_feed 78 = .ok (.irem, 1) := by decide +kernel
theorem dX4_feed_79 : decode cX4_feed 79 = .ok (.imul, 1) := by decide +kernel
theorem dX4_feed_80 : decode cX4_feed 80 = .ok (.isub, 1) := by decide +kernel
theorem dX4_feed_81 : decode cX4_feed 81 = .ok (.ishr, 1) := by decide +kernel
theorem dX4_feed_82 : decode cX4_feed 82 = .ok (.invokevirtual 31, 3) := by decide +kernel
theorem dX4_feed_85 : decode cX4_feed 85 = .ok (.iinc 6 1, 3) := by decide +kernel
theorem dX4_feed_88 : decode cX4_feed 88 = .ok (.goto (-68), 3) := by decide +kernel
theorem dX4_feed_91 : decode cX4_feed 91 = .ok (.iconst 1, 1) := by decide +kernel
theorem dX4_feed_92 : decode cX4_feed 92 = .ok (.ireturn, 1) := by decide +kernel
theorem dX4_peek_0 : decode cX4_peek 0 = .ok (.aload_n 0, 1) := by decide +kernel
theorem dX4_peek_1 : decode cX4_peek 1 = .ok (.iconst 0, 1) := by decide +kernel
theorem dX4_peek_2 : decode cX4_peek 2 = .ok (.putfield 18, 3) := by decide +kernel
theorem dX4_peek_5 : decode cX4_peek 5 = .ok (.iload_n 1, 1) := by decide +kernel
theorem dX4_peek_6 : decode cX4_peek 6 = .ok (.ifCond .lt 9, 3) := by decide +kernel
theorem dX4_peek_9 : decode cX4_peek 9 = .ok (.iload_n 1, 1) := by decide +kernel
theorem dX4_peek_10 : decode cX4_peek 10 = .ok (.ldc 22, 2) := by decide +kernel
theorem dX4_peek_12 : decode cX4_peek 12 = .ok (.if_icmp .le 7, 3) := by decide +kernel
theorem dX4_peek_15 : decode cX4_peek 15 = .ok (.iconst (-1), 1) := by decide +kernel
theorem dX4_peek_16 : decode cX4_peek 16 = .ok (.goto 8, 3) := by decide +kernel
theorem dX4_peek_19 : decode cX4_peek 19 = .ok (.aload_n 0, 1) := by decide +kernel
theorem dX4_peek_20 : decode cX4_peek 20 = .ok (.iload_n 1, 1) := by decide +kernel
theorem dX4_peek_21 : decode cX4_peek 21 = .ok (.invokevirtual 26, 3) := by decide +kernel
theorem dX4_peek_24 : decode cX4_peek 24 = .ok (.ireturn, 1) := by decide +kernel
theorem dX4_request_0 : decode cX4_request 0 = .ok (.aload_n 0, 1) := by decide +kernel
theorem dX4_request_1 : decode cX4_request 1 = .ok (.iconst 0, 1) := by decide +kernel
theorem dX4_request_2 : decode cX4_request 2 = .ok (.putfield 18, 3) := by decide +kernel
theorem dX4_request_5 : decode cX4_request 5 = .ok (.iload_n 1, 1) := by decide +kernel
theorem dX4_request_6 : decode cX4_request 6 = .ok (.ifCond .lt 8, 3) := by decide +kernel
theorem dX4_request_9 : decode cX4_request 9 = .ok (.iload_n 1, 1) := by decide +kernel
theorem dX4_request_10 : decode cX4_request 10 = .ok (.iconst 4, 1) := by decide +kernel
theorem dX4_request_11 : decode cX4_request 11 = .ok (.if_icmp .le 5, 3) := by decide +kernel
theorem dX4_request_14 : decode cX4_request 14 = .ok (.iconst 0, 1) := by decide +kernel
theorem dX4_request_15 : decode cX4_request 15 = .ok (.ireturn, 1) := by decide +kernel
theorem dX4_request_16 : decode cX4_request 16 = .ok (.aload_n 0, 1) := by decide +kernel
theorem dX4_request_17 : decode cX4_request 17 = .ok (.ldc 103, 2) := by decide +kernel
theorem dX4_request_19 : decode cX4_request 19 = .ok (.aload_n 0, 1) := by decide +kernel
theorem dX4_request_20 : decode cX4_request 20 = .ok (.ldc 103, 2) := by decide +kernel
theorem dX4_request_22 : decode cX4_request 22 = .ok (.invokevirtual 26, 3) := by decide +kernel
theorem dX4_request_25 : decode cX4_request 25 = .ok (.iconst 1, 1) := by decide +kernel
theorem dX4_request_26 : decode cX4_request 26 = .ok (.iload_n 1, 1) := by decide +kernel
theorem dX4_request_27 : decode cX4_request 27 = .ok (.ishl, 1) := by decide +kernel
theorem dX4_request_28 : decode cX4_request 28 = .ok (.ior, 1) := by decide +kernel
theorem dX4_request_29 : decode cX4_request 29 = .ok (.invokevirtual 31, 3) := by decide +kernel
theorem dX4_request_32 : decode cX4_request 32 = .ok (.iconst 1, 1) := by decide +kernel
theorem dX4_request_33 : decode cX4_request 33 = .ok (.ireturn, 1) := by decide +kernel
theorem dX4_reg_0 : decode cX4_reg 0 = .ok (.aload_n 0, 1) := by decide +kernel
theorem dX4_reg_1 : decode cX4_reg 1 = .ok (.iconst 0, 1) := by decide +kernel
theorem dX4_reg_2 : decode cX4_reg 2 = .ok (.putfield 18, 3) := by decide +kernel
theorem dX4_reg_5 : decode cX4_reg 5 = .ok (.iload_n 1, 1) := by decide +kernel
theorem dX4_reg_6 : decode cX4_reg 6 = .ok (.tableswitch 72 0 5 #[38, 54, 54, 54, 62, 67], 38) := by decide +kernel
theorem dX4_reg_44 : decode cX4_reg 44 = .ok (.aload_n 0, 1) := by decide +kernel
theorem dX4_reg_45 : decode cX4_reg 45 = .ok (.getfield 14, 3) := by decide +kernel
theorem dX4_reg_48 : decode cX4_reg 48 = .ok (.bipush 7, 2) := by decide +kernel
theorem dX4_reg_50 : decode cX4_reg 50 = .ok (.iaload, 1) := by decide +kernel
theorem dX4_reg_51 : decode cX4_reg 51 = .ok (.bipush 8, 2) := by decide +kernel
theorem dX4_reg_53 : decode cX4_reg 53 = .ok (.ishl, 1) := by decide +kernel
theorem dX4_reg_54 : decode cX4_reg 54 = .ok (.aload_n 0, 1) := by decide +kernel
theorem dX4_reg_55 : decode cX4_reg 55 = .ok (.invokevirtual 178, 3) := by decide +kernel
theorem dX4_reg_58 : decode cX4_reg 58 = .ok (.ior, 1) := by decide +kernel
theorem dX4_reg_59 : decode cX4_reg 59 = .ok (.ireturn, 1) := by decide +kernel
theorem dX4_reg_60 : decode cX4_reg 60 = .ok (.aload_n 0, 1) := by decide +kernel
theorem dX4_reg_61 : decode cX4_reg 61 = .ok (.iload_n 1, 1) := by decide +kernel
theorem dX4_reg_62 : decode cX4_reg 62 = .ok (.iconst 1, 1) := by decide +kernel
theorem dX4_reg_63 : decode cX4_reg 63 = .ok (.isub, 1) := by decide +kernel
theorem dX4_reg_64 : decode cX4_reg 64 = .ok (.invokevirtual 141, 3) := by decide +kernel
theorem dX4_reg_67 : decode cX4_reg 67 = .ok (.ireturn, 1) := by decide +kernel
theorem dX4_reg_68 : decode cX4_reg 68 = .ok (.aload_n 0, 1) := by decide +kernel
theorem dX4_reg_69 : decode cX4_reg 69 = .ok (.getfield 48, 3) := by decide +kernel
theorem dX4_reg_72 : decode cX4_reg 72 = .ok (.ireturn, 1) := by decide +kernel
theorem dX4_reg_73 : decode cX4_reg 73 = .ok (.aload_n 0, 1) := by decide +kernel
theorem dX4_reg_74 : decode cX4_reg 74 = .ok (.getfield 38, 3) := by decide +kernel
theorem dX4_reg_77 : decode cX4_reg 77 = .ok (.ireturn, 1) := by decide +kernel
theorem dX4_reg_78 : decode cX4_reg 78 = .ok (.iconst (-1), 1) := by decide +kernel
theorem dX4_reg_79 : decode cX4_reg 79 = .ok (.ireturn, 1) := by decide +kernel
theorem dX4_set_0 : decode cX4_set 0 = .ok (.aload_n 0, 1) := by decide +kernel
theorem dX4_set_1 : decode cX4_set 1 = .ok (.iconst 0, 1) := by decide +kernel
theorem dX4_set_2 : decode cX4_set 2 = .ok (.putfield 18, 3) := by decide +kernel
theorem dX4_set_5 : decode cX4_set 5 = .ok (.iload_n 1, 1) := by decide +kernel
theorem dX4_set_6 : decode cX4_set 6 = .ok (.tableswitch 93 0 5 #[38, 60, 60, 60, 73, 83], 38) := by decide +kernel
theorem dX4_set_44 : decode cX4_set 44 = .ok (.aload_n 0, 1) := by decide +kernel
theorem dX4_set_45 : decode cX4_set 45 = .ok (.getfield 14, 3) := by decide +kernel
theorem dX4_set_48 : decode cX4_set 48 = .ok (.bipush 7, 2) := by decide +kernel
theorem dX4_set_50 : decode cX4_set 50 = .ok (.iload_n 2, 1) := by decide +kernel
theorem dX4_set_51 : decode cX4_set 51 = .ok (.bipush 8, 2) := by decide +kernel
theorem dX4_set_53 : decode cX4_set 53 = .ok (.ishr, 1) := by decide +kernel
theorem dX4_set_54 : decode cX4_set 54 = .ok (.sipush 255, 3) := by decide +kernel
theorem dX4_set_57 : decode cX4_set 57 = .ok (.iand, 1) := by decide +kernel
theorem dX4_set_58 : decode cX4_set 58 = .ok (.iastore, 1) := by decide +kernel
theorem dX4_set_59 : decode cX4_set 59 = .ok (.aload_n 0, 1) := by decide +kernel
theorem dX4_set_60 : decode cX4_set 60 = .ok (.iload_n 2, 1) := by decide +kernel
theorem dX4_set_61 : decode cX4_set 61 = .ok (.invokevirtual 194, 3) := by decide +kernel
theorem dX4_set_64 : decode cX4_set 64 = .ok (.iconst 1, 1) := by decide +kernel
theorem dX4_set_65 : decode cX4_set 65 = .ok (.ireturn, 1) := by decide +kernel
theorem dX4_set_66 : decode cX4_set 66 = .ok (.aload_n 0, 1) := by decide +kernel
theorem dX4_set_67 : decode cX4_set 67 = .ok (.iload_n 1, 1) := by decide +kernel
theorem dX4_set_68 : decode cX4_set 68 = .ok (.iconst 1, 1) := by decide +kernel
theorem dX4_set_69 : decode cX4_set 69 = .ok (.isub, 1) := by decide +kernel
theorem dX4_set_70 : decode cX4_set 70 = .ok (.iload_n 2, 1) := by decide +kernel
theorem dX4_set_71 : decode cX4_set 71 = .ok (.ldc 22, 2) := by decide +kernel
theorem dX4_set_73 : decode cX4_set 73 = .ok (.iand, 1) := by decide +kernel
theorem dX4_set_74 : decode cX4_set 74 = .ok (.invokevirtual 144, 3) := by decide +kernel
theorem dX4_set_77 : decode cX4_set 77 = .ok (.iconst 1, 1) := by decide +kernel
theorem dX4_set_78 : decode cX4_set 78 = .ok (.ireturn, 1) := by decide +kernel
theorem dX4_set_79 : decode cX4_set 79 = .ok (.aload_n 0, 1) := by decide +kernel
theorem dX4_set_80 : decode cX4_set 80 = .ok (.iload_n 2, 1) := by decide +kernel
theorem dX4_set_81 : decode cX4_set 81 = .ok (.ldc 22, 2) := by decide +kernel
theorem dX4_set_83 : decode cX4_set 83 = .ok (.iand, 1) := by decide +kernel
theorem dX4_set_84 : decode cX4_set 84 = .ok (.putfield 48, 3) := by decide +kernel
theorem dX4_set_87 : decode cX4_set 87 = .ok (.iconst 1, 1) := by decide +kernel
theorem dX4_set_88 : decode cX4_set 88 = .ok (.ireturn, 1) := by decide +kernel
theorem dX4_set_89 : decode cX4_set 89 = .ok (.aload_n 0, 1) := by decide +kernel
theorem dX4_set_90 : decode cX4_set 90 = .ok (.iload_n 2, 1) := by decide +kernel
theorem dX4_set_91 : decode cX4_set 91 = .ok (.ldc 22, 2) := by decide +kernel
theorem dX4_set_93 : decode cX4_set 93 = .ok (.iand, 1) := by decide +kernel
theorem dX4_set_94 : decode cX4_set 94 = .ok (.putfield 38, 3) := by decide +kernel
theorem dX4_set_97 : decode cX4_set 97 = .ok (.iconst 1, 1) := by decide +kernel
theorem dX4_set_98 : decode cX4_set 98 = .ok (.ireturn, 1) := by decide +kernel
theorem dX4_set_99 : decode cX4_set 99 = .ok (.iconst 0, 1) := by decide +kernel
theorem dX4_set_100 : decode cX4_set 100 = .ok (.ireturn, 1) := by decide +kernel
theorem dX4_look_0 : decode cX4_look 0 = .ok (.aload_n 0, 1) := by decide +kernel
theorem dX4_look_1 : decode cX4_look 1 = .ok (.iconst 0, 1) := by decide +kernel
theorem dX4_look_2 : decode cX4_look 2 = .ok (.putfield 18, 3) := by decide +kernel
theorem dX4_look_5 : decode cX4_look 5 = .ok (.iload_n 1, 1) := by decide +kernel
theorem dX4_look_6 : decode cX4_look 6 = .ok (.tableswitch 91 0 4 #[34, 47, 60, 73, 86], 34) := by decide +kernel
theorem dX4_look_40 : decode cX4_look 40 = .ok (.aload_n 0, 1) := by decide +kernel
theorem dX4_look_41 : decode cX4_look 41 = .ok (.getfield 104, 3) := by decide +kernel
theorem dX4_look_44 : decode cX4_look 44 = .ok (.ifCond .eq 7, 3) := by decide +kernel
theorem dX4_look_47 : decode cX4_look 47 = .ok (.iconst 1, 1) := by decide +kernel
theorem dX4_look_48 : decode cX4_look 48 = .ok (.goto 4, 3) := by decide +kernel
theorem dX4_look_51 : decode cX4_look 51 = .ok (.iconst 0, 1) := by decide +kernel
theorem dX4_look_52 : decode cX4_look 52 = .ok (.ireturn, 1) := by decide +kernel
theorem dX4_look_53 : decode cX4_look 53 = .ok (.aload_n 0, 1) := by decide +kernel
theorem dX4_look_54 : decode cX4_look 54 = .ok (.getfield 197, 3) := by decide +kernel
theorem dX4_look_57 : decode cX4_look 57 = .ok (.ifCond .eq 7, 3) := by decide +kernel
theorem dX4_look_60 : decode cX4_look 60 = .ok (.iconst 1, 1) := by decide +kernel
theorem dX4_look_61 : decode cX4_look 61 = .ok (.goto 4, 3) := by decide +kernel
theorem dX4_look_64 : decode cX4_look 64 = .ok (.iconst 0, 1) := by decide +kernel
theorem dX4_look_65 : decode cX4_look 65 = .ok (.ireturn, 1) := by decide +kernel
theorem dX4_look_66 : decode cX4_look 66 = .ok (.aload_n 0, 1) := by decide +kernel
theorem dX4_look_67 : decode cX4_look 67 = .ok (.getfield 107, 3) := by decide +kernel
theorem dX4_look_70 : decode cX4_look 70 = .ok (.ifCond .eq 7, 3) := by decide +kernel
theorem dX4_look_73 : decode cX4_look 73 = .ok (.iconst 1, 1) := by decide +kernel
theorem dX4_look_74 : decode cX4_look 74 = .ok (.goto 4, 3) := by decide +kernel
theorem dX4_look_77 : decode cX4_look 77 = .ok (.iconst 0, 1) := by decide +kernel
theorem dX4_look_78 : decode cX4_look 78 = .ok (.ireturn, 1) := by decide +kernel
theorem dX4_look_79 : decode cX4_look 79 = .ok (.aload_n 0, 1) := by decide +kernel
theorem dX4_look_80 : decode cX4_look 80 = .ok (.getfield 81, 3) := by decide +kernel
theorem dX4_look_83 : decode cX4_look 83 = .ok (.ifCond .eq 7, 3) := by decide +kernel
theorem dX4_look_86 : decode cX4_look 86 = .ok (.iconst 1, 1) := by decide +kernel
theorem dX4_look_87 : decode cX4_look 87 = .ok (.goto 4, 3) := by decide +kernel
theorem dX4_look_90 : decode cX4_look 90 = .ok (.iconst 0, 1) := by decide +kernel
theorem dX4_look_91 : decode cX4_look 91 = .ok (.ireturn, 1) := by decide +kernel
theorem dX4_look_92 : decode cX4_look 92 = .ok (.aload_n 0, 1) := by decide +kernel
theorem dX4_look_93 : decode cX4_look 93 = .ok (.getfield 35, 3) := by decide +kernel
theorem dX4_look_96 : decode cX4_look 96 = .ok (.ireturn, 1) := by decide +kernel
theorem dX4_look_97 : decode cX4_look 97 = .ok (.iconst (-1), 1) := by decide +kernel
theorem dX4_look_98 : decode cX4_look 98 = .ok (.ireturn, 1) := by decide +kernel
theorem dX4_mcycles_0 : decode cX4_mcycles 0 = .ok (.aload_n 0, 1) := by decide +kernel
theorem dX4_mcycles_1 : decode cX4_mcycles 1 = .ok (.iconst 0, 1) := by decide +kernel
theorem dX4_mcycles_2 : decode cX4_mcycles 2 = .ok (.putfield 18, 3) := by decide +kernel
theorem dX4_mcycles_5 : decode cX4_mcycles 5 = .ok (.aload_n 0, 1) := by decide +kernel
theorem dX4_mcycles_6 : decode cX4_mcycles 6 = .ok (.getfield 209, 3) := by decide +kernel
theorem dX4_mcycles_9 : decode cX4_mcycles 9 = .ok (.ireturn, 1) := by decide +kernel
theorem dL_law_0 : decode cL_law 0 = .ok (.new 7, 3) := by decide +kernel
theorem dL_law_3 : decode cL_law 3 = .ok (.dup, 1) := by decide +kernel
theorem dL_law_4 : decode cL_law 4 = .ok (.invokespecial 9, 3) := by decide +kernel
theorem dL_law_7 : decode cL_law 7 = .ok (.astore_n 1, 1) := by decide +kernel
theorem dL_law_8 : decode cL_law 8 = .ok (.new 10, 3) := by decide +kernel
theorem dL_law_11 : decode cL_law 11 = .ok (.dup, 1) := by decide +kernel
theorem dL_law_12 : decode cL_law 12 = .ok (.invokespecial 12, 3) := by decide +kernel
theorem dL_law_15 : decode cL_law 15 = .ok (.astore_n 2, 1) := by decide +kernel
theorem dL_law_16 : decode cL_law 16 = .ok (.iconst 0, 1) := by decide +kernel
theorem dL_law_17 : decode cL_law 17 = .ok (.istore_n 3, 1) := by decide +kernel
theorem dL_law_18 : decode cL_law 18 = .ok (.iload_n 3, 1) := by decide +kernel
theorem dL_law_19 : decode cL_law 19 = .ok (.aload_n 0, 1) := by decide +kernel
theorem dL_law_20 : decode cL_law 20 = .ok (.arraylength, 1) := by decide +kernel
theorem dL_law_21 : decode cL_law 21 = .ok (.bipush 6, 2) := by decide +kernel
theorem dL_law_23 : decode cL_law 23 = .ok (.isub, 1) := by decide +kernel
theorem dL_law_24 : decode cL_law 24 = .ok (.if_icmp .gt 340, 3) := by decide +kernel
theorem dL_law_27 : decode cL_law 27 = .ok (.aload_n 0, 1) := by decide +kernel
theorem dL_law_28 : decode cL_law 28 = .ok (.iload_n 3, 1) := by decide +kernel
theorem dL_law_29 : decode cL_law 29 = .ok (.iaload, 1) := by decide +kernel
theorem dL_law_30 : decode cL_law 30 = .ok (.bipush 15, 2) := by decide +kernel
theorem dL_law_32 : decode cL_law 32 = .ok (.iand, 1) := by decide +kernel
theorem dL_law_33 : decode cL_law 33 = .ok (.tableswitch 325 0 9 #[55, 88, 151, 174, 187, 210, 233, 256, 289, 312], 55) := by decide +kernel
theorem dL_law_88 : decode cL_law 88 = .ok (.aload_n 1, 1) := by decide +kernel
theorem dL_law_89 : decode cL_law 89 = .ok (.aload_n 0, 1) := by decide +kernel
theorem dL_law_90 : decode cL_law 90 = .ok (.iload_n 3, 1) := by decide +kernel
theorem dL_law_91 : decode cL_law 91 = .ok (.iconst 1, 1) := by decide +kernel
theorem dL_law_92 : decode cL_law 92 = .ok (.iadd, 1) := by decide +kernel
theorem dL_law_93 : decode cL_law 93 = .ok (.iaload, 1) := by decide +kernel
theorem dL_law_94 : decode cL_law 94 = .ok (.aload_n 0, 1) := by decide +kernel
theorem dL_law_95 : decode cL_law 95 = .ok (.iload_n 3, 1) := by decide +kernel
theorem dL_law_96 : decode cL_law 96 = .ok (.iconst 2, 1) := by decide +kernel
theorem dL_law_97 : decode cL_law 97 = .ok (.iadd, 1) := by decide +kernel
theorem dL_law_98 : decode cL_law 98 = .ok (.iaload, 1) := by decide +kernel
theorem dL_law_99 : decode cL_law 99 = .ok (.invokevirtual 13, 3) := by decide +kernel
theorem dL_law_102 : decode cL_law 102 = .ok (.aload_n 2, 1) := by decide +kernel
theorem dL_law_103 : decode cL_law 103 = .ok (.aload_n 0, 1) := by decide +kernel
theorem dL_law_104 : decode cL_law 104 = .ok (.iload_n 3, 1) := by decide +kernel
theorem dL_law_105 : decode cL_law 105 = .ok (.iconst 1, 1) := by decide +kernel
theorem dL_law_106 : decode cL_law 106 = .ok (.iadd, 1) := by decide +kernel
theorem dL_law_107 : decode cL_law 107 = .ok (.iaload, 1) := by decide +kernel
theorem dL_law_108 : decode cL_law 108 = .ok (.aload_n 0, 1) := by decide +kernel
theorem dL_law_109 : decode cL_law 109 = .ok (.iload_n 3, 1) := by decide +kernel
theorem dL_law_110 : decode cL_law 110 = .ok (.iconst 2, 1) := by decide +kernel
theorem dL_law_111 : decode cL_law 111 = .ok (.iadd, 1) := by decide +kernel
theorem dL_law_112 : decode cL_law 112 = .ok (.iaload, 1) := by decide +kernel
theorem dL_law_113 : decode cL_law 113 = .ok (.invokevirtual 17, 3) := by decide +kernel
theorem dL_law_116 : decode cL_law 116 = .ok (.if_icmp .eq 242, 3) := by decide +kernel
theorem dL_law_119 : decode cL_law 119 = .ok (.iconst 0, 1) := by decide +kernel
theorem dL_law_120 : decode cL_law 120 = .ok (.ireturn, 1) := by decide +kernel
theorem dL_law_121 : decode cL_law 121 = .ok (.aload_n 1, 1) := by decide +kernel
theorem dL_law_122 : decode cL_law 122 = .ok (.aload_n 0, 1) := by decide +kernel
theorem dL_law_123 : decode cL_law 123 = .ok (.iload_n 3, 1) := by decide +kernel
theorem dL_law_124 : decode cL_law 124 = .ok (.iconst 1, 1) := by decide +kernel
theorem dL_law_125 : decode cL_law 125 = .ok (.iadd, 1) := by decide +kernel
theorem dL_law_126 : decode cL_law 126 = .ok (.iaload, 1) := by decide +kernel
theorem dL_law_127 : decode cL_law 127 = .ok (.aload_n 0, 1) := by decide +kernel
theorem dL_law_128 : decode cL_law 128 = .ok (.iload_n 3, 1) := by decide +kernel
theorem dL_law_129 : decode cL_law 129 = .ok (.iconst 2, 1) := by decide +kernel
theorem dL_law_130 : decode cL_law 130 = .ok (.iadd, 1) := by decide +kernel
theorem dL_law_131 : decode cL_law 131 = .ok (.iaload, 1) := by decide +kernel
theorem dL_law_132 : decode cL_law 132 = .ok (.aload_n 0, 1) := by decide +kernel
theorem dL_law_133 : decode cL_law 133 = .ok (.iload_n 3, 1) := by decide +kernel
theorem dL_law_134 : decode cL_law 134 = .ok (.iconst 3, 1) := by decide +kernel
theorem dL_law_135 : decode cL_law 135 = .ok (.iadd, 1) := by decide +kernel
theorem dL_law_136 : decode cL_law 136 = .ok (.iaload, 1) := by decide +kernel
theorem dL_law_137 : decode cL_law 137 = .ok (.aload_n 0, 1) := by decide +kernel
theorem dL_law_138 : decode cL_law 138 = .ok (.iload_n 3, 1) := by decide +kernel
theorem dL_law_139 : decode cL_law 139 = .ok (.iconst 4, 1) := by decide +kernel
theorem dL_law_140 : decode cL_law 140 = .ok (.iadd, 1) := by decide +kernel
theorem dL_law_141 : decode cL_law 141 = .ok (.iaload, 1) := by decide +kernel
theorem dL_law_142 : decode cL_law 142 = .ok (.aload_n 0, 1) := by decide +kernel
theorem dL_law_143 : decode cL_law 143 = .ok (.iload_n 3, 1) := by decide +kernel
theorem dL_law_144 : decode cL_law 144 = .ok (.iconst 5, 1) := by decide +kernel
theorem dL_law_145 : decode cL_law 145 = .ok (.iadd, 1) := by decide +kernel
theorem dL_law_146 : decode cL_law 146 = .ok (.iaload, 1) := by decide +kernel
theorem dL_law_147 : decode cL_law 147 = .ok (.invokevirtual 18, 3) := by decide +kernel
theorem dL_law_150 : decode cL_law 150 = .ok (.aload_n 2, 1) := by decide +kernel
theorem dL_law_151 : decode cL_law 151 = .ok (.aload_n 0, 1) := by decide +kernel
theorem dL_law_152 : decode cL_law 152 = .ok (.iload_n 3, 1) := by decide +kernel
theorem dL_law_153 : decode cL_law 153 = .ok (.iconst 1, 1) := by decide +kernel
theorem dL_law_154 : decode cL_law 154 = .ok (.iadd, 1) := by decide +kernel
theorem dL_law_155 : decode cL_law 155 = .ok (.iaload, 1) := by decide +kernel
theorem dL_law_156 : decode cL_law 156 = .ok (.aload_n 0, 1) := by decide +kernel
theorem dL_law_157 : decode cL_law 157 = .ok (.iload_n 3, 1) := by decide +kernel
theorem dL_law_158 : decode cL_law 158 = .ok (.iconst 2, 1) := by decide +kernel
theorem dL_law_159 : decode cL_law 159 = .ok (.iadd, 1) := by decide +kernel
theorem dL_law_160 : decode cL_law 160 = .ok (.iaload, 1) := by decide +kernel
theorem dL_law_161 : decode cL_law 161 = .ok (.aload_n 0, 1) := by decide +kernel
theorem dL_law_162 : decode cL_law 162 = .ok (.iload_n 3, 1) := by decide +kernel
theorem dL_law_163 : decode cL_law 163 = .ok (.iconst 3, 1) := by decide +kernel
theorem dL_law_164 : decode cL_law 164 = .ok (.iadd, 1) := by decide +kernel
theorem dL_law_165 : decode cL_law 165 = .ok (.iaload, 1) := by decide +kernel
theorem dL_law_166 : decode cL_law 166 = .ok (.aload_n 0, 1) := by decide +kernel
theorem dL_law_167 : decode cL_law 167 = .ok (.iload_n 3, 1) := by decide +kernel
theorem dL_law_168 : decode cL_law 168 = .ok (.iconst 4, 1) := by decide +kernel
theorem dL_law_169 : decode cL_law 169 = .ok (.iadd, 1) := by decide +kernel
theorem dL_law_170 : decode cL_law 170 = .ok (.iaload, 1) := by decide +kernel
theorem dL_law_171 : decode cL_law 171 = .ok (.aload_n 0, 1) := by decide +kernel
theorem dL_law_172 : decode cL_law 172 = .ok (.iload_n 3, 1) := by decide +kernel
theorem dL_law_173 : decode cL_law 173 = .ok (.iconst 5, 1) := by decide +kernel
theorem dL_law_174 : decode cL_law 174 = .ok (.iadd, 1) := by decide +kernel
theorem dL_law_175 : decode cL_law 175 = .ok (.iaload, 1) := by decide +kernel
theorem dL_law_176 : decode cL_law 176 = .ok (.invokevirtual 22, 3) := by decide +kernel
theorem dL_law_179 : decode cL_law 179 = .ok (.if_icmp .eq 179, 3) := by decide +kernel
theorem dL_law_182 : decode cL_law 182 = .ok (.iconst 0, 1) := by decide +kernel
theorem dL_law_183 : decode cL_law 183 = .ok (.ireturn, 1) := by decide +kernel
theorem dL_law_184 : decode cL_law 184 = .ok (.aload_n 1, 1) := by decide +kernel
theorem dL_law_185 : decode cL_law 185 = .ok (.aload_n 0, 1) := by decide +kernel
theorem dL_law_186 : decode cL_law 186 = .ok (.iload_n 3, 1) := by decide +kernel
theorem dL_law_187 : decode cL_law 187 = .ok (.iconst 1, 1) := by decide +kernel
theorem dL_law_188 : decode cL_law 188 = .ok (.iadd, 1) := by decide +kernel
theorem dL_law_189 : decode cL_law 189 = .ok (.iaload, 1) := by decide +kernel
theorem dL_law_190 : decode cL_law 190 = .ok (.invokevirtual 23, 3) := by decide +kernel
theorem dL_law_193 : decode cL_law 193 = .ok (.aload_n 2, 1) := by decide +kernel
theorem dL_law_194 : decode cL_law 194 = .ok (.aload_n 0, 1) := by decide +kernel
theorem dL_law_195 : decode cL_law 195 = .ok (.iload_n 3, 1) := by decide +kernel
theorem dL_law_196 : decode cL_law 196 = .ok (.iconst 1, 1) := by decide +kernel
theorem dL_law_197 : decode cL_law 197 = .ok (.iadd, 1) := by decide +kernel
theorem dL_law_198 : decode cL_law 198 = .ok (.iaload, 1) := by decide +kernel
theorem dL_law_199 : decode cL_law 199 = .ok (.invokevirtual 27, 3) := by decide +kernel
theorem dL_law_202 : decode cL_law 202 = .ok (.if_icmp .eq 156, 3) := by decide +kernel
theorem dL_law_205 : decode cL_law 205 = .ok (.iconst 0, 1) := by decide +kernel
theorem dL_law_206 : decode cL_law 206 = .ok (.ireturn, 1) := by decide +kernel
theorem dL_law_207 : decode cL_law 207 = .ok (.aload_n 1, 1) := by decide +kernel
theorem dL_law_208 : decode cL_law 208 = .ok (.invokevirtual 28, 3) := by decide +kernel
theorem dL_law_211 : decode cL_law 211 = .ok (.aload_n 2, 1) := by decide +kernel
theorem dL_law_212 : decode cL_law 212 = .ok (.invokevirtual 32, 3) := by decide +kernel
theorem dL_law_215 : decode cL_law 215 = .ok (.if_icmp .eq 143, 3) := by decide +kernel
theorem dL_law_218 : decode cL_law 218 = .ok (.iconst 0, 1) := by decide +kernel
theorem dL_law_219 : decode cL_law 219 = .ok (.ireturn, 1) := by decide +kernel
theorem dL_law_220 : decode cL_law 220 = .ok (.aload_n 1, 1) := by decide +kernel
theorem dL_law_221 : decode cL_law 221 = .ok (.aload_n 0, 1) := by decide +kernel
theorem dL_law_222 : decode cL_law 222 = .ok (.iload_n 3, 1) := by decide +kernel
theorem dL_law_223 : decode cL_law 223 = .ok (.iconst 1, 1) := by decide +kernel
theorem dL_law_224 : decode cL_law 224 = .ok (.iadd, 1) := by decide +kernel
theorem dL_law_225 : decode cL_law 225 = .ok (.iaload, 1) := by decide +kernel
theorem dL_law_226 : decode cL_law 226 = .ok (.invokevirtual 33, 3) := by decide +kernel
theorem dL_law_229 : decode cL_law 229 = .ok (.aload_n 2, 1) := by decide +kernel
theorem dL_law_230 : decode cL_law 230 = .ok (.aload_n 0, 1) := by decide +kernel
theorem dL_law_231 : decode cL_law 231 = .ok (.iload_n 3, 1) := by decide +kernel
theorem dL_law_232 : decode cL_law 232 = .ok (.iconst 1, 1) := by decide +kernel
theorem dL_law_233 : decode cL_law 233 = .ok (.iadd, 1) := by decide +kernel
theorem dL_law_234 : decode cL_law 234 = .ok (.iaload, 1) := by decide +kernel
theorem dL_law_235 : decode cL_law 235 = .ok (.invokevirtual 36, 3) := by decide +kernel
theorem dL_law_238 : decode cL_law 238 = .ok (.if_icmp .eq 120, 3) := by decide +kernel
theorem dL_law_241 : decode cL_law 241 = .ok (.iconst 0, 1) := by decide +kernel
theorem dL_law_242 : decode cL_law 242 = .ok (.ireturn, 1) := by decide +kernel
theorem dL_law_243 : decode cL_law 243 = .ok (.aload_n 1, 1) := by decide +kernel
theorem dL_law_244 : decode cL_law 244 = .ok (.aload_n 0, 1) := by decide +kernel
theorem dL_law_245 : decode cL_law 245 = .ok (.iload_n 3, 1) := by decide +kernel
theorem dL_law_246 : decode cL_law 246 = .ok (.iconst 1, 1) := by decide +kernel
theorem dL_law_247 : decode cL_law 247 = .ok (.iadd, 1) := by decide +kernel
theorem dL_law_248 : decode cL_law 248 = .ok (.iaload, 1) := by decide +kernel
theorem dL_law_249 : decode cL_law 249 = .ok (.invokevirtual 37, 3) := by decide +kernel
theorem dL_law_252 : decode cL_law 252 = .ok (.aload_n 2, 1) := by decide +kernel
theorem dL_law_253 : decode cL_law 253 = .ok (.aload_n 0, 1) := by decide +kernel
theorem dL_law_254 : decode cL_law 254 = .ok (.iload_n 3, 1) := by decide +kernel
theorem dL_law_255 : decode cL_law 255 = .ok (.iconst 1, 1) := by decide +kernel
theorem dL_law_256 : decode cL_law 256 = .ok (.iadd, 1) := by decide +kernel
theorem dL_law_257 : decode cL_law 257 = .ok (.iaload, 1) := by decide +kernel
theorem dL_law_258 : decode cL_law 258 = .ok (.invokevirtual 41, 3) := by decide +kernel
theorem dL_law_261 : decode cL_law 261 = .ok (.if_icmp .eq 97, 3) := by decide +kernel
theorem dL_law_264 : decode cL_law 264 = .ok (.iconst 0, 1) := by decide +kernel
theorem dL_law_265 : decode cL_law 265 = .ok (.ireturn, 1) := by decide +kernel
theorem dL_law_266 : decode cL_law 266 = .ok (.aload_n 1, 1) := by decide +kernel
theorem dL_law_267 : decode cL_law 267 = .ok (.aload_n 0, 1) := by decide +kernel
theorem dL_law_268 : decode cL_law 268 = .ok (.iload_n 3, 1) := by decide +kernel
theorem dL_law_269 : decode cL_law 269 = .ok (.iconst 1, 1) := by decide +kernel
theorem dL_law_270 : decode cL_law 270 = .ok (.iadd, 1) := by decide +kernel
theorem dL_law_271 : decode cL_law 271 = .ok (.iaload, 1) := by decide +kernel
theorem dL_law_272 : decode cL_law 272 = .ok (.invokevirtual 42, 3) := by decide +kernel
theorem dL_law_275 : decode cL_law 275 = .ok (.aload_n 2, 1) := by decide +kernel
theorem dL_law_276 : decode cL_law 276 = .ok (.aload_n 0, 1) := by decide +kernel
theorem dL_law_277 : decode cL_law 277 = .ok (.iload_n 3, 1) := by decide +kernel
theorem dL_law_278 : decode cL_law 278 = .ok (.iconst 1, 1) := by decide +kernel
theorem dL_law_279 : decode cL_law 279 = .ok (.iadd, 1) := by decide +kernel
theorem dL_law_280 : decode cL_law 280 = .ok (.iaload, 1) := by decide +kernel
theorem dL_law_281 : decode cL_law 281 = .ok (.invokevirtual 45, 3) := by decide +kernel
theorem dL_law_284 : decode cL_law 284 = .ok (.if_icmp .eq 74, 3) := by decide +kernel
theorem dL_law_287 : decode cL_law 287 = .ok (.iconst 0, 1) := by decide +kernel
theorem dL_law_288 : decode cL_law 288 = .ok (.ireturn, 1) := by decide +kernel
theorem dL_law_289 : decode cL_law 289 = .ok (.aload_n 1, 1) := by decide +kernel
theorem dL_law_290 : decode cL_law 290 = .ok (.aload_n 0, 1) := by decide +kernel
theorem dL_law_291 : decode cL_law 291 = .ok (.iload_n 3, 1) := by decide +kernel
theorem dL_law_292 : decode cL_law 292 = .ok (.iconst 1, 1) := by decide +kernel
theorem dL_law_293 : decode cL_law 293 = .ok (.iadd, 1) := by decide +kernel
theorem dL_law_294 : decode cL_law 294 = .ok (.iaload, 1) := by decide +kernel
theorem dL_law_295 : decode cL_law 295 = .ok (.aload_n 0, 1) := by decide +kernel
theorem dL_law_296 : decode cL_law 296 = .ok (.iload_n 3, 1) := by decide +kernel
theorem dL_law_297 : decode cL_law 297 = .ok (.iconst 2, 1) := by decide +kernel
theorem dL_law_298 : decode cL_law 298 = .ok (.iadd, 1) := by decide +kernel
theorem dL_law_299 : decode cL_law 299 = .ok (.iaload, 1) := by decide +kernel
theorem dL_law_300 : decode cL_law 300 = .ok (.invokevirtual 46, 3) := by decide +kernel
theorem dL_law_303 : decode cL_law 303 = .ok (.aload_n 2, 1) := by decide +kernel
theorem dL_law_304 : decode cL_law 304 = .ok (.aload_n 0, 1) := by decide +kernel
theorem dL_law_305 : decode cL_law 305 = .ok (.iload_n 3, 1) := by decide +kernel
theorem dL_law_306 : decode cL_law 306 = .ok (.iconst 1, 1) := by decide +kernel
theorem dL_law_307 : decode cL_law 307 = .ok (.iadd, 1) := by decide +kernel
theorem dL_law_308 : decode cL_law 308 = .ok (.iaload, 1) := by decide +kernel
theorem dL_law_309 : decode cL_law 309 = .ok (.aload_n 0, 1) := by decide +kernel
theorem dL_law_310 : decode cL_law 310 = .ok (.iload_n 3, 1) := by decide +kernel
theorem dL_law_311 : decode cL_law 311 = .ok (.iconst 2, 1) := by decide +kernel
theorem dL_law_312 : decode cL_law 312 = .ok (.iadd, 1) := by decide +kernel
theorem dL_law_313 : decode cL_law 313 = .ok (.iaload, 1) := by decide +kernel
theorem dL_law_314 : decode cL_law 314 = .ok (.invokevirtual 49, 3) := by decide +kernel
theorem dL_law_317 : decode cL_law 317 = .ok (.if_icmp .eq 41, 3) := by decide +kernel
theorem dL_law_320 : decode cL_law 320 = .ok (.iconst 0, 1) := by decide +kernel
theorem dL_law_321 : decode cL_law 321 = .ok (.ireturn, 1) := by decide +kernel
theorem dL_law_322 : decode cL_law 322 = .ok (.aload_n 1, 1) := by decide +kernel
theorem dL_law_323 : decode cL_law 323 = .ok (.aload_n 0, 1) := by decide +kernel
theorem dL_law_324 : decode cL_law 324 = .ok (.iload_n 3, 1) := by decide +kernel
theorem dL_law_325 : decode cL_law 325 = .ok (.iconst 1, 1) := by decide +kernel
theorem dL_law_326 : decode cL_law 326 = .ok (.iadd, 1) := by decide +kernel
theorem dL_law_327 : decode cL_law 327 = .ok (.iaload, 1) := by decide +kernel
theorem dL_law_328 : decode cL_law 328 = .ok (.invokevirtual 50, 3) := by decide +kernel
theorem dL_law_331 : decode cL_law 331 = .ok (.aload_n 2, 1) := by decide +kernel
theorem dL_law_332 : decode cL_law 332 = .ok (.aload_n 0, 1) := by decide +kernel
theorem dL_law_333 : decode cL_law 333 = .ok (.iload_n 3, 1) := by decide +kernel
theorem dL_law_334 : decode cL_law 334 = .ok (.iconst 1, 1) := by decide +kernel
theorem dL_law_335 : decode cL_law 335 = .ok (.iadd, 1) := by decide +kernel
theorem dL_law_336 : decode cL_law 336 = .ok (.iaload, 1) := by decide +kernel
theorem dL_law_337 : decode cL_law 337 = .ok (.invokevirtual 53, 3) := by decide +kernel
theorem dL_law_340 : decode cL_law 340 = .ok (.if_icmp .eq 18, 3) := by decide +kernel
theorem dL_law_343 : decode cL_law 343 = .ok (.iconst 0, 1) := by decide +kernel
theorem dL_law_344 : decode cL_law 344 = .ok (.ireturn, 1) := by decide +kernel
theorem dL_law_345 : decode cL_law 345 = .ok (.aload_n 1, 1) := by decide +kernel
theorem dL_law_346 : decode cL_law 346 = .ok (.invokevirtual 54, 3) := by decide +kernel
theorem dL_law_349 : decode cL_law 349 = .ok (.aload_n 2, 1) := by decide +kernel
theorem dL_law_350 : decode cL_law 350 = .ok (.invokevirtual 57, 3) := by decide +kernel
theorem dL_law_353 : decode cL_law 353 = .ok (.if_icmp .eq 5, 3) := by decide +kernel
theorem dL_law_356 : decode cL_law 356 = .ok (.iconst 0, 1) := by decide +kernel
theorem dL_law_357 : decode cL_law 357 = .ok (.ireturn, 1) := by decide +kernel
theorem dL_law_358 : decode cL_law 358 = .ok (.iinc 3 6, 3) := by decide +kernel
theorem dL_law_361 : decode cL_law 361 = .ok (.goto (-343), 3) := by decide +kernel
theorem dL_law_364 : decode cL_law 364 = .ok (.iconst 1, 1) := by decide +kernel
theorem dL_law_365 : decode cL_law 365 = .ok (.ireturn, 1) := by decide +kernel
end
section
/-! Base rows of mine: booleans, 'let' words, the tables that never change, one row a call. -/
def bI (z : Bool) : Int32 := match z with | true => 1 | false => 0
theorem bI_nar (z : Bool) : narrow .boolean (.int (bI z)) = .int (bI z) := by cases z <;> rfl
theorem bI_fit (z : Bool) : fits .boolean (.int (bI z)) = true := by cases z <;> rfl
theorem bI_0 (z : Bool) : bI z = 0 ↔ z = false := by cases z <;> decide
theorem bI_1 (z : Bool) : bI z = 1 ↔ z = true := by cases z <;> decide
theorem bI_inj {y z : Bool} : bI y = bI z ↔ y = z := by cases y <;> cases z <;> decide
/-- the tables of the class, as the Statement has them -/
def tb_mask : Nat → Int32 := fun j => if j = 0 then 255 else if j = 1 then 3 else if j = 2 then 15 else 63
def tb_list : List Int32 := [
  1, 3, 2, 2, 1, 1, 2, 1, 5, 2, 2, 2, 1, 1, 2, 1,
  0, 3, 2, 2, 1, 1, 2, 1, 2, 2, 2, 2, 1, 1, 2, 1,
  2, 3, 2, 2, 1, 1, 2, 1, 2, 2, 2, 2, 1, 1, 2, 1,
  2, 3, 2, 2, 3, 3, 3, 1, 2, 2, 2, 2, 1, 1, 2, 1,
  1, 1, 1, 1, 1, 1, 2, 1, 1, 1, 1, 1, 1, 1, 2, 1,
  1, 1, 1, 1, 1, 1, 2, 1, 1, 1, 1, 1, 1, 1, 2, 1,
  1, 1, 1, 1, 1, 1, 2, 1, 1, 1, 1, 1, 1, 1, 2, 1,
  2, 2, 2, 2, 2, 2, 1, 2, 1, 1, 1, 1, 1, 1, 2, 1,
  1, 1, 1, 1, 1, 1, 2, 1, 1, 1, 1, 1, 1, 1, 2, 1,
  1, 1, 1, 1, 1, 1, 2, 1, 1, 1, 1, 1, 1, 1, 2, 1,
  1, 1, 1, 1, 1, 1, 2, 1, 1, 1, 1, 1, 1, 1, 2, 1,
  1, 1, 1, 1, 1, 1, 2, 1, 1, 1, 1, 1, 1, 1, 2, 1,
  2, 3, 3, 3, 3, 4, 2, 4, 2, 4, 3, 2, 3, 3, 2, 4,
  2, 3, 3, 0, 3, 4, 2, 4, 2, 4, 3, 0, 3, 0, 2, 4,
  3, 3, 2, 0, 0, 4, 2, 4, 4, 1, 4, 0, 0, 0, 2, 4,
  3, 3, 2, 1, 0, 4, 2, 4, 3, 2, 4, 1, 0, 0, 2, 4]
def tb_base : Nat → Int32 := fun j => tb_list.getD j 0
def kx_n1 : Cond := .methodLinkNest RX3 9 yX0_init RX3
def kx_n2 : Cond := .methodLinkNest RX3 18 yX2_init RX3
def kx_n3 : Cond := .methodLinkNest RX2 11 yX1_init RX3
def kx_n4 : Cond := .fieldLinkNest RX3 71 RX0 "counter" "I" RX3
def kx_n5 : Cond := .fieldLinkNest RX3 23 RX2 "registers" "LGameCore$Registers;" RX3
def kx_n6 : Cond := .fieldLinkNest RX0 32 RX3 "TIMER_MASKS" "[I" RX3
/-- what stays: the links among nest mates; the two tables, apart from A -/
def kx (A : Nat → Prop) (U : State) : Prop := (va_Nw kx_n1 U ∧ va_Nw kx_n2 U ∧ va_Nw kx_n3 U ∧ va_Nw kx_n4 U ∧ va_Nw kx_n5 U ∧ va_Nw kx_n6 U) ∧
  (∃ t : Nat, va_Z "GameCore" "TIMER_MASKS" "[I" (.ref t) A U U.heap ∧ va_T .int t 4 (fun j => .int (tb_mask j)) A U U.heap) ∧ ∃ t : Nat, va_Z "GameCore" "BASE_CYCLES" "[I" (.ref t) A U U.heap ∧ va_T .int t 256 (fun j => .int (tb_base j)) A U U.heap
theorem kx_go {A B : Nat → Prop} {s U : State} {H : Heap} {locs : List Loc} (h : kx A s) (hS : va_S A s.heap H locs) (hF : ∀ q, B q → A q) (hU : U.heap = H) (hW : s.WarmedH U.vm) : kx B U := by
  obtain ⟨⟨a1, a2, a3, a4, a5, a6⟩, ⟨t, z, y⟩, t2, z2, y2⟩ := h
  subst hU
  exact ⟨⟨a1.warmM hW, a2.warmM hW, a3.warmM hW, a4.warmF hW, a5.warmF hW, a6.warmF hW⟩, ⟨t, ((z.kept hS.2.1).narrow hF).moved hW.alike, ((y.kept hS.2.1).narrow hF).moved hW.alike⟩, t2, ((z2.kept hS.2.1).narrow hF).moved hW.alike, ((y2.kept hS.2.1).narrow hF).moved hW.alike⟩
theorem kx_same {A : Nat → Prop} {u U : State} (h : kx A u) (hv : U.vm = u.vm) (hh : U.heap = u.heap) : kx A U := by
  obtain ⟨⟨a1, a2, a3, a4, a5, a6⟩, ⟨t, z, y⟩, t2, z2, y2⟩ := h
  have ha : u.vm.Alike U.vm := by rw [hv]; exact Vm.Alike.refl u.vm
  have hv := hv.symm
  refine ⟨⟨a1.same rfl hv, a2.same rfl hv, a3.same rfl hv, a4.same rfl hv, a5.same rfl hv, a6.same rfl hv⟩, ⟨t, ?_, ?_⟩, t2, ?_, ?_⟩
  · rw [hh]; exact z.moved ha
  · rw [hh]; exact y.moved ha
  · rw [hh]; exact z2.moved ha
  · rw [hh]; exact y2.moved ha
/-- a contract's start, and its end -/
def kp (D : va_G) (ws : va_W) (tys : List (ClassId × FieldType)) (sz : Nat) (U : State) : Prop := U.heap.size = sz ∧ va_P D vwCl ws U.heap ∧ va_K D vwCl tys U ∧ va_D (fun _ => True) ws ∧ kx (va_A ws sz) U
def kq (D : va_G) (ws : va_W) (tys : List (ClassId × FieldType)) (A : Nat → Prop) (t : State) : Prop := va_P D vwCl ws t.heap ∧ va_K D vwCl tys t ∧ va_D A ws
theorem kp_blind (av : List Value) (D : va_G) (ws : va_W) (tys : List (ClassId × FieldType)) (sz : Nat) : FrameBlind (va_Pc av (kp D ws tys sz)) := by
  intro a U g mk q
  obtain ⟨q0, q1, qP, qK, qD, qT⟩ := q
  exact ⟨q0, q1, qP, va_K.moved (u := U) (U := U.calling g mk a) (Vm.Alike.refl U.vm) qK, qD, kx_same qT rfl rfl⟩
section KC
variable {p : Program} {l : Launch} {e : Env} {R : Room} {s : State} {m : MethodId} {args : Array Value} {below : List Frame} {meth : Method} {c : Code} {H : Heap} {locs : List Loc} {cells slots : Nat} {Q : State → Prop}
variable {D : va_G} {A : Nat → Prop} {ws wc wr : va_W} {tys tyc : List (ClassId × FieldType)} {y : MethodName} {bytes cc : ByteArray} {maxL nL n index pc mc ms : Nat} {ret : Option FieldType} {wy Ts : List Cond} {rm : Room} {own C : String} {b : Addr} {As rest st0 : List Value} {ls : Array Slot}
theorem kc_pre (hK : va_K D vwCl tys s) (hP : va_P D vwCl ws H) (hD : va_D A ws) (hS : va_S A s.heap H locs) (hA : ∀ q, s.heap.size ≤ q → A q) (hT : kx A s) {isC isT : List Nat} (hC : isC.map (fun i => ws[i]?) = wc.map some) (hCn : va_nd isC = true) (hTy : isT.filterMap (fun i => tys[i]?) = tyc) (av : List Value) : ∀ U : State, U.heap = H → s.WarmedH U.vm → va_Pc av (kp D wc tyc H.size) av.toArray U := by
  intro U hU hW
  have hsub : isC.filterMap (fun i => ws[i]?) = wc := by
    have : isC.filterMap (fun i => ws[i]?) = (isC.map (fun i => ws[i]?)).filterMap id := by rw [List.filterMap_map]; rfl
    rw [this, hC, List.filterMap_map]
    exact List.filterMap_some
  have hPc := hP.sub isC hsub
  have hDc := hD.sub isC hCn hC
  have hKc := hK.sub isT hTy
  have hFc := va_free hD hS hA isC hC
  exact ⟨rfl, by rw [hU], by rw [hU]; exact hPc, va_K.moved hW.alike hKc, hDc.weaken (fun _ _ _ _ => trivial), kx_go hT hS hFc hU hW⟩
theorem kc_join {S : Type} {wn w2 : S → va_W} (hP : va_P D vwCl ws H) (hD : va_D A ws) (hS : va_S A s.heap H locs) (hA : ∀ q, s.heap.size ≤ q → A q) {isC isR pm : List Nat} (hC : isC.map (fun i => ws[i]?) = wc.map some) (hR : isR.map (fun i => ws[i]?) = wr.map some) (hn : va_nd isR = true) (hdis : ∀ i ∈ isR, i ∉ isC) (hpm : ∀ u, pm.map (fun i => (wr ++ wn u)[i]?) = (w2 u).map some) (hpn : va_nd pm = true) {H1 : Heap} (hk : ∀ q : Nat, q < H.size → ¬ va_A wc H.size q → H1[q]? = H[q]?) (u : S) (hP1 : va_P D vwCl (wn u) H1) (hD1 : va_D (va_A wc H.size) (wn u)) : va_P D vwCl (w2 u) H1 ∧ va_D A (w2 u) := by
  obtain ⟨hP, hD⟩ := va_join hP hD isC isR hC hR hn hdis hk (va_free hD hS hA isC hC) hP1 hD1
  have hsub : pm.filterMap (fun i => (wr ++ wn u)[i]?) = w2 u := by
    have : pm.filterMap (fun i => (wr ++ wn u)[i]?) = (pm.map (fun i => (wr ++ wn u)[i]?)).filterMap id := by rw [List.filterMap_map]; rfl
    rw [this, hpm u, List.filterMap_map]
    exact List.filterMap_some
  exact ⟨hP.sub pm hsub, hD.sub pm hpn (hpm u)⟩
/-- a call of an instance method that answers an int -/
theorem kc_Vi {S : Type} {post : Int32 → S → Prop} {wn : S → va_W} (w2 : S → va_W) (S0 : CallFix p m c cc nL s args Ts own) (hK : va_K D vwCl tys s) (hP : va_P D vwCl ws H) (hD : va_D A ws) (hS : va_S A s.heap H locs) (hA : ∀ q, s.heap.size ≤ q → A q) (hT : kx A s)
    (hM : Met l y wy rm (va_Pc (.ref b :: As) (kp D wc tyc H.size)) (va_Qi post (fun u t => kq D (wn u) tyc (va_A wc H.size) t) (va_A wc H.size)) 0 0 (va_A wc H.size)) (cw : CallW R s args own C index y bytes maxL ret wy rm 0 0 n)
    (isC isR isT pm : List Nat) (hC : isC.map (fun i => ws[i]?) = wc.map some) (hCn : va_nd isC = true) (hR : isR.map (fun i => ws[i]?) = wr.map some) (hn : va_nd isR = true) (hdis : ∀ i ∈ isR, i ∉ isC) (hTy : isT.filterMap (fun i => tys[i]?) = tyc) (hpm : ∀ u, pm.map (fun i => (wr ++ wn u)[i]?) = (w2 u).map some) (hpn : va_nd pm = true)
    (q0 : Nat) {ci : Nat} {q : vw_C} {fs : List Value} (hcq : vwCl[ci]? = some q) (hq : q.1 = C) (hb0 : ws[q0]? = some (b, .inr (ci, fs)))
    (hlen : As.length = n) (hsize : ls.size = nL) (hstk : st0 = As.reverse ++ .ref b :: rest) (hW : (rest.map fun v => v.category).sum ≤ 8) (hdg : decode cc pc = .ok (.invokevirtual index, 3)) (hf : cells ≤ R.cells ∧ slots ≤ R.slots)
    (kk : ∀ (r : Int32) (u : S) (H1 : Heap) (locs1 : List Loc), post r u → va_P D vwCl (w2 u) H1 → va_D A (w2 u) → va_S A s.heap H1 locs1 → W p l e R s m args below meth c H1 locs1 cells slots Q (F0 m (pc + 3) ls (.int r :: rest))) : W p l e R s m args below meth c H locs cells slots Q (F0 m pc ls st0) := by
  subst hq
  have hFc := va_free hD hS hA isC hC
  refine va_calli (va_runV S0 hM cw ⟨kp_blind _ _ _ _ _, va_recv hK hP hcq hb0, kc_pre hK hP hD hS hA hT hC hCn hTy _⟩ rfl hlen hsize hstk (lv_room hW) hdg hf) hS (fun q _ h => hFc q h) hFc (fun r u t H1 locs1 ht hvm hw hB hz1 hk1 hS1 => ?_)
  obtain ⟨hP1, -, hD1⟩ := hB
  rw [ht] at hP1
  obtain ⟨hP2, hD2⟩ := kc_join hP hD hS hA hC hR hn hdis hpm hpn hk1 u hP1 hD1
  exact kk r u H1 locs1 hw hP2 hD2 hS1
/-- a call of an instance method that answers nothing -/
theorem kc_Vv {S : Type} {post : S → Prop} {wn : S → va_W} (w2 : S → va_W) (S0 : CallFix p m c cc nL s args Ts own) (hK : va_K D vwCl tys s) (hP : va_P D vwCl ws H) (hD : va_D A ws) (hS : va_S A s.heap H locs) (hA : ∀ q, s.heap.size ≤ q → A q) (hT : kx A s)
    (hM : Met l y wy rm (va_Pc (.ref b :: As) (kp D wc tyc H.size)) (va_Qv post (fun u t => kq D (wn u) tyc (va_A wc H.size) t) (va_A wc H.size)) 0 0 (va_A wc H.size)) (cw : CallW R s args own C index y bytes maxL ret wy rm 0 0 n)
    (isC isR isT pm : List Nat) (hC : isC.map (fun i => ws[i]?) = wc.map some) (hCn : va_nd isC = true) (hR : isR.map (fun i => ws[i]?) = wr.map some) (hn : va_nd isR = true) (hdis : ∀ i ∈ isR, i ∉ isC) (hTy : isT.filterMap (fun i => tys[i]?) = tyc) (hpm : ∀ u, pm.map (fun i => (wr ++ wn u)[i]?) = (w2 u).map some) (hpn : va_nd pm = true)
    (q0 : Nat) {ci : Nat} {q : vw_C} {fs : List Value} (hcq : vwCl[ci]? = some q) (hq : q.1 = C) (hb0 : ws[q0]? = some (b, .inr (ci, fs)))
    (hlen : As.length = n) (hsize : ls.size = nL) (hstk : st0 = As.reverse ++ .ref b :: rest) (hW : (rest.map fun v => v.category).sum ≤ 8) (hdg : decode cc pc = .ok (.invokevirtual index, 3)) (hf : cells ≤ R.cells ∧ slots ≤ R.slots)
    (kk : ∀ (u : S) (H1 : Heap) (locs1 : List Loc), post u → va_P D vwCl (w2 u) H1 → va_D A (w2 u) → va_S A s.heap H1 locs1 → W p l e R s m args below meth c H1 locs1 cells slots Q (F0 m (pc + 3) ls rest)) : W p l e R s m args below meth c H locs cells slots Q (F0 m pc ls st0) := by
  subst hq
  have hFc := va_free hD hS hA isC hC
  refine va_callv (va_runV S0 hM cw ⟨kp_blind _ _ _ _ _, va_recv hK hP hcq hb0, kc_pre hK hP hD hS hA hT hC hCn hTy _⟩ rfl hlen hsize hstk (lv_room hW) hdg hf) hS (fun q _ h => hFc q h) hFc (fun u t H1 locs1 ht hvm hw hB hz1 hk1 hS1 => ?_)
  obtain ⟨hP1, -, hD1⟩ := hB
  rw [ht] at hP1
  obtain ⟨hP2, hD2⟩ := kc_join hP hD hS hA hC hR hn hdis hpm hpn hk1 u hP1 hD1
  exact kk u H1 locs1 hw hP2 hD2 hS1
/-- a call of a static method of numbers alone that answers an int -/
theorem kc_Si {post : Int32 → Unit → Prop} (S0 : CallFix p m c cc nL s args Ts own) (hK : va_K D vwCl tys s) (hP : va_P D vwCl ws H) (hD : va_D A ws) (hS : va_S A s.heap H locs) (hA : ∀ q, s.heap.size ≤ q → A q) (hT : kx A s)
    (hM : Met l y wy rm (va_Pc As (kp D [] [] H.size)) (va_Qi post (fun _ t => kq D [] [] (va_A [] H.size) t) (va_A [] H.size)) 0 0 (va_A [] H.size)) (cw : CallB R s args own index y bytes maxL ret wy rm 0 0 n ∧ (Cond.static y).before args s = true)
    (hlen : As.length = n) (hsize : ls.size = nL) (hstk : st0 = As.reverse ++ rest) (hW : (rest.map fun v => v.category).sum ≤ 8) (hdg : decode cc pc = .ok (.invokestatic index, 3)) (hf : cells ≤ R.cells ∧ slots ≤ R.slots)
    (kk : ∀ (r : Int32) (H1 : Heap) (locs1 : List Loc), post r () → va_P D vwCl ws H1 → va_D A ws → va_S A s.heap H1 locs1 → W p l e R s m args below meth c H1 locs1 cells slots Q (F0 m (pc + 3) ls (.int r :: rest))) : W p l e R s m args below meth c H locs cells slots Q (F0 m pc ls st0) := by
  have hFc : ∀ q, va_A [] H.size q → A q := va_free (wc := []) hD hS hA [] rfl
  refine va_calli (va_runS S0 hM cw ⟨kp_blind _ _ _ _ _, kc_pre (wc := []) (tyc := []) (isC := []) (isT := []) hK hP hD hS hA hT rfl rfl rfl _⟩ rfl hlen hsize hstk (lv_room hW) hdg hf) hS (fun q _ h => hFc q h) hFc (fun r u t H1 locs1 ht hvm hw hB hz1 hk1 hS1 => ?_)
  have hP1 : va_P D vwCl ws H1 := hP.kept (fun k q hq => by
    have hlt : q.1 < H.size := (hP k q hq).lt
    refine hk1 q.1 hlt ?_
    intro h
    rcases h with ⟨k2, e2, h2⟩ | h2
    · simp at h2
    · omega)
  exact kk r H1 locs1 hw hP1 hD hS1
end KC
/-- 'let' words of the pictures -/
def kU1 {T1 Z : Type} (u : T1) (k : T1 → Z) : Z := k u
theorem kE1 {T1 Z : Type} {u : T1} {k : T1 → Z} {x1 : T1} (h : x1 = u) : kU1 u k = k x1 := by subst h; rfl
def kU2 {T1 T2 Z : Type} (u : T1 × T2) (k : T1 → T2 → Z) : Z := k u.1 u.2
theorem kE2 {T1 T2 Z : Type} {u : T1 × T2} {k : T1 → T2 → Z} {x1 : T1} {x2 : T2} (h : (x1, x2) = u) : kU2 u k = k x1 x2 := by subst h; rfl
def kU3 {T1 T2 T3 Z : Type} (u : T1 × T2 × T3) (k : T1 → T2 → T3 → Z) : Z := k u.1 u.2.1 u.2.2
theorem kE3 {T1 T2 T3 Z : Type} {u : T1 × T2 × T3} {k : T1 → T2 → T3 → Z} {x1 : T1} {x2 : T2} {x3 : T3} (h : (x1, x2, x3) = u) : kU3 u k = k x1 x2 x3 := by subst h; rfl
def kU4 {T1 T2 T3 T4 Z : Type} (u : T1 × T2 × T3 × T4) (k : T1 → T2 → T3 → T4 → Z) : Z := k u.1 u.2.1 u.2.2.1 u.2.2.2
theorem kE4 {T1 T2 T3 T4 Z : Type} {u : T1 × T2 × T3 × T4} {k : T1 → T2 → T3 → T4 → Z} {x1 : T1} {x2 : T2} {x3 : T3} {x4 : T4} (h : (x1, x2, x3, x4) = u) : kU4 u k = k x1 x2 x3 x4 := by subst h; rfl
def kU5 {T1 T2 T3 T4 T5 Z : Type} (u : T1 × T2 × T3 × T4 × T5) (k : T1 → T2 → T3 → T4 → T5 → Z) : Z := k u.1 u.2.1 u.2.2.1 u.2.2.2.1 u.2.2.2.2
theorem kE5 {T1 T2 T3 T4 T5 Z : Type} {u : T1 × T2 × T3 × T4 × T5} {k : T1 → T2 → T3 → T4 → T5 → Z} {x1 : T1} {x2 : T2} {x3 : T3} {x4 : T4} {x5 : T5} (h : (x1, x2, x3, x4, x5) = u) : kU5 u k = k x1 x2 x3 x4 x5 := by subst h; rfl
def kU6 {T1 T2 T3 T4 T5 T6 Z : Type} (u : T1 × T2 × T3 × T4 × T5 × T6) (k : T1 → T2 → T3 → T4 → T5 → T6 → Z) : Z := k u.1 u.2.1 u.2.2.1 u.2.2.2.1 u.2.2.2.2.1 u.2.2.2.2.2
theorem kE6 {T1 T2 T3 T4 T5 T6 Z : Type} {u : T1 × T2 × T3 × T4 × T5 × T6} {k : T1 → T2 → T3 → T4 → T5 → T6 → Z} {x1 : T1} {x2 : T2} {x3 : T3} {x4 : T4} {x5 : T5} {x6 : T6} (h : (x1, x2, x3, x4, x5, x6) = u) : kU6 u k = k x1 x2 x3 x4 x5 x6 := by subst h; rfl
def kU7 {T1 T2 T3 T4 T5 T6 T7 Z : Type} (u : T1 × T2 × T3 × T4 × T5 × T6 × T7) (k : T1 → T2 → T3 → T4 → T5 → T6 → T7 → Z) : Z := k u.1 u.2.1 u.2.2.1 u.2.2.2.1 u.2.2.2.2.1 u.2.2.2.2.2.1 u.2.2.2.2.2.2
theorem kE7 {T1 T2 T3 T4 T5 T6 T7 Z : Type} {u : T1 × T2 × T3 × T4 × T5 × T6 × T7} {k : T1 → T2 → T3 → T4 → T5 → T6 → T7 → Z} {x1 : T1} {x2 : T2} {x3 : T3} {x4 : T4} {x5 : T5} {x6 : T6} {x7 : T7} (h : (x1, x2, x3, x4, x5, x6, x7) = u) : kU7 u k = k x1 x2 x3 x4 x5 x6 x7 := by subst h; rfl
def kU8 {T1 T2 T3 T4 T5 T6 T7 T8 Z : Type} (u : T1 × T2 × T3 × T4 × T5 × T6 × T7 × T8) (k : T1 → T2 → T3 → T4 → T5 → T6 → T7 → T8 → Z) : Z := k u.1 u.2.1 u.2.2.1 u.2.2.2.1 u.2.2.2.2.1 u.2.2.2.2.2.1 u.2.2.2.2.2.2.1 u.2.2.2.2.2.2.2
theorem kE8 {T1 T2 T3 T4 T5 T6 T7 T8 Z : Type} {u : T1 × T2 × T3 × T4 × T5 × T6 × T7 × T8} {k : T1 → T2 → T3 → T4 → T5 → T6 → T7 → T8 → Z} {x1 : T1} {x2 : T2} {x3 : T3} {x4 : T4} {x5 : T5} {x6 : T6} {x7 : T7} {x8 : T8} (h : (x1, x2, x3, x4, x5, x6, x7, x8) = u) : kU8 u k = k x1 x2 x3 x4 x5 x6 x7 x8 := by subst h; rfl
def kU9 {T1 T2 T3 T4 T5 T6 T7 T8 T9 Z : Type} (u : T1 × T2 × T3 × T4 × T5 × T6 × T7 × T8 × T9) (k : T1 → T2 → T3 → T4 → T5 → T6 → T7 → T8 → T9 → Z) : Z := k u.1 u.2.1 u.2.2.1 u.2.2.2.1 u.2.2.2.2.1 u.2.2.2.2.2.1 u.2.2.2.2.2.2.1 u.2.2.2.2.2.2.2.1 u.2.2.2.2.2.2.2.2
theorem kE9 {T1 T2 T3 T4 T5 T6 T7 T8 T9 Z : Type} {u : T1 × T2 × T3 × T4 × T5 × T6 × T7 × T8 × T9} {k : T1 → T2 → T3 → T4 → T5 → T6 → T7 → T8 → T9 → Z} {x1 : T1} {x2 : T2} {x3 : T3} {x4 : T4} {x5 : T5} {x6 : T6} {x7 : T7} {x8 : T8} {x9 : T9} (h : (x1, x2, x3, x4, x5, x6, x7, x8, x9) = u) : kU9 u k = k x1 x2 x3 x4 x5 x6 x7 x8 x9 := by subst h; rfl
def kU10 {T1 T2 T3 T4 T5 T6 T7 T8 T9 T10 Z : Type} (u : T1 × T2 × T3 × T4 × T5 × T6 × T7 × T8 × T9 × T10) (k : T1 → T2 → T3 → T4 → T5 → T6 → T7 → T8 → T9 → T10 → Z) : Z := k u.1 u.2.1 u.2.2.1 u.2.2.2.1 u.2.2.2.2.1 u.2.2.2.2.2.1 u.2.2.2.2.2.2.1 u.2.2.2.2.2.2.2.1 u.2.2.2.2.2.2.2.2.1 u.2.2.2.2.2.2.2.2.2
theorem kE10 {T1 T2 T3 T4 T5 T6 T7 T8 T9 T10 Z : Type} {u : T1 × T2 × T3 × T4 × T5 × T6 × T7 × T8 × T9 × T10} {k : T1 → T2 → T3 → T4 → T5 → T6 → T7 → T8 → T9 → T10 → Z} {x1 : T1} {x2 : T2} {x3 : T3} {x4 : T4} {x5 : T5} {x6 : T6} {x7 : T7} {x8 : T8} {x9 : T9} {x10 : T10} (h : (x1, x2, x3, x4, x5, x6, x7, x8, x9, x10) = u) : kU10 u k = k x1 x2 x3 x4 x5 x6 x7 x8 x9 x10 := by subst h; rfl
def kU11 {T1 T2 T3 T4 T5 T6 T7 T8 T9 T10 T11 Z : Type} (u : T1 × T2 × T3 × T4 × T5 × T6 × T7 × T8 × T9 × T10 × T11) (k : T1 → T2 → T3 → T4 → T5 → T6 → T7 → T8 → T9 → T10 → T11 → Z) : Z := k u.1 u.2.1 u.2.2.1 u.2.2.2.1 u.2.2.2.2.1 u.2.2.2.2.2.1 u.2.2.2.2.2.2.1 u.2.2.2.2.2.2.2.1 u.2.2.2.2.2.2.2.2.1 u.2.2.2.2.2.2.2.2.2.1 u.2.2.2.2.2.2.2.2.2.2
theorem kE11 {T1 T2 T3 T4 T5 T6 T7 T8 T9 T10 T11 Z : Type} {u : T1 × T2 × T3 × T4 × T5 × T6 × T7 × T8 × T9 × T10 × T11} {k : T1 → T2 → T3 → T4 → T5 → T6 → T7 → T8 → T9 → T10 → T11 → Z} {x1 : T1} {x2 : T2} {x3 : T3} {x4 : T4} {x5 : T5} {x6 : T6} {x7 : T7} {x8 : T8} {x9 : T9} {x10 : T10} {x11 : T11} (h : (x1, x2, x3, x4, x5, x6, x7, x8, x9, x10, x11) = u) : kU11 u k = k x1 x2 x3 x4 x5 x6 x7 x8 x9 x10 x11 := by subst h; rfl
def kU12 {T1 T2 T3 T4 T5 T6 T7 T8 T9 T10 T11 T12 Z : Type} (u : T1 × T2 × T3 × T4 × T5 × T6 × T7 × T8 × T9 × T10 × T11 × T12) (k : T1 → T2 → T3 → T4 → T5 → T6 → T7 → T8 → T9 → T10 → T11 → T12 → Z) : Z := k u.1 u.2.1 u.2.2.1 u.2.2.2.1 u.2.2.2.2.1 u.2.2.2.2.2.1 u.2.2.2.2.2.2.1 u.2.2.2.2.2.2.2.1 u.2.2.2.2.2.2.2.2.1 u.2.2.2.2.2.2.2.2.2.1 u.2.2.2.2.2.2.2.2.2.2.1 u.2.2.2.2.2.2.2.2.2.2.2
theorem kE12 {T1 T2 T3 T4 T5 T6 T7 T8 T9 T10 T11 T12 Z : Type} {u : T1 × T2 × T3 × T4 × T5 × T6 × T7 × T8 × T9 × T10 × T11 × T12} {k : T1 → T2 → T3 → T4 → T5 → T6 → T7 → T8 → T9 → T10 → T11 → T12 → Z} {x1 : T1} {x2 : T2} {x3 : T3} {x4 : T4} {x5 : T5} {x6 : T6} {x7 : T7} {x8 : T8} {x9 : T9} {x10 : T10} {x11 : T11} {x12 : T12} (h : (x1, x2, x3, x4, x5, x6, x7, x8, x9, x10, x11, x12) = u) : kU12 u k = k x1 x2 x3 x4 x5 x6 x7 x8 x9 x10 x11 x12 := by subst h; rfl
def kU13 {T1 T2 T3 T4 T5 T6 T7 T8 T9 T10 T11 T12 T13 Z : Type} (u : T1 × T2 × T3 × T4 × T5 × T6 × T7 × T8 × T9 × T10 × T11 × T12 × T13) (k : T1 → T2 → T3 → T4 → T5 → T6 → T7 → T8 → T9 → T10 → T11 → T12 → T13 → Z) : Z := k u.1 u.2.1 u.2.2.1 u.2.2.2.1 u.2.2.2.2.1 u.2.2.2.2.2.1 u.2.2.2.2.2.2.1 u.2.2.2.2.2.2.2.1 u.2.2.2.2.2.2.2.2.1 u.2.2.2.2.2.2.2.2.2.1 u.2.2.2.2.2.2.2.2.2.2.1 u.2.2.2.2.2.2.2.2.2.2.2.1 u.2.2.2.2.2.2.2.2.2.2.2.2
theorem kE13 {T1 T2 T3 T4 T5 T6 T7 T8 T9 T10 T11 T12 T13 Z : Type} {u : T1 × T2 × T3 × T4 × T5 × T6 × T7 × T8 × T9 × T10 × T11 × T12 × T13} {k : T1 → T2 → T3 → T4 → T5 → T6 → T7 → T8 → T9 → T10 → T11 → T12 → T13 → Z} {x1 : T1} {x2 : T2} {x3 : T3} {x4 : T4} {x5 : T5} {x6 : T6} {x7 : T7} {x8 : T8} {x9 : T9} {x10 : T10} {x11 : T11} {x12 : T12} {x13 : T13} (h : (x1, x2, x3, x4, x5, x6, x7, x8, x9, x10, x11, x12, x13) = u) : kU13 u k = k x1 x2 x3 x4 x5 x6 x7 x8 x9 x10 x11 x12 x13 := by subst h; rfl
def kU14 {T1 T2 T3 T4 T5 T6 T7 T8 T9 T10 T11 T12 T13 T14 Z : Type} (u : T1 × T2 × T3 × T4 × T5 × T6 × T7 × T8 × T9 × T10 × T11 × T12 × T13 × T14) (k : T1 → T2 → T3 → T4 → T5 → T6 → T7 → T8 → T9 → T10 → T11 → T12 → T13 → T14 → Z) : Z := k u.1 u.2.1 u.2.2.1 u.2.2.2.1 u.2.2.2.2.1 u.2.2.2.2.2.1 u.2.2.2.2.2.2.1 u.2.2.2.2.2.2.2.1 u.2.2.2.2.2.2.2.2.1 u.2.2.2.2.2.2.2.2.2.1 u.2.2.2.2.2.2.2.2.2.2.1 u.2.2.2.2.2.2.2.2.2.2.2.1 u.2.2.2.2.2.2.2.2.2.2.2.2.1 u.2.2.2.2.2.2.2.2.2.2.2.2.2
theorem kE14 {T1 T2 T3 T4 T5 T6 T7 T8 T9 T10 T11 T12 T13 T14 Z : Type} {u : T1 × T2 × T3 × T4 × T5 × T6 × T7 × T8 × T9 × T10 × T11 × T12 × T13 × T14} {k : T1 → T2 → T3 → T4 → T5 → T6 → T7 → T8 → T9 → T10 → T11 → T12 → T13 → T14 → Z} {x1 : T1} {x2 : T2} {x3 : T3} {x4 : T4} {x5 : T5} {x6 : T6} {x7 : T7} {x8 : T8} {x9 : T9} {x10 : T10} {x11 : T11} {x12 : T12} {x13 : T13} {x14 : T14} (h : (x1, x2, x3, x4, x5, x6, x7, x8, x9, x10, x11, x12, x13, x14) = u) : kU14 u k = k x1 x2 x3 x4 x5 x6 x7 x8 x9 x10 x11 x12 x13 x14 := by subst h; rfl
def kU15 {T1 T2 T3 T4 T5 T6 T7 T8 T9 T10 T11 T12 T13 T14 T15 Z : Type} (u : T1 × T2 × T3 × T4 × T5 × T6 × T7 × T8 × T9 × T10 × T11 × T12 × T13 × T14 × T15) (k : T1 → T2 → T3 → T4 → T5 → T6 → T7 → T8 → T9 → T10 → T11 → T12 → T13 → T14 → T15 → Z) : Z := k u.1 u.2.1 u.2.2.1 u.2.2.2.1 u.2.2.2.2.1 u.2.2.2.2.2.1 u.2.2.2.2.2.2.1 u.2.2.2.2.2.2.2.1 u.2.2.2.2.2.2.2.2.1 u.2.2.2.2.2.2.2.2.2.1 u.2.2.2.2.2.2.2.2.2.2.1 u.2.2.2.2.2.2.2.2.2.2.2.1 u.2.2.2.2.2.2.2.2.2.2.2.2.1 u.2.2.2.2.2.2.2.2.2.2.2.2.2.1 u.2.2.2.2.2.2.2.2.2.2.2.2.2.2
theorem kE15 {T1 T2 T3 T4 T5 T6 T7 T8 T9 T10 T11 T12 T13 T14 T15 Z : Type} {u : T1 × T2 × T3 × T4 × T5 × T6 × T7 × T8 × T9 × T10 × T11 × T12 × T13 × T14 × T15} {k : T1 → T2 → T3 → T4 → T5 → T6 → T7 → T8 → T9 → T10 → T11 → T12 → T13 → T14 → T15 → Z} {x1 : T1} {x2 : T2} {x3 : T3} {x4 : T4} {x5 : T5} {x6 : T6} {x7 : T7} {x8 : T8} {x9 : T9} {x10 : T10} {x11 : T11} {x12 : T12} {x13 : T13} {x14 : T14} {x15 : T15} (h : (x1, x2, x3, x4, x5, x6, x7, x8, x9, x10, x11, x12, x13, x14, x15) = u) : kU15 u k = k x1 x2 x3 x4 x5 x6 x7 x8 x9 x10 x11 x12 x13 x14 x15 := by subst h; rfl
def kU16 {T1 T2 T3 T4 T5 T6 T7 T8 T9 T10 T11 T12 T13 T14 T15 T16 Z : Type} (u : T1 × T2 × T3 × T4 × T5 × T6 × T7 × T8 × T9 × T10 × T11 × T12 × T13 × T14 × T15 × T16) (k : T1 → T2 → T3 → T4 → T5 → T6 → T7 → T8 → T9 → T10 → T11 → T12 → T13 → T14 → T15 → T16 → Z) : Z := k u.1 u.2.1 u.2.2.1 u.2.2.2.1 u.2.2.2.2.1 u.2.2.2.2.2.1 u.2.2.2.2.2.2.1 u.2.2.2.2.2.2.2.1 u.2.2.2.2.2.2.2.2.1 u.2.2.2.2.2.2.2.2.2.1 u.2.2.2.2.2.2.2.2.2.2.1 u.2.2.2.2.2.2.2.2.2.2.2.1 u.2.2.2.2.2.2.2.2.2.2.2.2.1 u.2.2.2.2.2.2.2.2.2.2.2.2.2.1 u.2.2.2.2.2.2.2.2.2.2.2.2.2.2.1 u.2.2.2.2.2.2.2.2.2.2.2.2.2.2.2
theorem kE16 {T1 T2 T3 T4 T5 T6 T7 T8 T9 T10 T11 T12 T13 T14 T15 T16 Z : Type} {u : T1 × T2 × T3 × T4 × T5 × T6 × T7 × T8 × T9 × T10 × T11 × T12 × T13 × T14 × T15 × T16} {k : T1 → T2 → T3 → T4 → T5 → T6 → T7 → T8 → T9 → T10 → T11 → T12 → T13 → T14 → T15 → T16 → Z} {x1 : T1} {x2 : T2} {x3 : T3} {x4 : T4} {x5 : T5} {x6 : T6} {x7 : T7} {x8 : T8} {x9 : T9} {x10 : T10} {x11 : T11} {x12 : T12} {x13 : T13} {x14 : T14} {x15 : T15} {x16 : T16} (h : (x1, x2, x3, x4, x5, x6, x7, x8, x9, x10, x11, x12, x13, x14, x15, x16) = u) : kU16 u k = k x1 x2 x3 x4 x5 x6 x7 x8 x9 x10 x11 x12 x13 x14 x15 x16 := by subst h; rfl
def kU17 {T1 T2 T3 T4 T5 T6 T7 T8 T9 T10 T11 T12 T13 T14 T15 T16 T17 Z : Type} (u : T1 × T2 × T3 × T4 × T5 × T6 × T7 × T8 × T9 × T10 × T11 × T12 × T13 × T14 × T15 × T16 × T17) (k : T1 → T2 → T3 → T4 → T5 → T6 → T7 → T8 → T9 → T10 → T11 → T12 → T13 → T14 → T15 → T16 → T17 → Z) : Z := k u.1 u.2.1 u.2.2.1 u.2.2.2.1 u.2.2.2.2.1 u.2.2.2.2.2.1 u.2.2.2.2.2.2.1 u.2.2.2.2.2.2.2.1 u.2.2.2.2.2.2.2.2.1 u.2.2.2.2.2.2.2.2.2.1 u.2.2.2.2.2.2.2.2.2.2.1 u.2.2.2.2.2.2.2.2.2.2.2.1 u.2.2.2.2.2.2.2.2.2.2.2.2.1 u.2.2.2.2.2.2.2.2.2.2.2.2.2.1 u.2.2.2.2.2.2.2.2.2.2.2.2.2.2.1 u.2.2.2.2.2.2.2.2.2.2.2.2.2.2.2.1 u.2.2.2.2.2.2.2.2.2.2.2.2.2.2.2.2
theorem kE17 {T1 T2 T3 T4 T5 T6 T7 T8 T9 T10 T11 T12 T13 T14 T15 T16 T17 Z : Type} {u : T1 × T2 × T3 × T4 × T5 × T6 × T7 × T8 × T9 × T10 × T11 × T12 × T13 × T14 × T15 × T16 × T17} {k : T1 → T2 → T3 → T4 → T5 → T6 → T7 → T8 → T9 → T10 → T11 → T12 → T13 → T14 → T15 → T16 → T17 → Z} {x1 : T1} {x2 : T2} {x3 : T3} {x4 : T4} {x5 : T5} {x6 : T6} {x7 : T7} {x8 : T8} {x9 : T9} {x10 : T10} {x11 : T11} {x12 : T12} {x13 : T13} {x14 : T14} {x15 : T15} {x16 : T16} {x17 : T17} (h : (x1, x2, x3, x4, x5, x6, x7, x8, x9, x10, x11, x12, x13, x14, x15, x16, x17) = u) : kU17 u k = k x1 x2 x3 x4 x5 x6 x7 x8 x9 x10 x11 x12 x13 x14 x15 x16 x17 := by subst h; rfl
def kU18 {T1 T2 T3 T4 T5 T6 T7 T8 T9 T10 T11 T12 T13 T14 T15 T16 T17 T18 Z : Type} (u : T1 × T2 × T3 × T4 × T5 × T6 × T7 × T8 × T9 × T10 × T11 × T12 × T13 × T14 × T15 × T16 × T17 × T18) (k : T1 → T2 → T3 → T4 → T5 → T6 → T7 → T8 → T9 → T10 → T11 → T12 → T13 → T14 → T15 → T16 → T17 → T18 → Z) : Z := k u.1 u.2.1 u.2.2.1 u.2.2.2.1 u.2.2.2.2.1 u.2.2.2.2.2.1 u.2.2.2.2.2.2.1 u.2.2.2.2.2.2.2.1 u.2.2.2.2.2.2.2.2.1 u.2.2.2.2.2.2.2.2.2.1 u.2.2.2.2.2.2.2.2.2.2.1 u.2.2.2.2.2.2.2.2.2.2.2.1 u.2.2.2.2.2.2.2.2.2.2.2.2.1 u.2.2.2.2.2.2.2.2.2.2.2.2.2.1 u.2.2.2.2.2.2.2.2.2.2.2.2.2.2.1 u.2.2.2.2.2.2.2.2.2.2.2.2.2.2.2.1 u.2.2.2.2.2.2.2.2.2.2.2.2.2.2.2.2.1 u.2.2.2.2.2.2.2.2.2.2.2.2.2.2.2.2.2
theorem kE18 {T1 T2 T3 T4 T5 T6 T7 T8 T9 T10 T11 T12 T13 T14 T15 T16 T17 T18 Z : Type} {u : T1 × T2 × T3 × T4 × T5 × T6 × T7 × T8 × T9 × T10 × T11 × T12 × T13 × T14 × T15 × T16 × T17 × T18} {k : T1 → T2 → T3 → T4 → T5 → T6 → T7 → T8 → T9 → T10 → T11 → T12 → T13 → T14 → T15 → T16 → T17 → T18 → Z} {x1 : T1} {x2 : T2} {x3 : T3} {x4 : T4} {x5 : T5} {x6 : T6} {x7 : T7} {x8 : T8} {x9 : T9} {x10 : T10} {x11 : T11} {x12 : T12} {x13 : T13} {x14 : T14} {x15 : T15} {x16 : T16} {x17 : T17} {x18 : T18} (h : (x1, x2, x3, x4, x5, x6, x7, x8, x9, x10, x11, x12, x13, x14, x15, x16, x17, x18) = u) : kU18 u k = k x1 x2 x3 x4 x5 x6 x7 x8 x9 x10 x11 x12 x13 x14 x15 x16 x17 x18 := by subst h; rfl
def kU19 {T1 T2 T3 T4 T5 T6 T7 T8 T9 T10 T11 T12 T13 T14 T15 T16 T17 T18 T19 Z : Type} (u : T1 × T2 × T3 × T4 × T5 × T6 × T7 × T8 × T9 × T10 × T11 × T12 × T13 × T14 × T15 × T16 × T17 × T18 × T19) (k : T1 → T2 → T3 → T4 → T5 → T6 → T7 → T8 → T9 → T10 → T11 → T12 → T13 → T14 → T15 → T16 → T17 → T18 → T19 → Z) : Z := k u.1 u.2.1 u.2.2.1 u.2.2.2.1 u.2.2.2.2.1 u.2.2.2.2.2.1 u.2.2.2.2.2.2.1 u.2.2.2.2.2.2.2.1 u.2.2.2.2.2.2.2.2.1 u.2.2.2.2.2.2.2.2.2.1 u.2.2.2.2.2.2.2.2.2.2.1 u.2.2.2.2.2.2.2.2.2.2.2.1 u.2.2.2.2.2.2.2.2.2.2.2.2.1 u.2.2.2.2.2.2.2.2.2.2.2.2.2.1 u.2.2.2.2.2.2.2.2.2.2.2.2.2.2.1 u.2.2.2.2.2.2.2.2.2.2.2.2.2.2.2.1 u.2.2.2.2.2.2.2.2.2.2.2.2.2.2.2.2.1 u.2.2.2.2.2.2.2.2.2.2.2.2.2.2.2.2.2.1 u.2.2.2.2.2.2.2.2.2.2.2.2.2.2.2.2.2.2
theorem kE19 {T1 T2 T3 T4 T5 T6 T7 T8 T9 T10 T11 T12 T13 T14 T15 T16 T17 T18 T19 Z : Type} {u : T1 × T2 × T3 × T4 × T5 × T6 × T7 × T8 × T9 × T10 × T11 × T12 × T13 × T14 × T15 × T16 × T17 × T18 × T19} {k : T1 → T2 → T3 → T4 → T5 → T6 → T7 → T8 → T9 → T10 → T11 → T12 → T13 → T14 → T15 → T16 → T17 → T18 → T19 → Z} {x1 : T1} {x2 : T2} {x3 : T3} {x4 : T4} {x5 : T5} {x6 : T6} {x7 : T7} {x8 : T8} {x9 : T9} {x10 : T10} {x11 : T11} {x12 : T12} {x13 : T13} {x14 : T14} {x15 : T15} {x16 : T16} {x17 : T17} {x18 : T18} {x19 : T19} (h : (x1, x2, x3, x4, x5, x6, x7, x8, x9, x10, x11, x12, x13, x14, x15, x16, x17, x18, x19) = u) : kU19 u k = k x1 x2 x3 x4 x5 x6 x7 x8 x9 x10 x11 x12 x13 x14 x15 x16 x17 x18 x19 := by subst h; rfl
/-- places in range -/
theorem ki_ffff (x : Int32) : vp_in (x &&& 65535) 65536 := pk_andIn x 16 (by decide) (by decide)
theorem ki_ff (x : Int32) : vp_in (x &&& 255) 256 := pk_andIn x 8 (by decide) (by decide)
theorem ki_3_4 (x : Int32) : vp_in (x &&& 3) 4 := pk_andIn x 2 (by decide) (by decide)
theorem ki_up {x : Int32} {a b : Nat} (h : vp_in x a) (hab : a ≤ b) : vp_in x b := by
  rw [vp_in_iff] at h ⊢; omega
theorem ki_3_6 (x : Int32) : vp_in (x &&& 3) 6 := ki_up (ki_3_4 x) (by decide)
theorem ki_7_8 (x : Int32) : vp_in (x &&& 7) 8 := pk_andIn x 3 (by decide) (by decide)
theorem ki_lt {x y : Int32} {n : Nat} (h1 : ¬ x < 0) (h2 : x < y) (hy : y.toInt = n) : vp_in x n := by
  rw [vp_in_iff]
  rw [Int32.lt_iff_toInt_lt] at h1 h2
  have : (0 : Int32).toInt = 0 := rfl
  omega
/-- a switch's way past its table -/
theorem ks_out {x : Int32} {lo hi : Int} (h : ∀ k : Int, lo ≤ k → k ≤ hi → ¬ x.toInt = k) : x.toInt < lo ∨ hi < x.toInt := by
  by_cases a : x.toInt < lo
  · exact Or.inl a
  · by_cases b : hi < x.toInt
    · exact Or.inr b
    · exact absurd rfl (h x.toInt (by omega) (by omega))
theorem ki_2p {x : Int32} (h : vp_in x 4) : vp_in ((2 : Int32) * x) 8 := by
  obtain ⟨j, hj, rfl⟩ := vp_in_of h (by decide)
  rcases (show j = 0 ∨ j = 1 ∨ j = 2 ∨ j = 3 by omega) with rfl | rfl | rfl | rfl <;> (unfold vp_in; decide)
theorem ki_2p1 {x : Int32} (h : vp_in x 4) : vp_in ((2 : Int32) * x + (1 : Int32)) 8 := by
  obtain ⟨j, hj, rfl⟩ := vp_in_of h (by decide)
  rcases (show j = 0 ∨ j = 1 ∨ j = 2 ∨ j = 3 by omega) with rfl | rfl | rfl | rfl <;> (unfold vp_in; decide)
theorem ki_sh1 {x : Int32} (h : vp_in x 8) : vp_in (x >>> ((1 : Int32) &&& (31 : Int32))) 4 := by
  obtain ⟨j, hj, rfl⟩ := vp_in_of h (by decide)
  rcases (show j = 0 ∨ j = 1 ∨ j = 2 ∨ j = 3 ∨ j = 4 ∨ j = 5 ∨ j = 6 ∨ j = 7 by omega) with rfl | rfl | rfl | rfl | rfl | rfl | rfl | rfl <;> (unfold vp_in; decide)
/-- loops: a body that goes on or ends, with fuel -/
def kIt {σ ρ : Type} (b : σ → σ ⊕ ρ) (d : ρ) : Nat → σ → ρ
  | 0, _ => d
  | n + 1, x => match b x with
    | .inl y => kIt b d n y
    | .inr r => r
theorem kI_inl {σ ρ : Type} {b : σ → σ ⊕ ρ} {d : ρ} {n : Nat} {x y : σ} (h : b x = .inl y) : kIt b d (n + 1) x = kIt b d n y := by
  show (match b x with | .inl y => kIt b d n y | .inr r => r) = _
  rw [h]
theorem kI_inr {σ ρ : Type} {b : σ → σ ⊕ ρ} {d : ρ} {n : Nat} {x : σ} {r : ρ} (h : b x = .inr r) : kIt b d (n + 1) x = r := by
  show (match b x with | .inl y => kIt b d n y | .inr r => r) = _
  rw [h]
/-- a counter i below K, with n rounds left -/
def kT (K : Nat) (i : Int32) (n : Nat) : Prop := ∃ j : Nat, i = nI j ∧ j ≤ K ∧ K < j + n
theorem kT_0 {K : Nat} {i : Int32} : ¬ kT K i 0 := fun ⟨_, _, h1, h2⟩ => by omega
theorem kT_init (K : Nat) : kT K 0 (K + 1) := ⟨0, nI_0.symm, Nat.zero_le _, by omega⟩
theorem kT_step {K n : Nat} {i i2 k : Int32} (e : i2 = i + 1) (hK : K < 2 ^ 31) (hk : k.toInt = (K : Int)) (c : ¬ k ≤ i) (h : kT K i (n + 1)) : kT K i2 n := by
  obtain ⟨j, rfl, h1, h2⟩ := h
  refine ⟨j + 1, by rw [e]; exact nI_1 j, ?_, by omega⟩
  rw [Int32.le_iff_toInt_le, hk, nI_toInt (by omega)] at c
  omega
theorem kT_stepV {n : Nat} {i i2 k : Int32} (e : i2 = i + 1) (c : ¬ k ≤ i) (h : kT k.toNatClampNeg i (n + 1)) : kT k.toNatClampNeg i2 n := by
  obtain ⟨j, rfl, h1, h2⟩ := h
  refine ⟨j + 1, by rw [e]; exact nI_1 j, ?_, by omega⟩
  have hb : k.toInt < 2 ^ 31 := Int32.toInt_lt k
  have hk : (k.toNatClampNeg : Int) = max k.toInt 0 := by
    show (k.toInt.toNat : Int) = _
    omega
  rw [Int32.le_iff_toInt_le, nI_toInt (by omega)] at c
  omega
theorem kw_start {p : Program} {l : Launch} {e : Env} {R : Room} {s : State} {m : MethodId} {args : Array Value} {below : List Frame} {meth : Method} {c : Code} {H0 H : Heap} {l0 l1 : List Loc} {cells slots : Nat} {Q : State → Prop} {g : JFrame} (h1 : H0 = H) (h2 : l0 = l1) (k : W p l e R s m args below meth c H l1 cells slots Q g) : W p l e R s m args below meth c H0 l0 cells slots Q g := by
  subst h1 h2; exact k
/-- the lowest pending bit is found -/
def kTd (a i : Int32) (n : Nat) : Prop := ∃ (q j : Nat), a = nI q ∧ i = nI j ∧ 0 < q ∧ q < 32 ∧ j ≤ 4 ∧ q % 2 ^ j = 0 ∧ 5 < j + n
theorem kTd_0 {a i : Int32} (_ : ∃ q : Nat, a = nI q ∧ 0 < q ∧ q < 32) : ¬ kTd a i 0 := fun ⟨_, _, _, _, _, _, h1, _, h2⟩ => by omega
theorem kTd_init {a : Int32} (h : ∃ q : Nat, a = nI q ∧ 0 < q ∧ q < 32) : kTd a 0 6 := by
  obtain ⟨q, h1, h2, h3⟩ := h
  exact ⟨q, 0, h1, nI_0.symm, h2, h3, by decide, by simp [Nat.mod_one], by decide⟩
theorem kTd_fin0 : ∀ q : Fin 32, ∀ j : Fin 5, ((nI q.val >>> (nI j.val &&& (31 : Int32))) &&& (1 : Int32)) = (0 : Int32) ∧ 0 < q.val ∧ q.val % 2 ^ j.val = 0 → j.val < 4 ∧ q.val % 2 ^ (j.val + 1) = 0 := by decide +kernel
theorem kTd_fin (q : Nat) (hq : q < 32) (j : Nat) (hj : j < 5) (c : ((nI q >>> (nI j &&& (31 : Int32))) &&& (1 : Int32)) = (0 : Int32)) (h0 : 0 < q) (h1 : q % 2 ^ j = 0) : j < 4 ∧ q % 2 ^ (j + 1) = 0 := kTd_fin0 ⟨q, hq⟩ ⟨j, hj⟩ ⟨c, h0, h1⟩
theorem kTd_step {a i i2 : Int32} {n : Nat} (_ : ∃ q : Nat, a = nI q ∧ 0 < q ∧ q < 32) (e : i2 = i + 1) (c : ((a >>> (i &&& (31 : Int32))) &&& (1 : Int32)) = (0 : Int32)) (h : kTd a i (n + 1)) : kTd a i2 n := by
  obtain ⟨q, j, rfl, rfl, h1, h2, h3, h4, h5⟩ := h
  obtain ⟨g1, g2⟩ := kTd_fin q h2 j (by omega) c h1 h4
  exact ⟨q, j + 1, rfl, by rw [e]; exact nI_1 j, h1, h2, by omega, g2, by omega⟩
theorem kd_pre {x y : Int32} (e : x = y &&& (31 : Int32)) (h : ¬ x ≤ (0 : Int32)) : ∃ q : Nat, x = nI q ∧ 0 < q ∧ q < 32 := by
  obtain ⟨j, hj, hx⟩ := pk_andE y (m := 31) 5 (by decide)
  refine ⟨j, e.trans hx, ?_, hj⟩
  rcases Nat.eq_zero_or_pos j with h0 | h0
  · subst h0; exact absurd (by rw [e, hx]; decide) h
  · exact h0
end
section
abbrev kX0 (cB : ClassId) (me ba : Nat) (v_by : Nat → Int32) (v_ct : Int32) : va_W := [(me, .inr (0, [.ref ba, .int v_ct])), (ba, .inl (cB, 65536, .inl v_by))]
abbrev kX1 (cI : ClassId) (rg wa : Nat) (v_wd : Nat → Int32) : va_W := [(rg, .inr (1, [.ref wa])), (wa, .inl (cI, 6, .inl v_wd))]
abbrev kX2 (cI : ClassId) (sm rg wa : Nat) (v_wd : Nat → Int32) : va_W := [(sm, .inr (2, [.ref rg])), (rg, .inr (1, [.ref wa])), (wa, .inl (cI, 6, .inl v_wd))]
abbrev kX3 (cB : ClassId) (cI : ClassId) (gc me ba rg wa sm : Nat) (v_im : Bool) (v_ei : Bool) (v_ha : Bool) (v_hb : Bool) (v_cy : Int32) (v_by : Nat → Int32) (v_ct : Int32) (v_wd : Nat → Int32) : va_W := [(gc, .inr (3, [.ref me, .ref rg, .ref sm, .int (bI v_im), .int (bI v_ei), .int (bI v_ha), .int (bI v_hb), .int v_cy])), (me, .inr (0, [.ref ba, .int v_ct])), (ba, .inl (cB, 65536, .inl v_by)), (rg, .inr (1, [.ref wa])), (wa, .inl (cI, 6, .inl v_wd)), (sm, .inr (2, [.ref rg]))]
abbrev kX4 (cB : ClassId) (cI : ClassId) (mo mb ma : Nat) (w_zf : Bool) (w_nf : Bool) (w_hf : Bool) (w_cf : Bool) (w_sp : Int32) (w_pc : Int32) (w_on : Bool) (w_wt : Bool) (w_ht : Bool) (w_bg : Bool) (w_cn : Int32) (w_al : Int32) (w_cl : Int32) (w_ie : Bool) (w_ww : Bool) (w_th : Int32) (w_mm : Nat → Int32) (w_bs : Nat → Int32) : va_W := [(mo, .inr (4, [.ref mb, .ref ma, .int (bI w_zf), .int (bI w_nf), .int (bI w_hf), .int (bI w_cf), .int w_sp, .int w_pc, .int (bI w_on), .int (bI w_wt), .int (bI w_ht), .int (bI w_bg), .int w_cn, .int w_al, .int w_cl, .int (bI w_ie), .int (bI w_ww), .int w_th])), (mb, .inl (cB, 65536, .inl w_mm)), (ma, .inl (cI, 8, .inl w_bs))]
def fX0_store (v_by : Nat → Int32) (a1 : Int32) (a2 : Int32) : (Nat → Int32) := (kU1 (upd v_by (a1 &&& (65535 : Int32)).toNatClampNeg (vp_nar .byte a2.toInt8.toInt32)) (fun (f1 : Nat → Int32) => f1))
def rmX0_store : Room := { frames := 0, cells := 0, slots := 0, locals := 0 }
def wwX0_store : List Cond := Cond.code yX0_store cX0_store 3 none :: wsL_law
theorem hdX0_store : yX0_store.cls = RX0 ∧ yX0_store.cls ≠ "java/lang/invoke/MethodHandle" ∧ yX0_store.cls ≠ "java/lang/invoke/VarHandle" ∧ (parseMethodDescriptor yX0_store.desc).map (fun d => d.parameters.length) = some 2 := by decide +kernel
set_option maxHeartbeats 4000000 in
set_option maxRecDepth 100000 in
theorem c_X0_store (l : Launch) (D : va_G) (cB : ClassId) (me ba sz : Nat) (v_by : Nat → Int32) (v_ct : Int32) (a1 : Int32) (a2 : Int32)  : Met l yX0_store wwX0_store rmX0_store (va_Pc [.ref me, .int a1, .int a2] (kp D (kX0 cB me ba v_by v_ct) [(cB, .byte)] sz)) (va_Qv (fun (u9 : (Nat → Int32)) => u9 = fX0_store v_by a1 a2) (fun u9 t => kq D (kX0 cB me ba u9 v_ct) [(cB, .byte)] (va_A (kX0 cB me ba v_by v_ct) sz) t) (va_A (kX0 cB me ba v_by v_ct) sz)) 0 0 (va_A (kX0 cB me ba v_by v_ct) sz) := by
  refine Met.ofW (cc := cX0_store) (maxL := 3) (ret := none) (by decide) rfl ?_
  intro p e s m args below meth c s₁ B hml hv
  obtain ⟨rfl, hsz, hP, hK, hD0, hT⟩ := hv
  have hx := B.exec
  have hb := B.bytes
  have hr := B.returns
  have hts := atoms_spec (ws := wwX0_store) B.pre
  have hws : ∀ w ∈ wsL_law, w.before _ s = true := fun w h => hts w (List.mem_cons_of_mem _ h)
  have hown : s.vm.findClass RX0 = some m.cls := findClass_of_methodNamed B.named
  have hlocks := B.notSynchronized
  subst hsz
  have hD := hD0.self (sz := s.heap.size)
  generalize hAe : va_A (kX0 cB me ba v_by v_ct) s.heap.size = A at hD hT ⊢
  have hA : ∀ q : Nat, s.heap.size ≤ q → A q := fun q h => by rw [← hAe]; exact Or.inr h
  have hS : va_S A s.heap s.heap [] := va_S.rf
  have hl := lv_entry ([.ref me, .int a1, .int a2]) (n := 3) (Nat.le_of_ble_eq_true rfl)
  rw [lg_entry_eq]
  generalize (lg_sl ([.ref me, .int a1, .int a2]) ++ List.replicate (3 - (lg_sl ([.ref me, .int a1, .int a2])).length) Slot.unset).toArray = ls at hl ⊢
  have hl : lv_has ls 3 [(0, .ref me), (1, .int a1), (2, .int a2)] := hl
  generalize hQ : MQ _ _ _ _ _ _ _ = Q
  obtain ⟨H, hHe⟩ : ∃ H : Heap, H = s.heap := ⟨_, rfl⟩
  obtain ⟨locs, hle⟩ : ∃ L : List Loc, L = [] := ⟨_, rfl⟩
  have hP : va_P D vwCl (kX0 cB me ba v_by v_ct) H := by rw [hHe]; exact hP
  have hS : va_S A s.heap H locs := by rw [hHe, hle]; exact hS
  refine kw_start hHe.symm hle.symm ?_
  have hf : fX0_store v_by a1 a2 = fX0_store v_by a1 a2 := rfl
  refine lv_aload_n hx hb dX0_store_0 rfl (lv_at hl 0 rfl) ?_
  refine va_get (D := D) (ci := 0) (v := .ref ba) (C := RX0) (T := TX0) (N := 2) hx hb hws inlX0 hown hK hP 0 rfl rfl 0 (by decide) (hws _ mw_26) (fun _ h9 => h9) rfl dX0_store_1 ?_
  refine lv_iload_n hx hb dX0_store_4 rfl (lv_at hl 1 rfl) ?_
  refine lv_ldc (v := 65535) hx hb hown (hws _ mw_55) dX0_store_5 ?_
  refine lv_iand hx hb dX0_store_7 ?_
  refine lv_iload_n hx hb dX0_store_8 rfl (lv_at hl 2 rfl) ?_
  refine lv_i2b (v := a2.toInt8.toInt32) hx hb dX0_store_9 rfl ?_
  refine va_bast hx hb hK hP hD hS 1 0 rfl rfl (ki_ffff _) dX0_store_10 (fun H locs hP hD hS => ?_)
  obtain ⟨f1, ef1⟩ : ∃ f9 : Nat → Int32, f9 = upd v_by (a1 &&& (65535 : Int32)).toNatClampNeg (vp_nar .byte a2.toInt8.toInt32) := ⟨_, rfl⟩
  have hf := hf.trans (kE1 ef1)
  have hP : va_P D vwCl (kX0 cB me ba f1 v_ct) H := by rw [ef1]; exact hP
  have hD : va_D A (kX0 cB me ba f1 v_ct) := by rw [ef1]; exact hD
  rw [← hQ]
  exact W.vret hx hb hr (fun t ht hW => ⟨⟨f1, rfl, hf.symm, by rw [ht]; exact hP, va_K.moved hW.alike hK, hD⟩, hS.F ht⟩) hS.2.2 dX0_store_11
def fX0_storeNumber_L (a1 : Int32) (a2 : Int32) (q9 : Int32 × (Nat → Int32)) : (Int32 × (Nat → Int32)) ⊕ ((Nat → Int32)) := kU2 q9 (fun (x1 : Int32) (b2 : Nat → Int32) => (if (4 : Int32) ≤ x1 then (Sum.inr b2) else (kU1 (fX0_store b2 (a1 + x1) (a2 >>> (((24 : Int32) - ((8 : Int32) * x1)) &&& (31 : Int32)))) (fun (b4 : Nat → Int32) => (kU1 (x1 + (1 : Int32)) (fun (x6 : Int32) => Sum.inl (x6, b4)))))))
def fX0_storeNumber (v_by : Nat → Int32) (a1 : Int32) (a2 : Int32) : (Nat → Int32) := (kIt (fX0_storeNumber_L a1 a2) v_by 5 ((0 : Int32), v_by))
def rmX0_storeNumber : Room := { frames := 1, cells := 0, slots := 0, locals := 22 }
def wwX0_storeNumber : List Cond := Cond.code yX0_storeNumber cX0_storeNumber 4 none :: wsL_law
theorem hdX0_storeNumber : yX0_storeNumber.cls = RX0 ∧ yX0_storeNumber.cls ≠ "java/lang/invoke/MethodHandle" ∧ yX0_storeNumber.cls ≠ "java/lang/invoke/VarHandle" ∧ (parseMethodDescriptor yX0_storeNumber.desc).map (fun d => d.parameters.length) = some 2 := by decide +kernel
set_option maxHeartbeats 4000000 in
set_option maxRecDepth 100000 in
theorem c_X0_storeNumber (l : Launch) (D : va_G) (cB : ClassId) (me ba sz : Nat) (v_by : Nat → Int32) (v_ct : Int32) (a1 : Int32) (a2 : Int32)  : Met l yX0_storeNumber wwX0_storeNumber rmX0_storeNumber (va_Pc [.ref me, .int a1, .int a2] (kp D (kX0 cB me ba v_by v_ct) [(cB, .byte)] sz)) (va_Qv (fun (u9 : (Nat → Int32)) => u9 = fX0_storeNumber v_by a1 a2) (fun u9 t => kq D (kX0 cB me ba u9 v_ct) [(cB, .byte)] (va_A (kX0 cB me ba v_by v_ct) sz) t) (va_A (kX0 cB me ba v_by v_ct) sz)) 0 0 (va_A (kX0 cB me ba v_by v_ct) sz) := by
  refine Met.ofW (cc := cX0_storeNumber) (maxL := 4) (ret := none) (by decide) rfl ?_
  intro p e s m args below meth c s₁ B hml hv
  obtain ⟨rfl, hsz, hP, hK, hD0, hT⟩ := hv
  have hx := B.exec
  have hb := B.bytes
  have hr := B.returns
  have hts := atoms_spec (ws := wwX0_storeNumber) B.pre
  have hws : ∀ w ∈ wsL_law, w.before _ s = true := fun w h => hts w (List.mem_cons_of_mem _ h)
  have hown : s.vm.findClass RX0 = some m.cls := findClass_of_methodNamed B.named
  have hlocks := B.notSynchronized
  subst hsz
  have hD := hD0.self (sz := s.heap.size)
  generalize hAe : va_A (kX0 cB me ba v_by v_ct) s.heap.size = A at hD hT ⊢
  have hA : ∀ q : Nat, s.heap.size ≤ q → A q := fun q h => by rw [← hAe]; exact Or.inr h
  have hS : va_S A s.heap s.heap [] := va_S.rf
  have hl := lv_entry ([.ref me, .int a1, .int a2]) (n := 4) (Nat.le_of_ble_eq_true rfl)
  rw [lg_entry_eq]
  generalize (lg_sl ([.ref me, .int a1, .int a2]) ++ List.replicate (4 - (lg_sl ([.ref me, .int a1, .int a2])).length) Slot.unset).toArray = ls at hl ⊢
  have hl : lv_has ls 4 [(0, .ref me), (1, .int a1), (2, .int a2)] := hl
  generalize hQ : MQ _ _ _ _ _ _ _ = Q
  obtain ⟨H, hHe⟩ : ∃ H : Heap, H = s.heap := ⟨_, rfl⟩
  obtain ⟨locs, hle⟩ : ∃ L : List Loc, L = [] := ⟨_, rfl⟩
  have hP : va_P D vwCl (kX0 cB me ba v_by v_ct) H := by rw [hHe]; exact hP
  have hS : va_S A s.heap H locs := by rw [hHe, hle]; exact hS
  refine kw_start hHe.symm hle.symm ?_
  have hf : fX0_storeNumber v_by a1 a2 = fX0_storeNumber v_by a1 a2 := rfl
  refine lv_iconst (v := 0) hx hb dX0_storeNumber_0 (by decide) ?_
  refine lv_istore_n (lv' := [(3, .int (0 : Int32)), (0, .ref me), (1, .int a1), (2, .int a2)]) hx hb dX0_storeNumber_1 rfl hl (by decide) rfl (fun ls hl => ?_)
  have hLp : ∀ (n9 : Nat) (x1 : Int32) (b2 : Nat → Int32), kT 4 x1 n9 → fX0_storeNumber v_by a1 a2 = kIt (fX0_storeNumber_L a1 a2) v_by n9 (x1, b2) → ∀ (H : Heap) (locs : List Loc) (ls : Array Slot), lv_has ls 4 [(3, .int x1), (0, .ref me), (1, .int a1), (2, .int a2)] → va_P D vwCl (kX0 cB me ba b2 v_ct) H → va_D A (kX0 cB me ba b2 v_ct) → va_S A s.heap H locs → W p l e (headSpec wwX0_storeNumber rmX0_storeNumber).room s m ([.ref me, .int a1, .int a2] : List Value).toArray below meth c H locs 0 0 Q (F0 m 2 ls []) := by
    intro n9
    induction n9 with
    | zero => intro x1 b2 ht9 hF H locs ls hl hP hD hS; exact absurd ht9 kT_0
    | succ n9 ih =>
      intro x1 b2 ht9 hF H locs ls hl hP hD hS
      have hf : fX0_storeNumber_L a1 a2 (x1, b2) = _ := kE2 rfl
      refine lv_iload_n hx hb dX0_storeNumber_2 rfl (lv_at hl 0 rfl) ?_
      refine lv_iconst (v := 4) hx hb dX0_storeNumber_3 (by decide) ?_
      refine lv_icmp_ge (tgt := 29) hx hb dX0_storeNumber_4 (by decide) (fun c3 => ?_) (fun c3 => ?_)
      · have hf := hf.trans (if_pos c3)
        have hf := hF.trans (kI_inr hf)
        rw [← hQ]
        exact W.vret hx hb hr (fun t ht hW => ⟨⟨b2, rfl, hf.symm, by rw [ht]; exact hP, va_K.moved hW.alike hK, hD⟩, hS.F ht⟩) hS.2.2 dX0_storeNumber_29
      · have hf := hf.trans (if_neg c3)
        refine lv_aload_n hx hb dX0_storeNumber_7 rfl (lv_at hl 1 rfl) ?_
        refine lv_iload_n hx hb dX0_storeNumber_8 rfl (lv_at hl 2 rfl) ?_
        refine lv_iload_n hx hb dX0_storeNumber_9 rfl (lv_at hl 0 rfl) ?_
        refine lv_iadd hx hb dX0_storeNumber_10 ?_
        refine lv_iload_n hx hb dX0_storeNumber_11 rfl (lv_at hl 3 rfl) ?_
        refine lv_bipush (v := 24) hx hb dX0_storeNumber_12 (by decide) ?_
        refine lv_bipush (v := 8) hx hb dX0_storeNumber_14 (by decide) ?_
        refine lv_iload_n hx hb dX0_storeNumber_16 rfl (lv_at hl 0 rfl) ?_
        refine lv_imul hx hb dX0_storeNumber_17 ?_
        refine lv_isub hx hb dX0_storeNumber_18 ?_
        refine lv_ishr hx hb dX0_storeNumber_19 ?_
        refine kc_Vv (wr := []) (As := [.int (a1 + x1), .int (a2 >>> (((24 : Int32) - ((8 : Int32) * x1)) &&& (31 : Int32)))]) (rest := []) (fun u9 => (kX0 cB me ba u9 v_ct)) ⟨hx, hb, hml, hown, hws⟩ hK hP hD hS hA hT (c_X0_store l D cB me ba H.size b2 v_ct (a1 + x1) (a2 >>> (((24 : Int32) - ((8 : Int32) * x1)) &&& (31 : Int32)))) (cwV 2 hws (gw_V mw_75 mw_52 mw_53 mw_14 mw_54) rfl rfl rfl hdX0_store ⟨Nat.le_of_ble_eq_true rfl, Nat.le_of_ble_eq_true rfl⟩) [0, 1] [] [0] [0, 1] rfl rfl rfl rfl (by decide) rfl (fun _ => rfl) rfl 0 rfl rfl rfl rfl hl.1 rfl (Nat.le_of_ble_eq_true rfl) dX0_storeNumber_20 ⟨Nat.zero_le _, Nat.zero_le _⟩ (fun b4 H locs hw5 hP hD hS => ?_)
        have hP : va_P D vwCl (kX0 cB me ba b4 v_ct) H := hP
        have hD : va_D A (kX0 cB me ba b4 v_ct) := hD
        have hf := hf.trans (kE1 hw5)
        obtain ⟨x6, ex6⟩ : ∃ y9 : Int32, y9 = x1 + (1 : Int32) := ⟨_, rfl⟩
        have hf := hf.trans (kE1 ex6)
        refine lv_iinc (v := x6) (lv' := [(3, .int x6), (0, .ref me), (1, .int a1), (2, .int a2)]) hx hb dX0_storeNumber_23 hl (k := 0) rfl (by rw [ex6]; rfl) (by decide) rfl (fun ls hl => ?_)
        refine lv_goto (tgt := 2) hx hb dX0_storeNumber_26 (by decide) ?_
        exact ih x6 b4 (kT_step ex6 (by decide) rfl c3 ht9) (hF.trans (kI_inl hf)) H locs ls (lv_sub hl [0, 1, 2, 3] rfl) hP hD hS
  exact hLp 5 (0 : Int32) v_by (kT_init 4) hf H locs ls (lv_sub hl [0, 1, 2, 3] rfl) hP hD hS
def fX0_at (v_by : Nat → Int32) (a1 : Int32) : Int32 := ((v_by (a1 &&& (65535 : Int32)).toNatClampNeg) &&& (255 : Int32))
def rmX0_at : Room := { frames := 0, cells := 0, slots := 0, locals := 0 }
def wwX0_at : List Cond := Cond.code yX0_at cX0_at 2 (some .int) :: wsL_law
theorem hdX0_at : yX0_at.cls = RX0 ∧ yX0_at.cls ≠ "java/lang/invoke/MethodHandle" ∧ yX0_at.cls ≠ "java/lang/invoke/VarHandle" ∧ (parseMethodDescriptor yX0_at.desc).map (fun d => d.parameters.length) = some 1 := by decide +kernel
set_option maxHeartbeats 4000000 in
set_option maxRecDepth 100000 in
theorem c_X0_at (l : Launch) (D : va_G) (cB : ClassId) (me ba sz : Nat) (v_by : Nat → Int32) (v_ct : Int32) (a1 : Int32)  : Met l yX0_at wwX0_at rmX0_at (va_Pc [.ref me, .int a1] (kp D (kX0 cB me ba v_by v_ct) [(cB, .byte)] sz)) (va_Qi (fun (r : Int32) (_ : Unit) => r = fX0_at v_by a1) (fun _ t => kq D (kX0 cB me ba v_by v_ct) [(cB, .byte)] (va_A (kX0 cB me ba v_by v_ct) sz) t) (va_A (kX0 cB me ba v_by v_ct) sz)) 0 0 (va_A (kX0 cB me ba v_by v_ct) sz) := by
  refine Met.ofW (cc := cX0_at) (maxL := 2) (ret := (some .int)) (by decide) rfl ?_
  intro p e s m args below meth c s₁ B hml hv
  obtain ⟨rfl, hsz, hP, hK, hD0, hT⟩ := hv
  have hx := B.exec
  have hb := B.bytes
  have hr := B.returns
  have hts := atoms_spec (ws := wwX0_at) B.pre
  have hws : ∀ w ∈ wsL_law, w.before _ s = true := fun w h => hts w (List.mem_cons_of_mem _ h)
  have hown : s.vm.findClass RX0 = some m.cls := findClass_of_methodNamed B.named
  have hlocks := B.notSynchronized
  subst hsz
  have hD := hD0.self (sz := s.heap.size)
  generalize hAe : va_A (kX0 cB me ba v_by v_ct) s.heap.size = A at hD hT ⊢
  have hA : ∀ q : Nat, s.heap.size ≤ q → A q := fun q h => by rw [← hAe]; exact Or.inr h
  have hS : va_S A s.heap s.heap [] := va_S.rf
  have hl := lv_entry ([.ref me, .int a1]) (n := 2) (Nat.le_of_ble_eq_true rfl)
  rw [lg_entry_eq]
  generalize (lg_sl ([.ref me, .int a1]) ++ List.replicate (2 - (lg_sl ([.ref me, .int a1])).length) Slot.unset).toArray = ls at hl ⊢
  have hl : lv_has ls 2 [(0, .ref me), (1, .int a1)] := hl
  generalize hQ : MQ _ _ _ _ _ _ _ = Q
  obtain ⟨H, hHe⟩ : ∃ H : Heap, H = s.heap := ⟨_, rfl⟩
  obtain ⟨locs, hle⟩ : ∃ L : List Loc, L = [] := ⟨_, rfl⟩
  have hP : va_P D vwCl (kX0 cB me ba v_by v_ct) H := by rw [hHe]; exact hP
  have hS : va_S A s.heap H locs := by rw [hHe, hle]; exact hS
  refine kw_start hHe.symm hle.symm ?_
  have hf : fX0_at v_by a1 = fX0_at v_by a1 := rfl
  refine lv_aload_n hx hb dX0_at_0 rfl (lv_at hl 0 rfl) ?_
  refine va_get (D := D) (ci := 0) (v := .ref ba) (C := RX0) (T := TX0) (N := 2) hx hb hws inlX0 hown hK hP 0 rfl rfl 0 (by decide) (hws _ mw_26) (fun _ h9 => h9) rfl dX0_at_1 ?_
  refine lv_iload_n hx hb dX0_at_4 rfl (lv_at hl 1 rfl) ?_
  refine lv_ldc (v := 65535) hx hb hown (hws _ mw_55) dX0_at_5 ?_
  refine lv_iand hx hb dX0_at_7 ?_
  refine va_bald hx hb hK hP 1 0 rfl rfl (ki_ffff _) dX0_at_8 ?_
  refine lv_sipush (v := 255) hx hb dX0_at_9 (by decide) ?_
  refine lv_iand hx hb dX0_at_12 ?_
  rw [← hQ]
  exact W.iret (v := ((v_by (a1 &&& (65535 : Int32)).toNatClampNeg) &&& (255 : Int32))) hx hb hr (fun t ht hW => ⟨⟨((v_by (a1 &&& (65535 : Int32)).toNatClampNeg) &&& (255 : Int32)), (), rfl, hf.symm, by rw [ht]; exact hP, va_K.moved hW.alike hK, hD⟩, hS.F ht⟩) hS.2.2 dX0_at_13
def fX0_pending (v_by : Nat → Int32)  : Int32 := (kU1 (fX0_at v_by (65535 : Int32)) (fun (r2 : Int32) => (kU1 (fX0_at v_by (65295 : Int32)) (fun (r4 : Int32) => ((r2 &&& r4) &&& (31 : Int32))))))
def rmX0_pending : Room := { frames := 1, cells := 0, slots := 0, locals := 21 }
def wwX0_pending : List Cond := Cond.code yX0_pending cX0_pending 1 (some .int) :: wsL_law
theorem hdX0_pending : yX0_pending.cls = RX0 ∧ yX0_pending.cls ≠ "java/lang/invoke/MethodHandle" ∧ yX0_pending.cls ≠ "java/lang/invoke/VarHandle" ∧ (parseMethodDescriptor yX0_pending.desc).map (fun d => d.parameters.length) = some 0 := by decide +kernel
set_option maxHeartbeats 4000000 in
set_option maxRecDepth 100000 in
theorem c_X0_pending (l : Launch) (D : va_G) (cB : ClassId) (me ba sz : Nat) (v_by : Nat → Int32) (v_ct : Int32)   : Met l yX0_pending wwX0_pending rmX0_pending (va_Pc [.ref me] (kp D (kX0 cB me ba v_by v_ct) [(cB, .byte)] sz)) (va_Qi (fun (r : Int32) (_ : Unit) => r = fX0_pending v_by) (fun _ t => kq D (kX0 cB me ba v_by v_ct) [(cB, .byte)] (va_A (kX0 cB me ba v_by v_ct) sz) t) (va_A (kX0 cB me ba v_by v_ct) sz)) 0 0 (va_A (kX0 cB me ba v_by v_ct) sz) := by
  refine Met.ofW (cc := cX0_pending) (maxL := 1) (ret := (some .int)) (by decide) rfl ?_
  intro p e s m args below meth c s₁ B hml hv
  obtain ⟨rfl, hsz, hP, hK, hD0, hT⟩ := hv
  have hx := B.exec
  have hb := B.bytes
  have hr := B.returns
  have hts := atoms_spec (ws := wwX0_pending) B.pre
  have hws : ∀ w ∈ wsL_law, w.before _ s = true := fun w h => hts w (List.mem_cons_of_mem _ h)
  have hown : s.vm.findClass RX0 = some m.cls := findClass_of_methodNamed B.named
  have hlocks := B.notSynchronized
  subst hsz
  have hD := hD0.self (sz := s.heap.size)
  generalize hAe : va_A (kX0 cB me ba v_by v_ct) s.heap.size = A at hD hT ⊢
  have hA : ∀ q : Nat, s.heap.size ≤ q → A q := fun q h => by rw [← hAe]; exact Or.inr h
  have hS : va_S A s.heap s.heap [] := va_S.rf
  have hl := lv_entry ([.ref me]) (n := 1) (Nat.le_of_ble_eq_true rfl)
  rw [lg_entry_eq]
  generalize (lg_sl ([.ref me]) ++ List.replicate (1 - (lg_sl ([.ref me])).length) Slot.unset).toArray = ls at hl ⊢
  have hl : lv_has ls 1 [(0, .ref me)] := hl
  generalize hQ : MQ _ _ _ _ _ _ _ = Q
  obtain ⟨H, hHe⟩ : ∃ H : Heap, H = s.heap := ⟨_, rfl⟩
  obtain ⟨locs, hle⟩ : ∃ L : List Loc, L = [] := ⟨_, rfl⟩
  have hP : va_P D vwCl (kX0 cB me ba v_by v_ct) H := by rw [hHe]; exact hP
  have hS : va_S A s.heap H locs := by rw [hHe, hle]; exact hS
  refine kw_start hHe.symm hle.symm ?_
  have hf : fX0_pending v_by = fX0_pending v_by := rfl
  refine lv_aload_n hx hb dX0_pending_0 rfl (lv_at hl 0 rfl) ?_
  refine lv_ldc (v := 65535) hx hb hown (hws _ mw_55) dX0_pending_1 ?_
  refine kc_Vi (wr := []) (As := [.int (65535 : Int32)]) (rest := []) (fun _ => (kX0 cB me ba v_by v_ct)) ⟨hx, hb, hml, hown, hws⟩ hK hP hD hS hA hT (c_X0_at l D cB me ba H.size v_by v_ct (65535 : Int32)) (cwV 1 hws (gw_V mw_114 mw_86 mw_87 mw_14 mw_88) rfl rfl rfl hdX0_at ⟨Nat.le_of_ble_eq_true rfl, Nat.le_of_ble_eq_true rfl⟩) [0, 1] [] [0] [0, 1] rfl rfl rfl rfl (by decide) rfl (fun _ => rfl) rfl 0 rfl rfl rfl rfl hl.1 rfl (Nat.le_of_ble_eq_true rfl) dX0_pending_3 ⟨Nat.zero_le _, Nat.zero_le _⟩ (fun r2 _ H locs hw1 hP hD hS => ?_)
  have hP : va_P D vwCl (kX0 cB me ba v_by v_ct) H := hP
  have hD : va_D A (kX0 cB me ba v_by v_ct) := hD
  have hf := hf.trans (kE1 hw1)
  refine lv_aload_n hx hb dX0_pending_6 rfl (lv_at hl 0 rfl) ?_
  refine lv_ldc (v := 65295) hx hb hown (hws _ mw_113) dX0_pending_7 ?_
  refine kc_Vi (wr := []) (As := [.int (65295 : Int32)]) (rest := [.int r2]) (fun _ => (kX0 cB me ba v_by v_ct)) ⟨hx, hb, hml, hown, hws⟩ hK hP hD hS hA hT (c_X0_at l D cB me ba H.size v_by v_ct (65295 : Int32)) (cwV 1 hws (gw_V mw_114 mw_86 mw_87 mw_14 mw_88) rfl rfl rfl hdX0_at ⟨Nat.le_of_ble_eq_true rfl, Nat.le_of_ble_eq_true rfl⟩) [0, 1] [] [0] [0, 1] rfl rfl rfl rfl (by decide) rfl (fun _ => rfl) rfl 0 rfl rfl rfl rfl hl.1 rfl (Nat.le_of_ble_eq_true rfl) dX0_pending_9 ⟨Nat.zero_le _, Nat.zero_le _⟩ (fun r4 _ H locs hw3 hP hD hS => ?_)
  have hP : va_P D vwCl (kX0 cB me ba v_by v_ct) H := hP
  have hD : va_D A (kX0 cB me ba v_by v_ct) := hD
  have hf := hf.trans (kE1 hw3)
  refine lv_iand hx hb dX0_pending_12 ?_
  refine lv_bipush (v := 31) hx hb dX0_pending_13 (by decide) ?_
  refine lv_iand hx hb dX0_pending_15 ?_
  rw [← hQ]
  exact W.iret (v := ((r2 &&& r4) &&& (31 : Int32))) hx hb hr (fun t ht hW => ⟨⟨((r2 &&& r4) &&& (31 : Int32)), (), rfl, hf.symm, by rw [ht]; exact hP, va_K.moved hW.alike hK, hD⟩, hS.F ht⟩) hS.2.2 dX0_pending_16
def fX0_clearInterrupt (v_by : Nat → Int32) (a1 : Int32) : (Nat → Int32) := (kU1 (fX0_at v_by (65295 : Int32)) (fun (r2 : Int32) => (kU1 (fX0_store v_by (65295 : Int32) (r2 &&& (((1 : Int32) <<< (a1 &&& (31 : Int32))) ^^^ (-1 : Int32)))) (fun (b3 : Nat → Int32) => b3))))
def rmX0_clearInterrupt : Room := { frames := 1, cells := 0, slots := 0, locals := 22 }
def wwX0_clearInterrupt : List Cond := Cond.code yX0_clearInterrupt cX0_clearInterrupt 2 none :: wsL_law
theorem hdX0_clearInterrupt : yX0_clearInterrupt.cls = RX0 ∧ yX0_clearInterrupt.cls ≠ "java/lang/invoke/MethodHandle" ∧ yX0_clearInterrupt.cls ≠ "java/lang/invoke/VarHandle" ∧ (parseMethodDescriptor yX0_clearInterrupt.desc).map (fun d => d.parameters.length) = some 1 := by decide +kernel
set_option maxHeartbeats 4000000 in
set_option maxRecDepth 100000 in
theorem c_X0_clearInterrupt (l : Launch) (D : va_G) (cB : ClassId) (me ba sz : Nat) (v_by : Nat → Int32) (v_ct : Int32) (a1 : Int32)  : Met l yX0_clearInterrupt wwX0_clearInterrupt rmX0_clearInterrupt (va_Pc [.ref me, .int a1] (kp D (kX0 cB me ba v_by v_ct) [(cB, .byte)] sz)) (va_Qv (fun (u9 : (Nat → Int32)) => u9 = fX0_clearInterrupt v_by a1) (fun u9 t => kq D (kX0 cB me ba u9 v_ct) [(cB, .byte)] (va_A (kX0 cB me ba v_by v_ct) sz) t) (va_A (kX0 cB me ba v_by v_ct) sz)) 0 0 (va_A (kX0 cB me ba v_by v_ct) sz) := by
  refine Met.ofW (cc := cX0_clearInterrupt) (maxL := 2) (ret := none) (by decide) rfl ?_
  intro p e s m args below meth c s₁ B hml hv
  obtain ⟨rfl, hsz, hP, hK, hD0, hT⟩ := hv
  have hx := B.exec
  have hb := B.bytes
  have hr := B.returns
  have hts := atoms_spec (ws := wwX0_clearInterrupt) B.pre
  have hws : ∀ w ∈ wsL_law, w.before _ s = true := fun w h => hts w (List.mem_cons_of_mem _ h)
  have hown : s.vm.findClass RX0 = some m.cls := findClass_of_methodNamed B.named
  have hlocks := B.notSynchronized
  subst hsz
  have hD := hD0.self (sz := s.heap.size)
  generalize hAe : va_A (kX0 cB me ba v_by v_ct) s.heap.size = A at hD hT ⊢
  have hA : ∀ q : Nat, s.heap.size ≤ q → A q := fun q h => by rw [← hAe]; exact Or.inr h
  have hS : va_S A s.heap s.heap [] := va_S.rf
  have hl := lv_entry ([.ref me, .int a1]) (n := 2) (Nat.le_of_ble_eq_true rfl)
  rw [lg_entry_eq]
  generalize (lg_sl ([.ref me, .int a1]) ++ List.replicate (2 - (lg_sl ([.ref me, .int a1])).length) Slot.unset).toArray = ls at hl ⊢
  have hl : lv_has ls 2 [(0, .ref me), (1, .int a1)] := hl
  generalize hQ : MQ _ _ _ _ _ _ _ = Q
  obtain ⟨H, hHe⟩ : ∃ H : Heap, H = s.heap := ⟨_, rfl⟩
  obtain ⟨locs, hle⟩ : ∃ L : List Loc, L = [] := ⟨_, rfl⟩
  have hP : va_P D vwCl (kX0 cB me ba v_by v_ct) H := by rw [hHe]; exact hP
  have hS : va_S A s.heap H locs := by rw [hHe, hle]; exact hS
  refine kw_start hHe.symm hle.symm ?_
  have hf : fX0_clearInterrupt v_by a1 = fX0_clearInterrupt v_by a1 := rfl
  refine lv_aload_n hx hb dX0_clearInterrupt_0 rfl (lv_at hl 0 rfl) ?_
  refine lv_ldc (v := 65295) hx hb hown (hws _ mw_113) dX0_clearInterrupt_1 ?_
  refine lv_aload_n hx hb dX0_clearInterrupt_3 rfl (lv_at hl 0 rfl) ?_
  refine lv_ldc (v := 65295) hx hb hown (hws _ mw_113) dX0_clearInterrupt_4 ?_
  refine kc_Vi (wr := []) (As := [.int (65295 : Int32)]) (rest := [.int (65295 : Int32), .ref me]) (fun _ => (kX0 cB me ba v_by v_ct)) ⟨hx, hb, hml, hown, hws⟩ hK hP hD hS hA hT (c_X0_at l D cB me ba H.size v_by v_ct (65295 : Int32)) (cwV 1 hws (gw_V mw_114 mw_86 mw_87 mw_14 mw_88) rfl rfl rfl hdX0_at ⟨Nat.le_of_ble_eq_true rfl, Nat.le_of_ble_eq_true rfl⟩) [0, 1] [] [0] [0, 1] rfl rfl rfl rfl (by decide) rfl (fun _ => rfl) rfl 0 rfl rfl rfl rfl hl.1 rfl (Nat.le_of_ble_eq_true rfl) dX0_clearInterrupt_6 ⟨Nat.zero_le _, Nat.zero_le _⟩ (fun r2 _ H locs hw1 hP hD hS => ?_)
  have hP : va_P D vwCl (kX0 cB me ba v_by v_ct) H := hP
  have hD : va_D A (kX0 cB me ba v_by v_ct) := hD
  have hf := hf.trans (kE1 hw1)
  refine lv_iconst (v := 1) hx hb dX0_clearInterrupt_9 (by decide) ?_
  refine lv_iload_n hx hb dX0_clearInterrupt_10 rfl (lv_at hl 1 rfl) ?_
  refine lv_ishl hx hb dX0_clearInterrupt_11 ?_
  refine lv_iconst (v := -1) hx hb dX0_clearInterrupt_12 (by decide) ?_
  refine lv_ixor hx hb dX0_clearInterrupt_13 ?_
  refine lv_iand hx hb dX0_clearInterrupt_14 ?_
  refine kc_Vv (wr := []) (As := [.int (65295 : Int32), .int (r2 &&& (((1 : Int32) <<< (a1 &&& (31 : Int32))) ^^^ (-1 : Int32)))]) (rest := []) (fun u9 => (kX0 cB me ba u9 v_ct)) ⟨hx, hb, hml, hown, hws⟩ hK hP hD hS hA hT (c_X0_store l D cB me ba H.size v_by v_ct (65295 : Int32) (r2 &&& (((1 : Int32) <<< (a1 &&& (31 : Int32))) ^^^ (-1 : Int32)))) (cwV 2 hws (gw_V mw_75 mw_52 mw_53 mw_14 mw_54) rfl rfl rfl hdX0_store ⟨Nat.le_of_ble_eq_true rfl, Nat.le_of_ble_eq_true rfl⟩) [0, 1] [] [0] [0, 1] rfl rfl rfl rfl (by decide) rfl (fun _ => rfl) rfl 0 rfl rfl rfl rfl hl.1 rfl (Nat.le_of_ble_eq_true rfl) dX0_clearInterrupt_15 ⟨Nat.zero_le _, Nat.zero_le _⟩ (fun b3 H locs hw4 hP hD hS => ?_)
  have hP : va_P D vwCl (kX0 cB me ba b3 v_ct) H := hP
  have hD : va_D A (kX0 cB me ba b3 v_ct) := hD
  have hf := hf.trans (kE1 hw4)
  rw [← hQ]
  exact W.vret hx hb hr (fun t ht hW => ⟨⟨b3, rfl, hf.symm, by rw [ht]; exact hP, va_K.moved hW.alike hK, hD⟩, hS.F ht⟩) hS.2.2 dX0_clearInterrupt_18
def fX0_write (v_by : Nat → Int32) (v_ct : Int32) (a1 : Int32) (a2 : Int32) : (Nat → Int32) × Int32 := (if (a1 &&& (65535 : Int32)) = (65284 : Int32) then (kU1 (upd v_by (65284 : Int32).toNatClampNeg (vp_nar .byte (0 : Int32))) (fun (f3 : Nat → Int32) => (f3, (0 : Int32)))) else (kU1 (upd v_by (a1 &&& (65535 : Int32)).toNatClampNeg (vp_nar .byte a2.toInt8.toInt32)) (fun (f2 : Nat → Int32) => (f2, v_ct))))
def rmX0_write : Room := { frames := 0, cells := 0, slots := 0, locals := 0 }
def wwX0_write : List Cond := Cond.code yX0_write cX0_write 3 none :: wsL_law
theorem hdX0_write : yX0_write.cls = RX0 ∧ yX0_write.cls ≠ "java/lang/invoke/MethodHandle" ∧ yX0_write.cls ≠ "java/lang/invoke/VarHandle" ∧ (parseMethodDescriptor yX0_write.desc).map (fun d => d.parameters.length) = some 2 := by decide +kernel
set_option maxHeartbeats 4000000 in
set_option maxRecDepth 100000 in
theorem c_X0_write (l : Launch) (D : va_G) (cB : ClassId) (me ba sz : Nat) (v_by : Nat → Int32) (v_ct : Int32) (a1 : Int32) (a2 : Int32)  : Met l yX0_write wwX0_write rmX0_write (va_Pc [.ref me, .int a1, .int a2] (kp D (kX0 cB me ba v_by v_ct) [(cB, .byte)] sz)) (va_Qv (fun (u9 : (Nat → Int32) × Int32) => u9 = fX0_write v_by v_ct a1 a2) (fun u9 t => kq D (kX0 cB me ba (u9.1) (u9.2)) [(cB, .byte)] (va_A (kX0 cB me ba v_by v_ct) sz) t) (va_A (kX0 cB me ba v_by v_ct) sz)) 0 0 (va_A (kX0 cB me ba v_by v_ct) sz) := by
  refine Met.ofW (cc := cX0_write) (maxL := 3) (ret := none) (by decide) rfl ?_
  intro p e s m args below meth c s₁ B hml hv
  obtain ⟨rfl, hsz, hP, hK, hD0, hT⟩ := hv
  have hx := B.exec
  have hb := B.bytes
  have hr := B.returns
  have hts := atoms_spec (ws := wwX0_write) B.pre
  have hws : ∀ w ∈ wsL_law, w.before _ s = true := fun w h => hts w (List.mem_cons_of_mem _ h)
  have hown : s.vm.findClass RX0 = some m.cls := findClass_of_methodNamed B.named
  have hlocks := B.notSynchronized
  subst hsz
  have hD := hD0.self (sz := s.heap.size)
  generalize hAe : va_A (kX0 cB me ba v_by v_ct) s.heap.size = A at hD hT ⊢
  have hA : ∀ q : Nat, s.heap.size ≤ q → A q := fun q h => by rw [← hAe]; exact Or.inr h
  have hS : va_S A s.heap s.heap [] := va_S.rf
  have hl := lv_entry ([.ref me, .int a1, .int a2]) (n := 3) (Nat.le_of_ble_eq_true rfl)
  rw [lg_entry_eq]
  generalize (lg_sl ([.ref me, .int a1, .int a2]) ++ List.replicate (3 - (lg_sl ([.ref me, .int a1, .int a2])).length) Slot.unset).toArray = ls at hl ⊢
  have hl : lv_has ls 3 [(0, .ref me), (1, .int a1), (2, .int a2)] := hl
  generalize hQ : MQ _ _ _ _ _ _ _ = Q
  obtain ⟨H, hHe⟩ : ∃ H : Heap, H = s.heap := ⟨_, rfl⟩
  obtain ⟨locs, hle⟩ : ∃ L : List Loc, L = [] := ⟨_, rfl⟩
  have hP : va_P D vwCl (kX0 cB me ba v_by v_ct) H := by rw [hHe]; exact hP
  have hS : va_S A s.heap H locs := by rw [hHe, hle]; exact hS
  refine kw_start hHe.symm hle.symm ?_
  have hf : fX0_write v_by v_ct a1 a2 = fX0_write v_by v_ct a1 a2 := rfl
  refine lv_iload_n hx hb dX0_write_0 rfl (lv_at hl 1 rfl) ?_
  refine lv_ldc (v := 65535) hx hb hown (hws _ mw_55) dX0_write_1 ?_
  refine lv_iand hx hb dX0_write_3 ?_
  refine lv_ldc (v := 65284) hx hb hown (hws _ mw_135) dX0_write_4 ?_
  refine lv_icmp_ne (tgt := 25) hx hb dX0_write_6 (by decide) (fun c1 => ?_) (fun c1 => ?_)
  · have hf := hf.trans (if_neg c1)
    refine lv_aload_n hx hb dX0_write_25 rfl (lv_at hl 0 rfl) ?_
    refine va_get (D := D) (ci := 0) (v := .ref ba) (C := RX0) (T := TX0) (N := 2) hx hb hws inlX0 hown hK hP 0 rfl rfl 0 (by decide) (hws _ mw_26) (fun _ h9 => h9) rfl dX0_write_26 ?_
    refine lv_iload_n hx hb dX0_write_29 rfl (lv_at hl 1 rfl) ?_
    refine lv_ldc (v := 65535) hx hb hown (hws _ mw_55) dX0_write_30 ?_
    refine lv_iand hx hb dX0_write_32 ?_
    refine lv_iload_n hx hb dX0_write_33 rfl (lv_at hl 2 rfl) ?_
    refine lv_i2b (v := a2.toInt8.toInt32) hx hb dX0_write_34 rfl ?_
    refine va_bast hx hb hK hP hD hS 1 0 rfl rfl (ki_ffff _) dX0_write_35 (fun H locs hP hD hS => ?_)
    obtain ⟨f2, ef2⟩ : ∃ f9 : Nat → Int32, f9 = upd v_by (a1 &&& (65535 : Int32)).toNatClampNeg (vp_nar .byte a2.toInt8.toInt32) := ⟨_, rfl⟩
    have hf := hf.trans (kE1 ef2)
    have hP : va_P D vwCl (kX0 cB me ba f2 v_ct) H := by rw [ef2]; exact hP
    have hD : va_D A (kX0 cB me ba f2 v_ct) := by rw [ef2]; exact hD
    rw [← hQ]
    exact W.vret hx hb hr (fun t ht hW => ⟨⟨(f2, v_ct), rfl, hf.symm, by rw [ht]; exact hP, va_K.moved hW.alike hK, hD⟩, hS.F ht⟩) hS.2.2 dX0_write_36
  · have hf := hf.trans (if_pos c1)
    refine lv_aload_n hx hb dX0_write_9 rfl (lv_at hl 0 rfl) ?_
    refine lv_iconst (v := 0) hx hb dX0_write_10 (by decide) ?_
    refine va_put (D := D) (ci := 0) (v := .int (0 : Int32)) (ty := .int) (C := RX0) (T := TX0) (N := 2) hx hb hws inlX0 tyX0 tyX0_ok nmX0 hown hK hP hD hS 0 rfl rfl 1 (by decide) (hws _ mw_136) (fun _ h9 => h9) rfl (tyX0_ok 1 (by decide)) rfl rfl (Nat.le_of_ble_eq_true rfl) dX0_write_11 (fun H locs hP hD hS => ?_)
    have hP : va_P D vwCl (kX0 cB me ba v_by (0 : Int32)) H := hP
    have hD : va_D A (kX0 cB me ba v_by (0 : Int32)) := hD
    refine lv_aload_n hx hb dX0_write_14 rfl (lv_at hl 0 rfl) ?_
    refine va_get (D := D) (ci := 0) (v := .ref ba) (C := RX0) (T := TX0) (N := 2) hx hb hws inlX0 hown hK hP 0 rfl rfl 0 (by decide) (hws _ mw_26) (fun _ h9 => h9) rfl dX0_write_15 ?_
    refine lv_ldc (v := 65284) hx hb hown (hws _ mw_135) dX0_write_18 ?_
    refine lv_iconst (v := 0) hx hb dX0_write_20 (by decide) ?_
    refine va_bast hx hb hK hP hD hS 1 0 rfl rfl (by unfold vp_in; decide) dX0_write_21 (fun H locs hP hD hS => ?_)
    obtain ⟨f3, ef3⟩ : ∃ f9 : Nat → Int32, f9 = upd v_by (65284 : Int32).toNatClampNeg (vp_nar .byte (0 : Int32)) := ⟨_, rfl⟩
    have hf := hf.trans (kE1 ef3)
    have hP : va_P D vwCl (kX0 cB me ba f3 (0 : Int32)) H := by rw [ef3]; exact hP
    have hD : va_D A (kX0 cB me ba f3 (0 : Int32)) := by rw [ef3]; exact hD
    refine lv_goto (tgt := 36) hx hb dX0_write_22 (by decide) ?_
    rw [← hQ]
    exact W.vret hx hb hr (fun t ht hW => ⟨⟨(f3, (0 : Int32)), rfl, hf.symm, by rw [ht]; exact hP, va_K.moved hW.alike hK, hD⟩, hS.F ht⟩) hS.2.2 dX0_write_36
def fX0_raiseInterrupts (v_by : Nat → Int32) (a1 : Int32) : (Nat → Int32) := (kU1 (fX0_at v_by (65295 : Int32)) (fun (r2 : Int32) => (kU1 (fX0_store v_by (65295 : Int32) (r2 ||| a1)) (fun (b3 : Nat → Int32) => b3))))
def rmX0_raiseInterrupts : Room := { frames := 1, cells := 0, slots := 0, locals := 22 }
def wwX0_raiseInterrupts : List Cond := Cond.code yX0_raiseInterrupts cX0_raiseInterrupts 2 none :: wsL_law
theorem hdX0_raiseInterrupts : yX0_raiseInterrupts.cls = RX0 ∧ yX0_raiseInterrupts.cls ≠ "java/lang/invoke/MethodHandle" ∧ yX0_raiseInterrupts.cls ≠ "java/lang/invoke/VarHandle" ∧ (parseMethodDescriptor yX0_raiseInterrupts.desc).map (fun d => d.parameters.length) = some 1 := by decide +kernel
set_option maxHeartbeats 4000000 in
set_option maxRecDepth 100000 in
theorem c_X0_raiseInterrupts (l : Launch) (D : va_G) (cB : ClassId) (me ba sz : Nat) (v_by : Nat → Int32) (v_ct : Int32) (a1 : Int32)  : Met l yX0_raiseInterrupts wwX0_raiseInterrupts rmX0_raiseInterrupts (va_Pc [.ref me, .int a1] (kp D (kX0 cB me ba v_by v_ct) [(cB, .byte)] sz)) (va_Qv (fun (u9 : (Nat → Int32)) => u9 = fX0_raiseInterrupts v_by a1) (fun u9 t => kq D (kX0 cB me ba u9 v_ct) [(cB, .byte)] (va_A (kX0 cB me ba v_by v_ct) sz) t) (va_A (kX0 cB me ba v_by v_ct) sz)) 0 0 (va_A (kX0 cB me ba v_by v_ct) sz) := by
  refine Met.ofW (cc := cX0_raiseInterrupts) (maxL := 2) (ret := none) (by decide) rfl ?_
  intro p e s m args below meth c s₁ B hml hv
  obtain ⟨rfl, hsz, hP, hK, hD0, hT⟩ := hv
  have hx := B.exec
  have hb := B.bytes
  have hr := B.returns
  have hts := atoms_spec (ws := wwX0_raiseInterrupts) B.pre
  have hws : ∀ w ∈ wsL_law, w.before _ s = true := fun w h => hts w (List.mem_cons_of_mem _ h)
  have hown : s.vm.findClass RX0 = some m.cls := findClass_of_methodNamed B.named
  have hlocks := B.notSynchronized
  subst hsz
  have hD := hD0.self (sz := s.heap.size)
  generalize hAe : va_A (kX0 cB me ba v_by v_ct) s.heap.size = A at hD hT ⊢
  have hA : ∀ q : Nat, s.heap.size ≤ q → A q := fun q h => by rw [← hAe]; exact Or.inr h
  have hS : va_S A s.heap s.heap [] := va_S.rf
  have hl := lv_entry ([.ref me, .int a1]) (n := 2) (Nat.le_of_ble_eq_true rfl)
  rw [lg_entry_eq]
  generalize (lg_sl ([.ref me, .int a1]) ++ List.replicate (2 - (lg_sl ([.ref me, .int a1])).length) Slot.unset).toArray = ls at hl ⊢
  have hl : lv_has ls 2 [(0, .ref me), (1, .int a1)] := hl
  generalize hQ : MQ _ _ _ _ _ _ _ = Q
  obtain ⟨H, hHe⟩ : ∃ H : Heap, H = s.heap := ⟨_, rfl⟩
  obtain ⟨locs, hle⟩ : ∃ L : List Loc, L = [] := ⟨_, rfl⟩
  have hP : va_P D vwCl (kX0 cB me ba v_by v_ct) H := by rw [hHe]; exact hP
  have hS : va_S A s.heap H locs := by rw [hHe, hle]; exact hS
  refine kw_start hHe.symm hle.symm ?_
  have hf : fX0_raiseInterrupts v_by a1 = fX0_raiseInterrupts v_by a1 := rfl
  refine lv_aload_n hx hb dX0_raiseInterrupts_0 rfl (lv_at hl 0 rfl) ?_
  refine lv_ldc (v := 65295) hx hb hown (hws _ mw_113) dX0_raiseInterrupts_1 ?_
  refine lv_aload_n hx hb dX0_raiseInterrupts_3 rfl (lv_at hl 0 rfl) ?_
  refine lv_ldc (v := 65295) hx hb hown (hws _ mw_113) dX0_raiseInterrupts_4 ?_
  refine kc_Vi (wr := []) (As := [.int (65295 : Int32)]) (rest := [.int (65295 : Int32), .ref me]) (fun _ => (kX0 cB me ba v_by v_ct)) ⟨hx, hb, hml, hown, hws⟩ hK hP hD hS hA hT (c_X0_at l D cB me ba H.size v_by v_ct (65295 : Int32)) (cwV 1 hws (gw_V mw_114 mw_86 mw_87 mw_14 mw_88) rfl rfl rfl hdX0_at ⟨Nat.le_of_ble_eq_true rfl, Nat.le_of_ble_eq_true rfl⟩) [0, 1] [] [0] [0, 1] rfl rfl rfl rfl (by decide) rfl (fun _ => rfl) rfl 0 rfl rfl rfl rfl hl.1 rfl (Nat.le_of_ble_eq_true rfl) dX0_raiseInterrupts_6 ⟨Nat.zero_le _, Nat.zero_le _⟩ (fun r2 _ H locs hw1 hP hD hS => ?_)
  have hP : va_P D vwCl (kX0 cB me ba v_by v_ct) H := hP
  have hD : va_D A (kX0 cB me ba v_by v_ct) := hD
  have hf := hf.trans (kE1 hw1)
  refine lv_iload_n hx hb dX0_raiseInterrupts_9 rfl (lv_at hl 1 rfl) ?_
  refine lv_ior hx hb dX0_raiseInterrupts_10 ?_
  refine kc_Vv (wr := []) (As := [.int (65295 : Int32), .int (r2 ||| a1)]) (rest := []) (fun u9 => (kX0 cB me ba u9 v_ct)) ⟨hx, hb, hml, hown, hws⟩ hK hP hD hS hA hT (c_X0_store l D cB me ba H.size v_by v_ct (65295 : Int32) (r2 ||| a1)) (cwV 2 hws (gw_V mw_75 mw_52 mw_53 mw_14 mw_54) rfl rfl rfl hdX0_store ⟨Nat.le_of_ble_eq_true rfl, Nat.le_of_ble_eq_true rfl⟩) [0, 1] [] [0] [0, 1] rfl rfl rfl rfl (by decide) rfl (fun _ => rfl) rfl 0 rfl rfl rfl rfl hl.1 rfl (Nat.le_of_ble_eq_true rfl) dX0_raiseInterrupts_11 ⟨Nat.zero_le _, Nat.zero_le _⟩ (fun b3 H locs hw4 hP hD hS => ?_)
  have hP : va_P D vwCl (kX0 cB me ba b3 v_ct) H := hP
  have hD : va_D A (kX0 cB me ba b3 v_ct) := hD
  have hf := hf.trans (kE1 hw4)
  rw [← hQ]
  exact W.vret hx hb hr (fun t ht hW => ⟨⟨b3, rfl, hf.symm, by rw [ht]; exact hP, va_K.moved hW.alike hK, hD⟩, hS.F ht⟩) hS.2.2 dX0_raiseInterrupts_14
def fX0_countTimer (v_by : Nat → Int32)  : (Nat → Int32) := (kU1 (fX0_at v_by (65285 : Int32)) (fun (r2 : Int32) => (kU1 (fX0_store v_by (65285 : Int32) (r2 + (1 : Int32))) (fun (b3 : Nat → Int32) => (kU1 (fX0_at b3 (65285 : Int32)) (fun (r6 : Int32) => (if r6 = (0 : Int32) then (kU1 (fX0_at b3 (65286 : Int32)) (fun (r9 : Int32) => (kU1 (fX0_store b3 (65285 : Int32) r9) (fun (b10 : Nat → Int32) => (kU1 (fX0_raiseInterrupts b10 (4 : Int32)) (fun (b12 : Nat → Int32) => b12)))))) else b3)))))))
def rmX0_countTimer : Room := { frames := 2, cells := 0, slots := 0, locals := 43 }
def wwX0_countTimer : List Cond := Cond.code yX0_countTimer cX0_countTimer 1 none :: wsL_law
theorem hdX0_countTimer : yX0_countTimer.cls = RX0 ∧ yX0_countTimer.cls ≠ "java/lang/invoke/MethodHandle" ∧ yX0_countTimer.cls ≠ "java/lang/invoke/VarHandle" ∧ (parseMethodDescriptor yX0_countTimer.desc).map (fun d => d.parameters.length) = some 0 := by decide +kernel
set_option maxHeartbeats 4000000 in
set_option maxRecDepth 100000 in
theorem c_X0_countTimer (l : Launch) (D : va_G) (cB : ClassId) (me ba sz : Nat) (v_by : Nat → Int32) (v_ct : Int32)   : Met l yX0_countTimer wwX0_countTimer rmX0_countTimer (va_Pc [.ref me] (kp D (kX0 cB me ba v_by v_ct) [(cB, .byte)] sz)) (va_Qv (fun (u9 : (Nat → Int32)) => u9 = fX0_countTimer v_by) (fun u9 t => kq D (kX0 cB me ba u9 v_ct) [(cB, .byte)] (va_A (kX0 cB me ba v_by v_ct) sz) t) (va_A (kX0 cB me ba v_by v_ct) sz)) 0 0 (va_A (kX0 cB me ba v_by v_ct) sz) := by
  refine Met.ofW (cc := cX0_countTimer) (maxL := 1) (ret := none) (by decide) rfl ?_
  intro p e s m args below meth c s₁ B hml hv
  obtain ⟨rfl, hsz, hP, hK, hD0, hT⟩ := hv
  have hx := B.exec
  have hb := B.bytes
  have hr := B.returns
  have hts := atoms_spec (ws := wwX0_countTimer) B.pre
  have hws : ∀ w ∈ wsL_law, w.before _ s = true := fun w h => hts w (List.mem_cons_of_mem _ h)
  have hown : s.vm.findClass RX0 = some m.cls := findClass_of_methodNamed B.named
  have hlocks := B.notSynchronized
  subst hsz
  have hD := hD0.self (sz := s.heap.size)
  generalize hAe : va_A (kX0 cB me ba v_by v_ct) s.heap.size = A at hD hT ⊢
  have hA : ∀ q : Nat, s.heap.size ≤ q → A q := fun q h => by rw [← hAe]; exact Or.inr h
  have hS : va_S A s.heap s.heap [] := va_S.rf
  have hl := lv_entry ([.ref me]) (n := 1) (Nat.le_of_ble_eq_true rfl)
  rw [lg_entry_eq]
  generalize (lg_sl ([.ref me]) ++ List.replicate (1 - (lg_sl ([.ref me])).length) Slot.unset).toArray = ls at hl ⊢
  have hl : lv_has ls 1 [(0, .ref me)] := hl
  generalize hQ : MQ _ _ _ _ _ _ _ = Q
  obtain ⟨H, hHe⟩ : ∃ H : Heap, H = s.heap := ⟨_, rfl⟩
  obtain ⟨locs, hle⟩ : ∃ L : List Loc, L = [] := ⟨_, rfl⟩
  have hP : va_P D vwCl (kX0 cB me ba v_by v_ct) H := by rw [hHe]; exact hP
  have hS : va_S A s.heap H locs := by rw [hHe, hle]; exact hS
  refine kw_start hHe.symm hle.symm ?_
  have hf : fX0_countTimer v_by = fX0_countTimer v_by := rfl
  refine lv_aload_n hx hb dX0_countTimer_0 rfl (lv_at hl 0 rfl) ?_
  refine lv_ldc (v := 65285) hx hb hown (hws _ mw_158) dX0_countTimer_1 ?_
  refine lv_aload_n hx hb dX0_countTimer_3 rfl (lv_at hl 0 rfl) ?_
  refine lv_ldc (v := 65285) hx hb hown (hws _ mw_158) dX0_countTimer_4 ?_
  refine kc_Vi (wr := []) (As := [.int (65285 : Int32)]) (rest := [.int (65285 : Int32), .ref me]) (fun _ => (kX0 cB me ba v_by v_ct)) ⟨hx, hb, hml, hown, hws⟩ hK hP hD hS hA hT (c_X0_at l D cB me ba H.size v_by v_ct (65285 : Int32)) (cwV 1 hws (gw_V mw_114 mw_86 mw_87 mw_14 mw_88) rfl rfl rfl hdX0_at ⟨Nat.le_of_ble_eq_true rfl, Nat.le_of_ble_eq_true rfl⟩) [0, 1] [] [0] [0, 1] rfl rfl rfl rfl (by decide) rfl (fun _ => rfl) rfl 0 rfl rfl rfl rfl hl.1 rfl (Nat.le_of_ble_eq_true rfl) dX0_countTimer_6 ⟨Nat.zero_le _, Nat.zero_le _⟩ (fun r2 _ H locs hw1 hP hD hS => ?_)
  have hP : va_P D vwCl (kX0 cB me ba v_by v_ct) H := hP
  have hD : va_D A (kX0 cB me ba v_by v_ct) := hD
  have hf := hf.trans (kE1 hw1)
  refine lv_iconst (v := 1) hx hb dX0_countTimer_9 (by decide) ?_
  refine lv_iadd hx hb dX0_countTimer_10 ?_
  refine kc_Vv (wr := []) (As := [.int (65285 : Int32), .int (r2 + (1 : Int32))]) (rest := []) (fun u9 => (kX0 cB me ba u9 v_ct)) ⟨hx, hb, hml, hown, hws⟩ hK hP hD hS hA hT (c_X0_store l D cB me ba H.size v_by v_ct (65285 : Int32) (r2 + (1 : Int32))) (cwV 2 hws (gw_V mw_75 mw_52 mw_53 mw_14 mw_54) rfl rfl rfl hdX0_store ⟨Nat.le_of_ble_eq_true rfl, Nat.le_of_ble_eq_true rfl⟩) [0, 1] [] [0] [0, 1] rfl rfl rfl rfl (by decide) rfl (fun _ => rfl) rfl 0 rfl rfl rfl rfl hl.1 rfl (Nat.le_of_ble_eq_true rfl) dX0_countTimer_11 ⟨Nat.zero_le _, Nat.zero_le _⟩ (fun b3 H locs hw4 hP hD hS => ?_)
  have hP : va_P D vwCl (kX0 cB me ba b3 v_ct) H := hP
  have hD : va_D A (kX0 cB me ba b3 v_ct) := hD
  have hf := hf.trans (kE1 hw4)
  refine lv_aload_n hx hb dX0_countTimer_14 rfl (lv_at hl 0 rfl) ?_
  refine lv_ldc (v := 65285) hx hb hown (hws _ mw_158) dX0_countTimer_15 ?_
  refine kc_Vi (wr := []) (As := [.int (65285 : Int32)]) (rest := []) (fun _ => (kX0 cB me ba b3 v_ct)) ⟨hx, hb, hml, hown, hws⟩ hK hP hD hS hA hT (c_X0_at l D cB me ba H.size b3 v_ct (65285 : Int32)) (cwV 1 hws (gw_V mw_114 mw_86 mw_87 mw_14 mw_88) rfl rfl rfl hdX0_at ⟨Nat.le_of_ble_eq_true rfl, Nat.le_of_ble_eq_true rfl⟩) [0, 1] [] [0] [0, 1] rfl rfl rfl rfl (by decide) rfl (fun _ => rfl) rfl 0 rfl rfl rfl rfl hl.1 rfl (Nat.le_of_ble_eq_true rfl) dX0_countTimer_17 ⟨Nat.zero_le _, Nat.zero_le _⟩ (fun r6 _ H locs hw5 hP hD hS => ?_)
  have hP : va_P D vwCl (kX0 cB me ba b3 v_ct) H := hP
  have hD : va_D A (kX0 cB me ba b3 v_ct) := hD
  have hf := hf.trans (kE1 hw5)
  refine lv_if_ne (tgt := 40) hx hb dX0_countTimer_20 (by decide) (fun c7 => ?_) (fun c7 => ?_)
  · have hf := hf.trans (if_neg c7)
    rw [← hQ]
    exact W.vret hx hb hr (fun t ht hW => ⟨⟨b3, rfl, hf.symm, by rw [ht]; exact hP, va_K.moved hW.alike hK, hD⟩, hS.F ht⟩) hS.2.2 dX0_countTimer_40
  · have hf := hf.trans (if_pos c7)
    refine lv_aload_n hx hb dX0_countTimer_23 rfl (lv_at hl 0 rfl) ?_
    refine lv_ldc (v := 65285) hx hb hown (hws _ mw_158) dX0_countTimer_24 ?_
    refine lv_aload_n hx hb dX0_countTimer_26 rfl (lv_at hl 0 rfl) ?_
    refine lv_ldc (v := 65286) hx hb hown (hws _ mw_159) dX0_countTimer_27 ?_
    refine kc_Vi (wr := []) (As := [.int (65286 : Int32)]) (rest := [.int (65285 : Int32), .ref me]) (fun _ => (kX0 cB me ba b3 v_ct)) ⟨hx, hb, hml, hown, hws⟩ hK hP hD hS hA hT (c_X0_at l D cB me ba H.size b3 v_ct (65286 : Int32)) (cwV 1 hws (gw_V mw_114 mw_86 mw_87 mw_14 mw_88) rfl rfl rfl hdX0_at ⟨Nat.le_of_ble_eq_true rfl, Nat.le_of_ble_eq_true rfl⟩) [0, 1] [] [0] [0, 1] rfl rfl rfl rfl (by decide) rfl (fun _ => rfl) rfl 0 rfl rfl rfl rfl hl.1 rfl (Nat.le_of_ble_eq_true rfl) dX0_countTimer_29 ⟨Nat.zero_le _, Nat.zero_le _⟩ (fun r9 _ H locs hw8 hP hD hS => ?_)
    have hP : va_P D vwCl (kX0 cB me ba b3 v_ct) H := hP
    have hD : va_D A (kX0 cB me ba b3 v_ct) := hD
    have hf := hf.trans (kE1 hw8)
    refine kc_Vv (wr := []) (As := [.int (65285 : Int32), .int r9]) (rest := []) (fun u9 => (kX0 cB me ba u9 v_ct)) ⟨hx, hb, hml, hown, hws⟩ hK hP hD hS hA hT (c_X0_store l D cB me ba H.size b3 v_ct (65285 : Int32) r9) (cwV 2 hws (gw_V mw_75 mw_52 mw_53 mw_14 mw_54) rfl rfl rfl hdX0_store ⟨Nat.le_of_ble_eq_true rfl, Nat.le_of_ble_eq_true rfl⟩) [0, 1] [] [0] [0, 1] rfl rfl rfl rfl (by decide) rfl (fun _ => rfl) rfl 0 rfl rfl rfl rfl hl.1 rfl (Nat.le_of_ble_eq_true rfl) dX0_countTimer_32 ⟨Nat.zero_le _, Nat.zero_le _⟩ (fun b10 H locs hw11 hP hD hS => ?_)
    have hP : va_P D vwCl (kX0 cB me ba b10 v_ct) H := hP
    have hD : va_D A (kX0 cB me ba b10 v_ct) := hD
    have hf := hf.trans (kE1 hw11)
    refine lv_aload_n hx hb dX0_countTimer_35 rfl (lv_at hl 0 rfl) ?_
    refine lv_iconst (v := 4) hx hb dX0_countTimer_36 (by decide) ?_
    refine kc_Vv (wr := []) (As := [.int (4 : Int32)]) (rest := []) (fun u9 => (kX0 cB me ba u9 v_ct)) ⟨hx, hb, hml, hown, hws⟩ hK hP hD hS hA hT (c_X0_raiseInterrupts l D cB me ba H.size b10 v_ct (4 : Int32)) (cwV 1 hws (gw_V mw_160 mw_161 mw_162 mw_14 mw_163) rfl rfl rfl hdX0_raiseInterrupts ⟨Nat.le_of_ble_eq_true rfl, Nat.le_of_ble_eq_true rfl⟩) [0, 1] [] [0] [0, 1] rfl rfl rfl rfl (by decide) rfl (fun _ => rfl) rfl 0 rfl rfl rfl rfl hl.1 rfl (Nat.le_of_ble_eq_true rfl) dX0_countTimer_37 ⟨Nat.zero_le _, Nat.zero_le _⟩ (fun b12 H locs hw13 hP hD hS => ?_)
    have hP : va_P D vwCl (kX0 cB me ba b12 v_ct) H := hP
    have hD : va_D A (kX0 cB me ba b12 v_ct) := hD
    have hf := hf.trans (kE1 hw13)
    rw [← hQ]
    exact W.vret hx hb hr (fun t ht hW => ⟨⟨b12, rfl, hf.symm, by rw [ht]; exact hP, va_K.moved hW.alike hK, hD⟩, hS.F ht⟩) hS.2.2 dX0_countTimer_40
def fX0_tick (v_by : Nat → Int32) (v_ct : Int32)  : (Nat → Int32) × Int32 := (kU1 (((v_ct + (1 : Int32)) &&& (255 : Int32))) (fun (x1 : Int32) => (kU1 (((if (x1 &&& (63 : Int32)) = (0 : Int32) then (kU1 (fX0_at v_by (65284 : Int32)) (fun (r4 : Int32) => (kU1 (fX0_store v_by (65284 : Int32) (r4 + (1 : Int32))) (fun (b5 : Nat → Int32) => b5)))) else v_by) : (Nat → Int32))) (fun (b7 : Nat → Int32) => (kU1 (fX0_at b7 (65287 : Int32)) (fun (r10 : Int32) => (if (r10 &&& (4 : Int32)) = (0 : Int32) then (b7, x1) else (if (x1 &&& (tb_mask (r10 &&& (3 : Int32)).toNatClampNeg)) = (0 : Int32) then (kU1 (fX0_countTimer b7) (fun (b13 : Nat → Int32) => (b13, x1))) else (b7, x1)))))))))
def rmX0_tick : Room := { frames := 3, cells := 0, slots := 0, locals := 63 }
def wwX0_tick : List Cond := Cond.code yX0_tick cX0_tick 2 none :: wsL_law
theorem hdX0_tick : yX0_tick.cls = RX0 ∧ yX0_tick.cls ≠ "java/lang/invoke/MethodHandle" ∧ yX0_tick.cls ≠ "java/lang/invoke/VarHandle" ∧ (parseMethodDescriptor yX0_tick.desc).map (fun d => d.parameters.length) = some 0 := by decide +kernel
set_option maxHeartbeats 4000000 in
set_option maxRecDepth 100000 in
theorem c_X0_tick (l : Launch) (D : va_G) (cB : ClassId) (me ba sz : Nat) (v_by : Nat → Int32) (v_ct : Int32)   : Met l yX0_tick wwX0_tick rmX0_tick (va_Pc [.ref me] (kp D (kX0 cB me ba v_by v_ct) [(cB, .byte)] sz)) (va_Qv (fun (u9 : (Nat → Int32) × Int32) => u9 = fX0_tick v_by v_ct) (fun u9 t => kq D (kX0 cB me ba (u9.1) (u9.2)) [(cB, .byte)] (va_A (kX0 cB me ba v_by v_ct) sz) t) (va_A (kX0 cB me ba v_by v_ct) sz)) 0 0 (va_A (kX0 cB me ba v_by v_ct) sz) := by
  refine Met.ofW (cc := cX0_tick) (maxL := 2) (ret := none) (by decide) rfl ?_
  intro p e s m args below meth c s₁ B hml hv
  obtain ⟨rfl, hsz, hP, hK, hD0, hT⟩ := hv
  have hx := B.exec
  have hb := B.bytes
  have hr := B.returns
  have hts := atoms_spec (ws := wwX0_tick) B.pre
  have hws : ∀ w ∈ wsL_law, w.before _ s = true := fun w h => hts w (List.mem_cons_of_mem _ h)
  have hown : s.vm.findClass RX0 = some m.cls := findClass_of_methodNamed B.named
  have hlocks := B.notSynchronized
  subst hsz
  have hD := hD0.self (sz := s.heap.size)
  generalize hAe : va_A (kX0 cB me ba v_by v_ct) s.heap.size = A at hD hT ⊢
  have hA : ∀ q : Nat, s.heap.size ≤ q → A q := fun q h => by rw [← hAe]; exact Or.inr h
  have hS : va_S A s.heap s.heap [] := va_S.rf
  have hl := lv_entry ([.ref me]) (n := 2) (Nat.le_of_ble_eq_true rfl)
  rw [lg_entry_eq]
  generalize (lg_sl ([.ref me]) ++ List.replicate (2 - (lg_sl ([.ref me])).length) Slot.unset).toArray = ls at hl ⊢
  have hl : lv_has ls 2 [(0, .ref me)] := hl
  generalize hQ : MQ _ _ _ _ _ _ _ = Q
  obtain ⟨H, hHe⟩ : ∃ H : Heap, H = s.heap := ⟨_, rfl⟩
  obtain ⟨locs, hle⟩ : ∃ L : List Loc, L = [] := ⟨_, rfl⟩
  have hP : va_P D vwCl (kX0 cB me ba v_by v_ct) H := by rw [hHe]; exact hP
  have hS : va_S A s.heap H locs := by rw [hHe, hle]; exact hS
  refine kw_start hHe.symm hle.symm ?_
  have hf : fX0_tick v_by v_ct = fX0_tick v_by v_ct := rfl
  refine lv_aload_n hx hb dX0_tick_0 rfl (lv_at hl 0 rfl) ?_
  refine lv_aload_n hx hb dX0_tick_1 rfl (lv_at hl 0 rfl) ?_
  refine va_get (D := D) (ci := 0) (v := .int v_ct) (C := RX0) (T := TX0) (N := 2) hx hb hws inlX0 hown hK hP 0 rfl rfl 1 (by decide) (hws _ mw_136) (fun _ h9 => h9) rfl dX0_tick_2 ?_
  refine lv_iconst (v := 1) hx hb dX0_tick_5 (by decide) ?_
  refine lv_iadd hx hb dX0_tick_6 ?_
  refine lv_sipush (v := 255) hx hb dX0_tick_7 (by decide) ?_
  refine lv_iand hx hb dX0_tick_10 ?_
  refine lv_topi (fun x1 ex1 => ?_)
  have hf := hf.trans (kE1 ex1)
  refine va_put (D := D) (ci := 0) (v := .int x1) (ty := .int) (C := RX0) (T := TX0) (N := 2) hx hb hws inlX0 tyX0 tyX0_ok nmX0 hown hK hP hD hS 0 rfl rfl 1 (by decide) (hws _ mw_136) (fun _ h9 => h9) rfl (tyX0_ok 1 (by decide)) rfl rfl (Nat.le_of_ble_eq_true rfl) dX0_tick_11 (fun H locs hP hD hS => ?_)
  have hP : va_P D vwCl (kX0 cB me ba v_by x1) H := hP
  have hD : va_D A (kX0 cB me ba v_by x1) := hD
  refine lv_aload_n hx hb dX0_tick_14 rfl (lv_at hl 0 rfl) ?_
  refine va_get (D := D) (ci := 0) (v := .int x1) (C := RX0) (T := TX0) (N := 2) hx hb hws inlX0 hown hK hP 0 rfl rfl 1 (by decide) (hws _ mw_136) (fun _ h9 => h9) rfl dX0_tick_15 ?_
  refine lv_bipush (v := 63) hx hb dX0_tick_18 (by decide) ?_
  refine lv_iand hx hb dX0_tick_20 ?_
  obtain ⟨TJ8, hTJ8⟩ : ∃ T9 : (Nat → Int32), T9 = (if (x1 &&& (63 : Int32)) = (0 : Int32) then (kU1 (fX0_at v_by (65284 : Int32)) (fun (r4 : Int32) => (kU1 (fX0_store v_by (65284 : Int32) (r4 + (1 : Int32))) (fun (b5 : Nat → Int32) => b5)))) else v_by) := ⟨_, rfl⟩
  have J8 : ∀ (b7 : Nat → Int32), b7 = TJ8 → ∀ (H : Heap) (locs : List Loc) (ls : Array Slot), lv_has ls 2 [(0, .ref me)] → va_P D vwCl (kX0 cB me ba b7 x1) H → va_D A (kX0 cB me ba b7 x1) → va_S A s.heap H locs → W p l e (headSpec wwX0_tick rmX0_tick).room s m ([.ref me] : List Value).toArray below meth c H locs 0 0 Q (F0 m 38 ls []) := by
    intro b7 eJ8 H locs ls hl hP hD hS
    have hf := hf.trans (kE1 (eJ8.trans hTJ8))
    refine lv_aload_n hx hb dX0_tick_38 rfl (lv_at hl 0 rfl) ?_
    refine lv_ldc (v := 65287) hx hb hown (hws _ mw_153) dX0_tick_39 ?_
    refine kc_Vi (wr := []) (As := [.int (65287 : Int32)]) (rest := []) (fun _ => (kX0 cB me ba b7 x1)) ⟨hx, hb, hml, hown, hws⟩ hK hP hD hS hA hT (c_X0_at l D cB me ba H.size b7 x1 (65287 : Int32)) (cwV 1 hws (gw_V mw_114 mw_86 mw_87 mw_14 mw_88) rfl rfl rfl hdX0_at ⟨Nat.le_of_ble_eq_true rfl, Nat.le_of_ble_eq_true rfl⟩) [0, 1] [] [0] [0, 1] rfl rfl rfl rfl (by decide) rfl (fun _ => rfl) rfl 0 rfl rfl rfl rfl hl.1 rfl (Nat.le_of_ble_eq_true rfl) dX0_tick_41 ⟨Nat.zero_le _, Nat.zero_le _⟩ (fun r10 _ H locs hw9 hP hD hS => ?_)
    have hP : va_P D vwCl (kX0 cB me ba b7 x1) H := hP
    have hD : va_D A (kX0 cB me ba b7 x1) := hD
    have hf := hf.trans (kE1 hw9)
    refine lv_istore_n (lv' := [(1, .int r10), (0, .ref me)]) hx hb dX0_tick_44 rfl hl (by decide) rfl (fun ls hl => ?_)
    refine lv_iload_n hx hb dX0_tick_45 rfl (lv_at hl 0 rfl) ?_
    refine lv_iconst (v := 4) hx hb dX0_tick_46 (by decide) ?_
    refine lv_iand hx hb dX0_tick_47 ?_
    refine lv_if_eq (tgt := 70) hx hb dX0_tick_48 (by decide) (fun c11 => ?_) (fun c11 => ?_)
    · have hf := hf.trans (if_pos c11)
      rw [← hQ]
      exact W.vret hx hb hr (fun t ht hW => ⟨⟨(b7, x1), rfl, hf.symm, by rw [ht]; exact hP, va_K.moved hW.alike hK, hD⟩, hS.F ht⟩) hS.2.2 dX0_tick_70
    · have hf := hf.trans (if_neg c11)
      refine lv_aload_n hx hb dX0_tick_51 rfl (lv_at hl 1 rfl) ?_
      refine va_get (D := D) (ci := 0) (v := .int x1) (C := RX0) (T := TX0) (N := 2) hx hb hws inlX0 hown hK hP 0 rfl rfl 1 (by decide) (hws _ mw_136) (fun _ h9 => h9) rfl dX0_tick_52 ?_
      obtain ⟨tm, hzm, hym⟩ := hT.2.1
      refine va_getsN (v := .ref tm) hx hb hzm hS hown (va_Nw.use (w := kx_n6) rfl hT.1.2.2.2.2.2) (fun _ h9 => h9) dX0_tick_55 ?_
      refine lv_iload_n hx hb dX0_tick_58 rfl (lv_at hl 0 rfl) ?_
      refine lv_iconst (v := 3) hx hb dX0_tick_59 (by decide) ?_
      refine lv_iand hx hb dX0_tick_60 ?_
      refine va_ti (v := .int (tb_mask (r10 &&& (3 : Int32)).toNatClampNeg)) hx hb hym hS (ki_3_4 _) rfl dX0_tick_61 ?_
      refine lv_iand hx hb dX0_tick_62 ?_
      refine lv_if_ne (tgt := 70) hx hb dX0_tick_63 (by decide) (fun c12 => ?_) (fun c12 => ?_)
      · have hf := hf.trans (if_neg c12)
        rw [← hQ]
        exact W.vret hx hb hr (fun t ht hW => ⟨⟨(b7, x1), rfl, hf.symm, by rw [ht]; exact hP, va_K.moved hW.alike hK, hD⟩, hS.F ht⟩) hS.2.2 dX0_tick_70
      · have hf := hf.trans (if_pos c12)
        refine lv_aload_n hx hb dX0_tick_66 rfl (lv_at hl 1 rfl) ?_
        refine kc_Vv (wr := []) (As := []) (rest := []) (fun u9 => (kX0 cB me ba u9 x1)) ⟨hx, hb, hml, hown, hws⟩ hK hP hD hS hA hT (c_X0_countTimer l D cB me ba H.size b7 x1 ) (cwV 0 hws (gw_V mw_154 mw_155 mw_156 mw_14 mw_157) rfl rfl rfl hdX0_countTimer ⟨Nat.le_of_ble_eq_true rfl, Nat.le_of_ble_eq_true rfl⟩) [0, 1] [] [0] [0, 1] rfl rfl rfl rfl (by decide) rfl (fun _ => rfl) rfl 0 rfl rfl rfl rfl hl.1 rfl (Nat.le_of_ble_eq_true rfl) dX0_tick_67 ⟨Nat.zero_le _, Nat.zero_le _⟩ (fun b13 H locs hw14 hP hD hS => ?_)
        have hP : va_P D vwCl (kX0 cB me ba b13 x1) H := hP
        have hD : va_D A (kX0 cB me ba b13 x1) := hD
        have hf := hf.trans (kE1 hw14)
        rw [← hQ]
        exact W.vret hx hb hr (fun t ht hW => ⟨⟨(b13, x1), rfl, hf.symm, by rw [ht]; exact hP, va_K.moved hW.alike hK, hD⟩, hS.F ht⟩) hS.2.2 dX0_tick_70
  have hf := hTJ8
  refine lv_if_ne (tgt := 38) hx hb dX0_tick_21 (by decide) (fun c2 => ?_) (fun c2 => ?_)
  · have hf := hf.trans (if_neg c2)
    exact J8 v_by hf.symm H locs ls (lv_sub hl [0] rfl) hP hD hS
  · have hf := hf.trans (if_pos c2)
    refine lv_aload_n hx hb dX0_tick_24 rfl (lv_at hl 0 rfl) ?_
    refine lv_ldc (v := 65284) hx hb hown (hws _ mw_135) dX0_tick_25 ?_
    refine lv_aload_n hx hb dX0_tick_27 rfl (lv_at hl 0 rfl) ?_
    refine lv_ldc (v := 65284) hx hb hown (hws _ mw_135) dX0_tick_28 ?_
    refine kc_Vi (wr := []) (As := [.int (65284 : Int32)]) (rest := [.int (65284 : Int32), .ref me]) (fun _ => (kX0 cB me ba v_by x1)) ⟨hx, hb, hml, hown, hws⟩ hK hP hD hS hA hT (c_X0_at l D cB me ba H.size v_by x1 (65284 : Int32)) (cwV 1 hws (gw_V mw_114 mw_86 mw_87 mw_14 mw_88) rfl rfl rfl hdX0_at ⟨Nat.le_of_ble_eq_true rfl, Nat.le_of_ble_eq_true rfl⟩) [0, 1] [] [0] [0, 1] rfl rfl rfl rfl (by decide) rfl (fun _ => rfl) rfl 0 rfl rfl rfl rfl hl.1 rfl (Nat.le_of_ble_eq_true rfl) dX0_tick_30 ⟨Nat.zero_le _, Nat.zero_le _⟩ (fun r4 _ H locs hw3 hP hD hS => ?_)
    have hP : va_P D vwCl (kX0 cB me ba v_by x1) H := hP
    have hD : va_D A (kX0 cB me ba v_by x1) := hD
    have hf := hf.trans (kE1 hw3)
    refine lv_iconst (v := 1) hx hb dX0_tick_33 (by decide) ?_
    refine lv_iadd hx hb dX0_tick_34 ?_
    refine kc_Vv (wr := []) (As := [.int (65284 : Int32), .int (r4 + (1 : Int32))]) (rest := []) (fun u9 => (kX0 cB me ba u9 x1)) ⟨hx, hb, hml, hown, hws⟩ hK hP hD hS hA hT (c_X0_store l D cB me ba H.size v_by x1 (65284 : Int32) (r4 + (1 : Int32))) (cwV 2 hws (gw_V mw_75 mw_52 mw_53 mw_14 mw_54) rfl rfl rfl hdX0_store ⟨Nat.le_of_ble_eq_true rfl, Nat.le_of_ble_eq_true rfl⟩) [0, 1] [] [0] [0, 1] rfl rfl rfl rfl (by decide) rfl (fun _ => rfl) rfl 0 rfl rfl rfl rfl hl.1 rfl (Nat.le_of_ble_eq_true rfl) dX0_tick_35 ⟨Nat.zero_le _, Nat.zero_le _⟩ (fun b5 H locs hw6 hP hD hS => ?_)
    have hP : va_P D vwCl (kX0 cB me ba b5 x1) H := hP
    have hD : va_D A (kX0 cB me ba b5 x1) := hD
    have hf := hf.trans (kE1 hw6)
    exact J8 b5 hf.symm H locs ls (lv_sub hl [0] rfl) hP hD hS
end
