section
-- ===== PART A: goes FIRST, ahead of the names: the tables' words, and 'selects' of the private methods out of them =====
/-- a private method of a class that the tables say can be made, by its rows of tables_1 -/
def lw_okq (q : MethodName × Nat) : Prop := (q.1.cls ≠ "java/lang/invoke/MethodHandle" ∧ q.1.cls ≠ "java/lang/invoke/VarHandle") ∧ Cond.instantiable q.1.cls q.2 ∈ tables_1 ∧ Cond.privateMethod q.1 ∈ tables_1 ∧ Cond.instanceMethod q.1 ∈ tables_1
theorem lw_p0 : lw_okq (⟨"java/lang/Throwable", "fillInStackTrace", "(I)Ljava/lang/Throwable;"⟩, 6) := ⟨⟨by decide +kernel, by decide +kernel⟩, List.mem_of_getElem? (i := 137) (by decide +kernel), List.mem_of_getElem? (i := 135) (by decide +kernel), List.mem_of_getElem? (i := 136) (by decide +kernel)⟩
theorem lw_p1 : lw_okq (⟨"PortProcessor", "step", "()Z"⟩, 12) := ⟨⟨by decide +kernel, by decide +kernel⟩, List.mem_of_getElem? (i := 11) (by decide +kernel), List.mem_of_getElem? (i := 201) (by decide +kernel), List.mem_of_getElem? (i := 202) (by decide +kernel)⟩
theorem lw_p2 : lw_okq (⟨"PortProcessor", "letInterruptIn", "()V"⟩, 12) := ⟨⟨by decide +kernel, by decide +kernel⟩, List.mem_of_getElem? (i := 11) (by decide +kernel), List.mem_of_getElem? (i := 205) (by decide +kernel), List.mem_of_getElem? (i := 206) (by decide +kernel)⟩
theorem lw_p3 : lw_okq (⟨"PortProcessor", "callTo", "(I)V"⟩, 12) := ⟨⟨by decide +kernel, by decide +kernel⟩, List.mem_of_getElem? (i := 11) (by decide +kernel), List.mem_of_getElem? (i := 209) (by decide +kernel), List.mem_of_getElem? (i := 210) (by decide +kernel)⟩
theorem lw_p4 : lw_okq (⟨"PortProcessor", "push", "(I)V"⟩, 12) := ⟨⟨by decide +kernel, by decide +kernel⟩, List.mem_of_getElem? (i := 11) (by decide +kernel), List.mem_of_getElem? (i := 213) (by decide +kernel), List.mem_of_getElem? (i := 214) (by decide +kernel)⟩
theorem lw_p5 : lw_okq (⟨"PortProcessor", "nextByte", "()I"⟩, 12) := ⟨⟨by decide +kernel, by decide +kernel⟩, List.mem_of_getElem? (i := 11) (by decide +kernel), List.mem_of_getElem? (i := 219) (by decide +kernel), List.mem_of_getElem? (i := 220) (by decide +kernel)⟩
theorem lw_p6 : lw_okq (⟨"PortProcessor", "doFirstQuarter", "(I)I"⟩, 12) := ⟨⟨by decide +kernel, by decide +kernel⟩, List.mem_of_getElem? (i := 11) (by decide +kernel), List.mem_of_getElem? (i := 223) (by decide +kernel), List.mem_of_getElem? (i := 224) (by decide +kernel)⟩
theorem lw_p7 : lw_okq (⟨"PortProcessor", "fillPair", "(I)I"⟩, 12) := ⟨⟨by decide +kernel, by decide +kernel⟩, List.mem_of_getElem? (i := 11) (by decide +kernel), List.mem_of_getElem? (i := 227) (by decide +kernel), List.mem_of_getElem? (i := 228) (by decide +kernel)⟩
theorem lw_p8 : lw_okq (⟨"PortProcessor", "nextTwoBytes", "()I"⟩, 12) := ⟨⟨by decide +kernel, by decide +kernel⟩, List.mem_of_getElem? (i := 11) (by decide +kernel), List.mem_of_getElem? (i := 234) (by decide +kernel), List.mem_of_getElem? (i := 235) (by decide +kernel)⟩
theorem lw_p9 : lw_okq (⟨"PortProcessor", "writePair", "(II)V"⟩, 12) := ⟨⟨by decide +kernel, by decide +kernel⟩, List.mem_of_getElem? (i := 11) (by decide +kernel), List.mem_of_getElem? (i := 238) (by decide +kernel), List.mem_of_getElem? (i := 239) (by decide +kernel)⟩
theorem lw_p10 : lw_okq (⟨"PortProcessor", "addPair", "(I)I"⟩, 12) := ⟨⟨by decide +kernel, by decide +kernel⟩, List.mem_of_getElem? (i := 11) (by decide +kernel), List.mem_of_getElem? (i := 242) (by decide +kernel), List.mem_of_getElem? (i := 243) (by decide +kernel)⟩
theorem lw_p11 : lw_okq (⟨"PortProcessor", "readPair", "(I)I"⟩, 12) := ⟨⟨by decide +kernel, by decide +kernel⟩, List.mem_of_getElem? (i := 11) (by decide +kernel), List.mem_of_getElem? (i := 246) (by decide +kernel), List.mem_of_getElem? (i := 247) (by decide +kernel)⟩
theorem lw_p12 : lw_okq (⟨"PortProcessor", "storeOrFetch", "(I)I"⟩, 12) := ⟨⟨by decide +kernel, by decide +kernel⟩, List.mem_of_getElem? (i := 11) (by decide +kernel), List.mem_of_getElem? (i := 254) (by decide +kernel), List.mem_of_getElem? (i := 255) (by decide +kernel)⟩
theorem lw_p13 : lw_okq (⟨"PortProcessor", "storeHl", "(I)I"⟩, 12) := ⟨⟨by decide +kernel, by decide +kernel⟩, List.mem_of_getElem? (i := 11) (by decide +kernel), List.mem_of_getElem? (i := 258) (by decide +kernel), List.mem_of_getElem? (i := 259) (by decide +kernel)⟩
theorem lw_p14 : lw_okq (⟨"PortProcessor", "fetchHl", "(I)I"⟩, 12) := ⟨⟨by decide +kernel, by decide +kernel⟩, List.mem_of_getElem? (i := 11) (by decide +kernel), List.mem_of_getElem? (i := 262) (by decide +kernel), List.mem_of_getElem? (i := 263) (by decide +kernel)⟩
theorem lw_p15 : lw_okq (⟨"PortProcessor", "countPair", "(I)I"⟩, 12) := ⟨⟨by decide +kernel, by decide +kernel⟩, List.mem_of_getElem? (i := 11) (by decide +kernel), List.mem_of_getElem? (i := 266) (by decide +kernel), List.mem_of_getElem? (i := 267) (by decide +kernel)⟩
def lw_privs_1 : List (MethodName × Nat) := [(⟨"java/lang/Throwable", "fillInStackTrace", "(I)Ljava/lang/Throwable;"⟩, 6), (⟨"PortProcessor", "step", "()Z"⟩, 12), (⟨"PortProcessor", "letInterruptIn", "()V"⟩, 12), (⟨"PortProcessor", "callTo", "(I)V"⟩, 12), (⟨"PortProcessor", "push", "(I)V"⟩, 12), (⟨"PortProcessor", "nextByte", "()I"⟩, 12), (⟨"PortProcessor", "doFirstQuarter", "(I)I"⟩, 12), (⟨"PortProcessor", "fillPair", "(I)I"⟩, 12), (⟨"PortProcessor", "nextTwoBytes", "()I"⟩, 12), (⟨"PortProcessor", "writePair", "(II)V"⟩, 12), (⟨"PortProcessor", "addPair", "(I)I"⟩, 12), (⟨"PortProcessor", "readPair", "(I)I"⟩, 12), (⟨"PortProcessor", "storeOrFetch", "(I)I"⟩, 12), (⟨"PortProcessor", "storeHl", "(I)I"⟩, 12), (⟨"PortProcessor", "fetchHl", "(I)I"⟩, 12), (⟨"PortProcessor", "countPair", "(I)I"⟩, 12)]
theorem lw_r1 : ∀ q ∈ lw_privs_1, lw_okq q := List.forall_mem_cons.mpr ⟨lw_p0, List.forall_mem_cons.mpr ⟨lw_p1, List.forall_mem_cons.mpr ⟨lw_p2, List.forall_mem_cons.mpr ⟨lw_p3, List.forall_mem_cons.mpr ⟨lw_p4, List.forall_mem_cons.mpr ⟨lw_p5, List.forall_mem_cons.mpr ⟨lw_p6, List.forall_mem_cons.mpr ⟨lw_p7, List.forall_mem_cons.mpr ⟨lw_p8, List.forall_mem_cons.mpr ⟨lw_p9, List.forall_mem_cons.mpr ⟨lw_p10, List.forall_mem_cons.mpr ⟨lw_p11, List.forall_mem_cons.mpr ⟨lw_p12, List.forall_mem_cons.mpr ⟨lw_p13, List.forall_mem_cons.mpr ⟨lw_p14, List.forall_mem_cons.mpr ⟨lw_p15, fun _ h => absurd h List.not_mem_nil⟩⟩⟩⟩⟩⟩⟩⟩⟩⟩⟩⟩⟩⟩⟩⟩
theorem lw_p16 : lw_okq (⟨"PortProcessor", "raise", "(I)I"⟩, 12) := ⟨⟨by decide +kernel, by decide +kernel⟩, List.mem_of_getElem? (i := 11) (by decide +kernel), List.mem_of_getElem? (i := 270) (by decide +kernel), List.mem_of_getElem? (i := 271) (by decide +kernel)⟩
theorem lw_p17 : lw_okq (⟨"PortProcessor", "readRegister", "(I)I"⟩, 12) := ⟨⟨by decide +kernel, by decide +kernel⟩, List.mem_of_getElem? (i := 11) (by decide +kernel), List.mem_of_getElem? (i := 277) (by decide +kernel), List.mem_of_getElem? (i := 278) (by decide +kernel)⟩
theorem lw_p18 : lw_okq (⟨"PortProcessor$Flags", "judge", "(I)V"⟩, 5) := ⟨⟨by decide +kernel, by decide +kernel⟩, List.mem_of_getElem? (i := 30) (by decide +kernel), List.mem_of_getElem? (i := 285) (by decide +kernel), List.mem_of_getElem? (i := 286) (by decide +kernel)⟩
theorem lw_p19 : lw_okq (⟨"PortProcessor", "writeRegister", "(II)V"⟩, 12) := ⟨⟨by decide +kernel, by decide +kernel⟩, List.mem_of_getElem? (i := 11) (by decide +kernel), List.mem_of_getElem? (i := 295) (by decide +kernel), List.mem_of_getElem? (i := 296) (by decide +kernel)⟩
theorem lw_p20 : lw_okq (⟨"PortProcessor", "lower", "(I)I"⟩, 12) := ⟨⟨by decide +kernel, by decide +kernel⟩, List.mem_of_getElem? (i := 11) (by decide +kernel), List.mem_of_getElem? (i := 299) (by decide +kernel), List.mem_of_getElem? (i := 300) (by decide +kernel)⟩
theorem lw_p21 : lw_okq (⟨"PortProcessor", "fillRegister", "(I)I"⟩, 12) := ⟨⟨by decide +kernel, by decide +kernel⟩, List.mem_of_getElem? (i := 11) (by decide +kernel), List.mem_of_getElem? (i := 307) (by decide +kernel), List.mem_of_getElem? (i := 308) (by decide +kernel)⟩
theorem lw_p22 : lw_okq (⟨"PortProcessor", "workOnA", "(I)I"⟩, 12) := ⟨⟨by decide +kernel, by decide +kernel⟩, List.mem_of_getElem? (i := 11) (by decide +kernel), List.mem_of_getElem? (i := 311) (by decide +kernel), List.mem_of_getElem? (i := 312) (by decide +kernel)⟩
theorem lw_p23 : lw_okq (⟨"PortProcessor", "move", "(I)I"⟩, 12) := ⟨⟨by decide +kernel, by decide +kernel⟩, List.mem_of_getElem? (i := 11) (by decide +kernel), List.mem_of_getElem? (i := 331) (by decide +kernel), List.mem_of_getElem? (i := 332) (by decide +kernel)⟩
theorem lw_p24 : lw_okq (⟨"PortProcessor", "combineWithRegister", "(I)I"⟩, 12) := ⟨⟨by decide +kernel, by decide +kernel⟩, List.mem_of_getElem? (i := 11) (by decide +kernel), List.mem_of_getElem? (i := 335) (by decide +kernel), List.mem_of_getElem? (i := 336) (by decide +kernel)⟩
theorem lw_p25 : lw_okq (⟨"PortProcessor$Flags", "sum", "(III)I"⟩, 5) := ⟨⟨by decide +kernel, by decide +kernel⟩, List.mem_of_getElem? (i := 30) (by decide +kernel), List.mem_of_getElem? (i := 343) (by decide +kernel), List.mem_of_getElem? (i := 344) (by decide +kernel)⟩
theorem lw_p26 : lw_okq (⟨"PortProcessor$Flags", "difference", "(III)I"⟩, 5) := ⟨⟨by decide +kernel, by decide +kernel⟩, List.mem_of_getElem? (i := 30) (by decide +kernel), List.mem_of_getElem? (i := 348) (by decide +kernel), List.mem_of_getElem? (i := 349) (by decide +kernel)⟩
theorem lw_p27 : lw_okq (⟨"PortProcessor$Flags", "logical", "(IZ)I"⟩, 5) := ⟨⟨by decide +kernel, by decide +kernel⟩, List.mem_of_getElem? (i := 30) (by decide +kernel), List.mem_of_getElem? (i := 352) (by decide +kernel), List.mem_of_getElem? (i := 353) (by decide +kernel)⟩
theorem lw_p28 : lw_okq (⟨"PortProcessor", "doLastQuarter", "(I)I"⟩, 12) := ⟨⟨by decide +kernel, by decide +kernel⟩, List.mem_of_getElem? (i := 11) (by decide +kernel), List.mem_of_getElem? (i := 356) (by decide +kernel), List.mem_of_getElem? (i := 357) (by decide +kernel)⟩
theorem lw_p29 : lw_okq (⟨"PortProcessor", "returnOnCondition", "(I)I"⟩, 12) := ⟨⟨by decide +kernel, by decide +kernel⟩, List.mem_of_getElem? (i := 11) (by decide +kernel), List.mem_of_getElem? (i := 360) (by decide +kernel), List.mem_of_getElem? (i := 361) (by decide +kernel)⟩
theorem lw_p30 : lw_okq (⟨"PortProcessor$Flags", "flagOfCondition", "(I)Z"⟩, 5) := ⟨⟨by decide +kernel, by decide +kernel⟩, List.mem_of_getElem? (i := 30) (by decide +kernel), List.mem_of_getElem? (i := 368) (by decide +kernel), List.mem_of_getElem? (i := 369) (by decide +kernel)⟩
theorem lw_p31 : lw_okq (⟨"PortProcessor", "pop", "()I"⟩, 12) := ⟨⟨by decide +kernel, by decide +kernel⟩, List.mem_of_getElem? (i := 11) (by decide +kernel), List.mem_of_getElem? (i := 372) (by decide +kernel), List.mem_of_getElem? (i := 373) (by decide +kernel)⟩
def lw_privs_2 : List (MethodName × Nat) := [(⟨"PortProcessor", "raise", "(I)I"⟩, 12), (⟨"PortProcessor", "readRegister", "(I)I"⟩, 12), (⟨"PortProcessor$Flags", "judge", "(I)V"⟩, 5), (⟨"PortProcessor", "writeRegister", "(II)V"⟩, 12), (⟨"PortProcessor", "lower", "(I)I"⟩, 12), (⟨"PortProcessor", "fillRegister", "(I)I"⟩, 12), (⟨"PortProcessor", "workOnA", "(I)I"⟩, 12), (⟨"PortProcessor", "move", "(I)I"⟩, 12), (⟨"PortProcessor", "combineWithRegister", "(I)I"⟩, 12), (⟨"PortProcessor$Flags", "sum", "(III)I"⟩, 5), (⟨"PortProcessor$Flags", "difference", "(III)I"⟩, 5), (⟨"PortProcessor$Flags", "logical", "(IZ)I"⟩, 5), (⟨"PortProcessor", "doLastQuarter", "(I)I"⟩, 12), (⟨"PortProcessor", "returnOnCondition", "(I)I"⟩, 12), (⟨"PortProcessor$Flags", "flagOfCondition", "(I)Z"⟩, 5), (⟨"PortProcessor", "pop", "()I"⟩, 12)]
theorem lw_r2 : ∀ q ∈ lw_privs_2, lw_okq q := List.forall_mem_cons.mpr ⟨lw_p16, List.forall_mem_cons.mpr ⟨lw_p17, List.forall_mem_cons.mpr ⟨lw_p18, List.forall_mem_cons.mpr ⟨lw_p19, List.forall_mem_cons.mpr ⟨lw_p20, List.forall_mem_cons.mpr ⟨lw_p21, List.forall_mem_cons.mpr ⟨lw_p22, List.forall_mem_cons.mpr ⟨lw_p23, List.forall_mem_cons.mpr ⟨lw_p24, List.forall_mem_cons.mpr ⟨lw_p25, List.forall_mem_cons.mpr ⟨lw_p26, List.forall_mem_cons.mpr ⟨lw_p27, List.forall_mem_cons.mpr ⟨lw_p28, List.forall_mem_cons.mpr ⟨lw_p29, List.forall_mem_cons.mpr ⟨lw_p30, List.forall_mem_cons.mpr ⟨lw_p31, fun _ h => absurd h List.not_mem_nil⟩⟩⟩⟩⟩⟩⟩⟩⟩⟩⟩⟩⟩⟩⟩⟩
theorem lw_p32 : lw_okq (⟨"PortProcessor", "popPair", "(I)I"⟩, 12) := ⟨⟨by decide +kernel, by decide +kernel⟩, List.mem_of_getElem? (i := 11) (by decide +kernel), List.mem_of_getElem? (i := 376) (by decide +kernel), List.mem_of_getElem? (i := 377) (by decide +kernel)⟩
theorem lw_p33 : lw_okq (⟨"PortProcessor", "returnOrCopyHl", "(I)I"⟩, 12) := ⟨⟨by decide +kernel, by decide +kernel⟩, List.mem_of_getElem? (i := 11) (by decide +kernel), List.mem_of_getElem? (i := 384) (by decide +kernel), List.mem_of_getElem? (i := 385) (by decide +kernel)⟩
theorem lw_p34 : lw_okq (⟨"PortProcessor", "jumpOnCondition", "(I)I"⟩, 12) := ⟨⟨by decide +kernel, by decide +kernel⟩, List.mem_of_getElem? (i := 11) (by decide +kernel), List.mem_of_getElem? (i := 388) (by decide +kernel), List.mem_of_getElem? (i := 389) (by decide +kernel)⟩
theorem lw_p35 : lw_okq (⟨"PortProcessor", "jumpExchangeOrSwitch", "(I)I"⟩, 12) := ⟨⟨by decide +kernel, by decide +kernel⟩, List.mem_of_getElem? (i := 11) (by decide +kernel), List.mem_of_getElem? (i := 392) (by decide +kernel), List.mem_of_getElem? (i := 393) (by decide +kernel)⟩
theorem lw_p36 : lw_okq (⟨"PortProcessor", "exchangeHlWithStack", "()I"⟩, 12) := ⟨⟨by decide +kernel, by decide +kernel⟩, List.mem_of_getElem? (i := 11) (by decide +kernel), List.mem_of_getElem? (i := 396) (by decide +kernel), List.mem_of_getElem? (i := 397) (by decide +kernel)⟩
theorem lw_p37 : lw_okq (⟨"PortProcessor", "exchangeHlWithDe", "()I"⟩, 12) := ⟨⟨by decide +kernel, by decide +kernel⟩, List.mem_of_getElem? (i := 11) (by decide +kernel), List.mem_of_getElem? (i := 400) (by decide +kernel), List.mem_of_getElem? (i := 401) (by decide +kernel)⟩
theorem lw_p38 : lw_okq (⟨"PortProcessor", "callOnCondition", "(I)I"⟩, 12) := ⟨⟨by decide +kernel, by decide +kernel⟩, List.mem_of_getElem? (i := 11) (by decide +kernel), List.mem_of_getElem? (i := 404) (by decide +kernel), List.mem_of_getElem? (i := 405) (by decide +kernel)⟩
theorem lw_p39 : lw_okq (⟨"PortProcessor", "pushPair", "(I)I"⟩, 12) := ⟨⟨by decide +kernel, by decide +kernel⟩, List.mem_of_getElem? (i := 11) (by decide +kernel), List.mem_of_getElem? (i := 408) (by decide +kernel), List.mem_of_getElem? (i := 409) (by decide +kernel)⟩
theorem lw_p40 : lw_okq (⟨"PortProcessor", "callAlways", "()I"⟩, 12) := ⟨⟨by decide +kernel, by decide +kernel⟩, List.mem_of_getElem? (i := 11) (by decide +kernel), List.mem_of_getElem? (i := 416) (by decide +kernel), List.mem_of_getElem? (i := 417) (by decide +kernel)⟩
theorem lw_p41 : lw_okq (⟨"PortProcessor", "combineWithNext", "(I)I"⟩, 12) := ⟨⟨by decide +kernel, by decide +kernel⟩, List.mem_of_getElem? (i := 11) (by decide +kernel), List.mem_of_getElem? (i := 420) (by decide +kernel), List.mem_of_getElem? (i := 421) (by decide +kernel)⟩
theorem lw_p42 : lw_okq (⟨"PortProcessorModel", "step", "()Z"⟩, 17) := ⟨⟨by decide +kernel, by decide +kernel⟩, List.mem_of_getElem? (i := 476) (by decide +kernel), List.mem_of_getElem? (i := 559) (by decide +kernel), List.mem_of_getElem? (i := 560) (by decide +kernel)⟩
theorem lw_p43 : lw_okq (⟨"PortProcessorModel", "push", "(I)V"⟩, 17) := ⟨⟨by decide +kernel, by decide +kernel⟩, List.mem_of_getElem? (i := 476) (by decide +kernel), List.mem_of_getElem? (i := 563) (by decide +kernel), List.mem_of_getElem? (i := 564) (by decide +kernel)⟩
theorem lw_p44 : lw_okq (⟨"PortProcessorModel", "write", "(II)V"⟩, 17) := ⟨⟨by decide +kernel, by decide +kernel⟩, List.mem_of_getElem? (i := 476) (by decide +kernel), List.mem_of_getElem? (i := 568) (by decide +kernel), List.mem_of_getElem? (i := 569) (by decide +kernel)⟩
theorem lw_p45 : lw_okq (⟨"PortProcessorModel", "next", "()I"⟩, 17) := ⟨⟨by decide +kernel, by decide +kernel⟩, List.mem_of_getElem? (i := 476) (by decide +kernel), List.mem_of_getElem? (i := 573) (by decide +kernel), List.mem_of_getElem? (i := 574) (by decide +kernel)⟩
theorem lw_p46 : lw_okq (⟨"PortProcessorModel", "read", "(I)I"⟩, 17) := ⟨⟨by decide +kernel, by decide +kernel⟩, List.mem_of_getElem? (i := 476) (by decide +kernel), List.mem_of_getElem? (i := 577) (by decide +kernel), List.mem_of_getElem? (i := 578) (by decide +kernel)⟩
theorem lw_p47 : lw_okq (⟨"PortProcessorModel", "instruction", "(I)I"⟩, 17) := ⟨⟨by decide +kernel, by decide +kernel⟩, List.mem_of_getElem? (i := 476) (by decide +kernel), List.mem_of_getElem? (i := 581) (by decide +kernel), List.mem_of_getElem? (i := 582) (by decide +kernel)⟩
def lw_privs_3 : List (MethodName × Nat) := [(⟨"PortProcessor", "popPair", "(I)I"⟩, 12), (⟨"PortProcessor", "returnOrCopyHl", "(I)I"⟩, 12), (⟨"PortProcessor", "jumpOnCondition", "(I)I"⟩, 12), (⟨"PortProcessor", "jumpExchangeOrSwitch", "(I)I"⟩, 12), (⟨"PortProcessor", "exchangeHlWithStack", "()I"⟩, 12), (⟨"PortProcessor", "exchangeHlWithDe", "()I"⟩, 12), (⟨"PortProcessor", "callOnCondition", "(I)I"⟩, 12), (⟨"PortProcessor", "pushPair", "(I)I"⟩, 12), (⟨"PortProcessor", "callAlways", "()I"⟩, 12), (⟨"PortProcessor", "combineWithNext", "(I)I"⟩, 12), (⟨"PortProcessorModel", "step", "()Z"⟩, 17), (⟨"PortProcessorModel", "push", "(I)V"⟩, 17), (⟨"PortProcessorModel", "write", "(II)V"⟩, 17), (⟨"PortProcessorModel", "next", "()I"⟩, 17), (⟨"PortProcessorModel", "read", "(I)I"⟩, 17), (⟨"PortProcessorModel", "instruction", "(I)I"⟩, 17)]
theorem lw_r3 : ∀ q ∈ lw_privs_3, lw_okq q := List.forall_mem_cons.mpr ⟨lw_p32, List.forall_mem_cons.mpr ⟨lw_p33, List.forall_mem_cons.mpr ⟨lw_p34, List.forall_mem_cons.mpr ⟨lw_p35, List.forall_mem_cons.mpr ⟨lw_p36, List.forall_mem_cons.mpr ⟨lw_p37, List.forall_mem_cons.mpr ⟨lw_p38, List.forall_mem_cons.mpr ⟨lw_p39, List.forall_mem_cons.mpr ⟨lw_p40, List.forall_mem_cons.mpr ⟨lw_p41, List.forall_mem_cons.mpr ⟨lw_p42, List.forall_mem_cons.mpr ⟨lw_p43, List.forall_mem_cons.mpr ⟨lw_p44, List.forall_mem_cons.mpr ⟨lw_p45, List.forall_mem_cons.mpr ⟨lw_p46, List.forall_mem_cons.mpr ⟨lw_p47, fun _ h => absurd h List.not_mem_nil⟩⟩⟩⟩⟩⟩⟩⟩⟩⟩⟩⟩⟩⟩⟩⟩
theorem lw_p48 : lw_okq (⟨"PortProcessorModel", "first", "(I)I"⟩, 17) := ⟨⟨by decide +kernel, by decide +kernel⟩, List.mem_of_getElem? (i := 476) (by decide +kernel), List.mem_of_getElem? (i := 585) (by decide +kernel), List.mem_of_getElem? (i := 586) (by decide +kernel)⟩
theorem lw_p49 : lw_okq (⟨"PortProcessorModel", "nextWord", "()I"⟩, 17) := ⟨⟨by decide +kernel, by decide +kernel⟩, List.mem_of_getElem? (i := 476) (by decide +kernel), List.mem_of_getElem? (i := 589) (by decide +kernel), List.mem_of_getElem? (i := 590) (by decide +kernel)⟩
theorem lw_p50 : lw_okq (⟨"PortProcessorModel", "setPair", "(II)V"⟩, 17) := ⟨⟨by decide +kernel, by decide +kernel⟩, List.mem_of_getElem? (i := 476) (by decide +kernel), List.mem_of_getElem? (i := 593) (by decide +kernel), List.mem_of_getElem? (i := 594) (by decide +kernel)⟩
theorem lw_p51 : lw_okq (⟨"PortProcessorModel", "hl", "()I"⟩, 17) := ⟨⟨by decide +kernel, by decide +kernel⟩, List.mem_of_getElem? (i := 476) (by decide +kernel), List.mem_of_getElem? (i := 597) (by decide +kernel), List.mem_of_getElem? (i := 598) (by decide +kernel)⟩
theorem lw_p52 : lw_okq (⟨"PortProcessorModel", "pair", "(I)I"⟩, 17) := ⟨⟨by decide +kernel, by decide +kernel⟩, List.mem_of_getElem? (i := 476) (by decide +kernel), List.mem_of_getElem? (i := 601) (by decide +kernel), List.mem_of_getElem? (i := 602) (by decide +kernel)⟩
theorem lw_p53 : lw_okq (⟨"PortProcessorModel", "direct", "(I)I"⟩, 17) := ⟨⟨by decide +kernel, by decide +kernel⟩, List.mem_of_getElem? (i := 476) (by decide +kernel), List.mem_of_getElem? (i := 605) (by decide +kernel), List.mem_of_getElem? (i := 606) (by decide +kernel)⟩
theorem lw_p54 : lw_okq (⟨"PortProcessorModel", "set8", "(II)V"⟩, 17) := ⟨⟨by decide +kernel, by decide +kernel⟩, List.mem_of_getElem? (i := 476) (by decide +kernel), List.mem_of_getElem? (i := 609) (by decide +kernel), List.mem_of_getElem? (i := 610) (by decide +kernel)⟩
theorem lw_p55 : lw_okq (⟨"PortProcessorModel", "alter", "(I)V"⟩, 17) := ⟨⟨by decide +kernel, by decide +kernel⟩, List.mem_of_getElem? (i := 476) (by decide +kernel), List.mem_of_getElem? (i := 613) (by decide +kernel), List.mem_of_getElem? (i := 614) (by decide +kernel)⟩
theorem lw_p56 : lw_okq (⟨"PortProcessorModel", "decimal", "()V"⟩, 17) := ⟨⟨by decide +kernel, by decide +kernel⟩, List.mem_of_getElem? (i := 476) (by decide +kernel), List.mem_of_getElem? (i := 617) (by decide +kernel), List.mem_of_getElem? (i := 618) (by decide +kernel)⟩
theorem lw_p57 : lw_okq (⟨"PortProcessorModel", "show", "(I)V"⟩, 17) := ⟨⟨by decide +kernel, by decide +kernel⟩, List.mem_of_getElem? (i := 476) (by decide +kernel), List.mem_of_getElem? (i := 621) (by decide +kernel), List.mem_of_getElem? (i := 622) (by decide +kernel)⟩
theorem lw_p58 : lw_okq (⟨"PortProcessorModel", "get", "(I)I"⟩, 17) := ⟨⟨by decide +kernel, by decide +kernel⟩, List.mem_of_getElem? (i := 476) (by decide +kernel), List.mem_of_getElem? (i := 625) (by decide +kernel), List.mem_of_getElem? (i := 626) (by decide +kernel)⟩
theorem lw_p59 : lw_okq (⟨"PortProcessorModel", "reckon", "(II)V"⟩, 17) := ⟨⟨by decide +kernel, by decide +kernel⟩, List.mem_of_getElem? (i := 476) (by decide +kernel), List.mem_of_getElem? (i := 629) (by decide +kernel), List.mem_of_getElem? (i := 630) (by decide +kernel)⟩
theorem lw_p60 : lw_okq (⟨"PortProcessorModel", "sum", "(III)I"⟩, 17) := ⟨⟨by decide +kernel, by decide +kernel⟩, List.mem_of_getElem? (i := 476) (by decide +kernel), List.mem_of_getElem? (i := 633) (by decide +kernel), List.mem_of_getElem? (i := 634) (by decide +kernel)⟩
theorem lw_p61 : lw_okq (⟨"PortProcessorModel", "difference", "(III)I"⟩, 17) := ⟨⟨by decide +kernel, by decide +kernel⟩, List.mem_of_getElem? (i := 476) (by decide +kernel), List.mem_of_getElem? (i := 637) (by decide +kernel), List.mem_of_getElem? (i := 638) (by decide +kernel)⟩
theorem lw_p62 : lw_okq (⟨"PortProcessorModel", "last", "(I)I"⟩, 17) := ⟨⟨by decide +kernel, by decide +kernel⟩, List.mem_of_getElem? (i := 476) (by decide +kernel), List.mem_of_getElem? (i := 641) (by decide +kernel), List.mem_of_getElem? (i := 642) (by decide +kernel)⟩
theorem lw_p63 : lw_okq (⟨"PortProcessorModel", "holds", "(I)Z"⟩, 17) := ⟨⟨by decide +kernel, by decide +kernel⟩, List.mem_of_getElem? (i := 476) (by decide +kernel), List.mem_of_getElem? (i := 645) (by decide +kernel), List.mem_of_getElem? (i := 646) (by decide +kernel)⟩
def lw_privs_4 : List (MethodName × Nat) := [(⟨"PortProcessorModel", "first", "(I)I"⟩, 17), (⟨"PortProcessorModel", "nextWord", "()I"⟩, 17), (⟨"PortProcessorModel", "setPair", "(II)V"⟩, 17), (⟨"PortProcessorModel", "hl", "()I"⟩, 17), (⟨"PortProcessorModel", "pair", "(I)I"⟩, 17), (⟨"PortProcessorModel", "direct", "(I)I"⟩, 17), (⟨"PortProcessorModel", "set8", "(II)V"⟩, 17), (⟨"PortProcessorModel", "alter", "(I)V"⟩, 17), (⟨"PortProcessorModel", "decimal", "()V"⟩, 17), (⟨"PortProcessorModel", "show", "(I)V"⟩, 17), (⟨"PortProcessorModel", "get", "(I)I"⟩, 17), (⟨"PortProcessorModel", "reckon", "(II)V"⟩, 17), (⟨"PortProcessorModel", "sum", "(III)I"⟩, 17), (⟨"PortProcessorModel", "difference", "(III)I"⟩, 17), (⟨"PortProcessorModel", "last", "(I)I"⟩, 17), (⟨"PortProcessorModel", "holds", "(I)Z"⟩, 17)]
theorem lw_r4 : ∀ q ∈ lw_privs_4, lw_okq q := List.forall_mem_cons.mpr ⟨lw_p48, List.forall_mem_cons.mpr ⟨lw_p49, List.forall_mem_cons.mpr ⟨lw_p50, List.forall_mem_cons.mpr ⟨lw_p51, List.forall_mem_cons.mpr ⟨lw_p52, List.forall_mem_cons.mpr ⟨lw_p53, List.forall_mem_cons.mpr ⟨lw_p54, List.forall_mem_cons.mpr ⟨lw_p55, List.forall_mem_cons.mpr ⟨lw_p56, List.forall_mem_cons.mpr ⟨lw_p57, List.forall_mem_cons.mpr ⟨lw_p58, List.forall_mem_cons.mpr ⟨lw_p59, List.forall_mem_cons.mpr ⟨lw_p60, List.forall_mem_cons.mpr ⟨lw_p61, List.forall_mem_cons.mpr ⟨lw_p62, List.forall_mem_cons.mpr ⟨lw_p63, fun _ h => absurd h List.not_mem_nil⟩⟩⟩⟩⟩⟩⟩⟩⟩⟩⟩⟩⟩⟩⟩⟩
theorem lw_p64 : lw_okq (⟨"PortProcessorModel", "pop", "()I"⟩, 17) := ⟨⟨by decide +kernel, by decide +kernel⟩, List.mem_of_getElem? (i := 476) (by decide +kernel), List.mem_of_getElem? (i := 649) (by decide +kernel), List.mem_of_getElem? (i := 650) (by decide +kernel)⟩
theorem lw_p65 : lw_okq (⟨"PortProcessorModel", "flags", "()I"⟩, 17) := ⟨⟨by decide +kernel, by decide +kernel⟩, List.mem_of_getElem? (i := 476) (by decide +kernel), List.mem_of_getElem? (i := 653) (by decide +kernel), List.mem_of_getElem? (i := 654) (by decide +kernel)⟩
theorem lw_p66 : lw_okq (⟨"PortProcessorModel", "popped", "(I)I"⟩, 17) := ⟨⟨by decide +kernel, by decide +kernel⟩, List.mem_of_getElem? (i := 476) (by decide +kernel), List.mem_of_getElem? (i := 657) (by decide +kernel), List.mem_of_getElem? (i := 658) (by decide +kernel)⟩
theorem lw_p67 : lw_okq (⟨"PortProcessorModel", "setFlags", "(I)V"⟩, 17) := ⟨⟨by decide +kernel, by decide +kernel⟩, List.mem_of_getElem? (i := 476) (by decide +kernel), List.mem_of_getElem? (i := 661) (by decide +kernel), List.mem_of_getElem? (i := 662) (by decide +kernel)⟩
theorem lw_p68 : lw_okq (⟨"PortProcessorModel", "single", "(I)I"⟩, 17) := ⟨⟨by decide +kernel, by decide +kernel⟩, List.mem_of_getElem? (i := 476) (by decide +kernel), List.mem_of_getElem? (i := 665) (by decide +kernel), List.mem_of_getElem? (i := 666) (by decide +kernel)⟩
def lw_privs_5 : List (MethodName × Nat) := [(⟨"PortProcessorModel", "pop", "()I"⟩, 17), (⟨"PortProcessorModel", "flags", "()I"⟩, 17), (⟨"PortProcessorModel", "popped", "(I)I"⟩, 17), (⟨"PortProcessorModel", "setFlags", "(I)V"⟩, 17), (⟨"PortProcessorModel", "single", "(I)I"⟩, 17)]
theorem lw_r5 : ∀ q ∈ lw_privs_5, lw_okq q := List.forall_mem_cons.mpr ⟨lw_p64, List.forall_mem_cons.mpr ⟨lw_p65, List.forall_mem_cons.mpr ⟨lw_p66, List.forall_mem_cons.mpr ⟨lw_p67, List.forall_mem_cons.mpr ⟨lw_p68, fun _ h => absurd h List.not_mem_nil⟩⟩⟩⟩⟩
def lw_privs : List (MethodName × Nat) := lw_privs_1 ++ (lw_privs_2 ++ (lw_privs_3 ++ (lw_privs_4 ++ (lw_privs_5))))
def lw_tbl : List Cond := k2_sels lw_privs ++ tables_1
theorem lw_privs_ok : ∀ q ∈ lw_privs, lw_okq q := by
  show ∀ q ∈ lw_privs_1 ++ (lw_privs_2 ++ (lw_privs_3 ++ (lw_privs_4 ++ (lw_privs_5)))), lw_okq q
  exact List.forall_mem_append.mpr ⟨lw_r1, List.forall_mem_append.mpr ⟨lw_r2, List.forall_mem_append.mpr ⟨lw_r3, List.forall_mem_append.mpr ⟨lw_r4, lw_r5⟩⟩⟩⟩
end
section
/-! ===== BEGIN words of one list among another's, by their places ===== -/
theorem goodIn_r {big : List Cond} (ws : List Cond) (ps : List Nat) (hp : ws = ps.filterMap (fun i => big[i]?)) (h : ws.all goodWord = true) : GoodIn big ws := by
  intro w hw
  have h1 := List.all_eq_true.mp h w hw
  rw [hp] at hw
  obtain ⟨i, -, hi⟩ := List.mem_filterMap.mp hw
  have hm : w ∈ big := by first | exact List.mem_of_getElem? hi | exact List.getElem?_mem hi
  exact ⟨hm, good_of_word h1⟩
theorem goodIn_app {big a b : List Cond} (ha : GoodIn big a) (hb : GoodIn big b) : GoodIn big (a ++ b) := fun w h => (List.mem_append.mp h).elim (ha w) (hb w)
theorem goodIn_ca {big a b : List Cond} {c : Cond} (ha : GoodIn big (c :: a)) (hb : GoodIn big b) : GoodIn big (c :: (a ++ b)) := fun w h => (List.mem_cons.mp h).elim (fun e => ha w (List.mem_cons.mpr (Or.inl e))) (fun h => (List.mem_append.mp h).elim (fun h => ha w (List.mem_cons.mpr (Or.inr h))) (hb w))
theorem goodIn_sub {big ws : List Cond} (hm : ∀ w ∈ ws, w ∈ big) (h : ws.all goodWord = true) : GoodIn big ws := fun w hw => ⟨hm w hw, good_of_word (List.all_eq_true.mp h w hw)⟩
/-! ===== END ===== -/

/-! ===== BEGIN exceptions that leave a method, and their catching by the caller (launches without stack traces) ===== -/
section VXA
/-! The laws vx_back, vx_callV, vx_callS, vx_callSW, vx_throw0, vx_throwS follow proofs of the library, with one case more: JvmDerived/Free/Laws.lean (Back.of_free), Shelf42/LK1.lean (callV, callS), Shelf/KitTraced.lean (throwNew0V, throwNewS). -/
/-- where a method has thrown q: the class by its name, the cell, what was written, the world -/
def vx_T (XC : String → State → State → Prop) (st : State) (q : Addr) (t : State) (mc ms : Nat) (free : Addr → Prop) : Prop :=
  ∃ (E : String) (ce : Cell) (L : List Loc), XC E st t ∧ t.heap[q]? = some ce ∧ ce.vm = .none ∧ st.vm.findClass E = some ce.cls ∧ st.WarmedH t.vm ∧ st.sameButNew ({ t with vm := st.vm } : State) L mc ms ∧ ∀ z ∈ L, free z.base
def vx_Q (Qc : Array Value → State → Outcome → State → Prop) (XC : String → State → State → Prop) (mc ms : Nat) (free : Addr → Prop) : Array Value → State → Outcome → State → Prop := fun a st o t =>
  (Qc a st o t ∧ ∃ L, FrameEnd st o t L mc ms ∧ ∀ q ∈ L, free q.base) ∨ ∃ q, o = .threw q ∧ vx_T XC st q t mc ms free
/-- a callee that returns or throws -/
def vx_Met (l : Launch) (y : MethodName) (ws : List Cond) (rm : Room) (Pc : Array Value → State → Prop) (Qc : Array Value → State → Outcome → State → Prop) (XC : String → State → State → Prop) (mc ms : Nat) (free : Addr → Prop) : Prop :=
  MetFree l y (headSpec ws rm) Pc (fun _ _ _ _ _ => True) (vx_Q Qc XC mc ms free)
def vx_Post (XC : String → State → State → Prop) (mc ms : Nat) (free : Addr → Prop) : Pt → Array Value → Addr → Pt → Prop := fun A a q B =>
  ∃ (g : JFrame) (mk : MethodId) (t : State) (L : List Loc) (E : String) (ce : Cell), B.U.heap = t.heap ∧ B.U.vm = t.vm ∧ XC E (A.U.calling g mk a) t ∧ t.heap[q]? = some ce ∧ ce.vm = .none ∧ A.U.vm.findClass E = some ce.cls ∧ B.locs = A.locs ++ L ∧ (∀ z ∈ L, free z.base) ∧ B.cells = A.cells + mc ∧ B.slots = A.slots + ms
def vx_Back (l : Launch) (R : Room) (p : Program) (e : Env) (below : List Frame) (s : State) (sargs : Array Value) (y : MethodName) (len W9 : Nat)
    (Pre : Pt → Array Value → Prop) (Post : Pt → Array Value → Option Value → Pt → Prop) (PostX : Pt → Array Value → Addr → Pt → Prop) : Prop :=
  ∀ (m : MethodId) (meth : Method) (c : Code) (A : Pt) (g : JFrame) (ig : Instr) (mk : MethodId) (a : Array Value),
    Stand p l e R s m sargs below meth c A.U A.locs A.cells A.slots → g.method = m → g.locals.size = c.maxLocals → decode c.code g.pc = .ok (ig, len) →
    2 * g.monitorRoom + (g.stack.map fun v => v.category).sum ≤ W9 → A.U.methodNamed? y = some mk → Pre A a →
    (∃ (v : Option Value) (B : Pt), Stand p l e R s m sargs below meth c B.U B.locs B.cells B.slots ∧ Post A a v B ∧
      Steps p.tables e below (doInvoke e (A.U.setTop g) [] mk a).1 (B.U.setTop { g with pc := g.pc + len, stack := v.toList ++ g.stack })) ∨
    (∃ (q : Addr) (B : Pt), Stand p l e R s m sargs below meth c B.U B.locs B.cells B.slots ∧ PostX A a q B ∧
      Steps p.tables e below (doInvoke e (A.U.setTop g) [] mk a).1 ((B.U.setTop g).pushFrame (.throwing q)))
section Payer
variable {l : Launch} {R : Room} {p : Program} {e : Env} {below : List Frame} {s : State} {sargs : Array Value} {y : MethodName} {len W9 : Nat}
theorem vx_back {ws : List Cond} {rm : Room} {Pc : Array Value → State → Prop} {Qc : Array Value → State → Outcome → State → Prop} {XC : String → State → State → Prop} {mc ms : Nat} {free : Addr → Prop} {bytes : ByteArray} {maxL : Nat} {ret : Option FieldType}
    (hM : vx_Met l y ws rm Pc Qc XC mc ms free) (hblind : FrameBlind Pc) (hrc : rm.cells = mc) (hrs : rm.slots = ms)
    (hframes : rm.frames + 1 ≤ R.frames) (hlocals : W9 + (maxL + 11) + rm.locals ≤ R.locals)
    (hws : ∀ w ∈ ws, ∀ a' U, s.WarmedH U.vm → w.before a' U = true) (hcode : Cond.code y bytes maxL ret ∈ ws) (hinit : ∀ a' U, s.WarmedH U.vm → (Cond.initialized y.cls).before a' U = true) :
    vx_Back l R p e below s sargs y len W9 (PreOf R mc ms Pc) (PostOf Qc mc ms free) (vx_Post XC mc ms free) := by
  intro m meth c A g ig mk a X hg hsize hdg hW hn hp
  have h1 : (headSpec ws rm).pre.before a A.U = true := atoms_intro fun w hw => hws w hw _ _ X.warmed
  have h2 : (Cond.code y bytes maxL ret).before a A.U = true := hws _ hcode _ _ X.warmed
  have h3 : (Cond.initialized y.cls).before a A.U = true := hinit _ _ X.warmed
  have h4 : A.cells + (headSpec ws rm).room.cells ≤ R.cells := by rw [show (headSpec ws rm).room.cells = mc from hrc]; exact hp.1
  have h5 : A.slots + (headSpec ws rm).room.slots ≤ R.slots := by rw [show (headSpec ws rm).room.slots = ms from hrs]; exact hp.2.1
  have hPc : Pc a (A.U.calling g mk a) := hblind _ _ _ _ hp.2.2
  obtain ⟨U, Ls, c0, s0⟩ := A
  dsimp only [Pt.U, Pt.locs, Pt.cells, Pt.slots] at h1 h2 h3 h4 h5 X hn hPc ⊢
  obtain ⟨methY, cY, hmY, hcY, -, hlY, -, -, -, -⟩ := Cond.code_spec hn h2
  obtain ⟨kY, hkY, -⟩ := className_of_methodNamed hn
  have hinitY : kY.init = .initialized := Cond.initialized_spec (findClass_of_methodNamed hn) hkY h3
  have h : At U g.method c below := by rw [hg]; exact X.here
  have hlocals9 : W9 + (maxL + 11) + (headSpec ws rm).room.locals ≤ R.locals := hlocals
  have happ : (headSpec ws rm).appliesLoose y e.platform (U.calling g mk a) = true :=
    Spec.appliesLoose_calling (g := g) h hdg hn hkY hinitY
      (X.room_calling (g := g) (R' := (headSpec ws rm).room) hsize hmY hcY hframes (by rw [hlY]; omega) h4 h5) h1
  obtain ⟨mid, hmid⟩ := h.above
  have hfr : (U.setTop g).frames = (.java g :: mid) ++ below := by rw [State.frames_setTop' g h.top, hmid]; rfl
  obtain ⟨o, s₂, hsteps, -, hend, hq⟩ := Steps.callFree hM p X.admits X.cas X.clock (acts := []) hfr happ hPc trivial
  have hq' : vx_Q Qc XC mc ms free a (U.calling g mk a) o s₂ := hq
  rw [State.frames_setTop' g h.top] at hend
  obtain ⟨g₀, hg0⟩ := Option.isSome_iff_exists.mp h.top
  obtain ⟨r, hr⟩ := State.topJava?_eq_some.mp hg0
  have hr' : (({ U with heap := s₂.heap, slotsUsed := s₂.slotsUsed } : State).setVm s₂.vm).frames = .java g₀ :: r := hr
  rcases hq' with ⟨hqc, L, hfe, hL⟩ | ⟨q, rfl, E, ce, L, hx, hce, hcv, hcl, hW₂, hsm, hL⟩
  · obtain ⟨⟨v, rfl⟩, hW₂, e2, q2, q3, q4, q5, q6⟩ := id hfe
    have e3 : s₂ = ({ (U.calling g mk a).setFrames s₂.frames with heap := s₂.heap, slotsUsed := s₂.slotsUsed } : State).setVm s₂.vm := by
      have : s₂ = ({ s₂ with vm := (U.calling g mk a).vm } : State).setVm s₂.vm := rfl
      rw [e2] at this
      exact this
    obtain ⟨c₂, i₂, len₂, hc₂, hd₂, hf₂⟩ := hend
    have hW' : U.WarmedH s₂.vm := hW₂
    have hcc : c₂ = c := by
      have h1 : s₂.code? g.method = U.code? g.method := by
        rw [State.code?_eq, State.code?_eq, hW'.alike.method?]
      exact Option.some.inj (hc₂.symm.trans (h1.trans h.code))
    subst hcc
    have hlen : len₂ = len := by rw [hdg] at hd₂; cases hd₂; rfl
    subst hlen
    have hs₂ : s₂ = (({ U with heap := s₂.heap, slotsUsed := s₂.slotsUsed } : State).setVm s₂.vm).setTop { g with pc := g.pc + len₂, stack := v.toList ++ g.stack } := by
      refine e3.trans ?_
      rw [hf₂, State.calling_eq h.top, State.setFrames_setFrames, State.setTop_of_frames _ hr', hr]
      rfl
    have hsame : U.sameButNew ({ U with heap := s₂.heap, slotsUsed := s₂.slotsUsed } : State) L mc ms := by
      refine ⟨?_, q2, q3, q4, q5, q6⟩
      obtain ⟨t, ht, -⟩ := State.frames_cons hr
      show ({ U with heap := s₂.heap, slotsUsed := s₂.slotsUsed } : State) = { U.setFrames U.frames with heap := s₂.heap, slotsUsed := s₂.slotsUsed }
      rw [State.setFrames_self ht]
    subst hg
    refine Or.inl ⟨v, ⟨(({ U with heap := s₂.heap, slotsUsed := s₂.slotsUsed } : State).setVm s₂.vm), Ls ++ L, c0 + mc, s0 + ms⟩,
      ⟨X.admits, X.cas, X.clock, X.frames, X.room, X.hears, X.method, X.code, (X.here.setHeapUsed s₂.heap s₂.slotsUsed).setVm hW'.alike, X.tail, State.WarmedH.trans X.warmed hW', X.limits, X.bytes, X.same.trans (hsame.setVm s.vm)⟩,
      ⟨g, mk, s₂, L, rfl, rfl, hqc, rfl, hL, rfl, rfl⟩, ?_⟩
    show Steps p.tables e below _ ((({ U with heap := s₂.heap, slotsUsed := s₂.slotsUsed } : State).setVm s₂.vm).setTop { g with pc := g.pc + len₂, stack := v.toList ++ g.stack })
    rw [← hs₂]
    exact hsteps
  · obtain ⟨e2, q2, q3, q4, q5, q6⟩ := id hsm
    have e3 : s₂ = ({ (U.calling g mk a).setFrames s₂.frames with heap := s₂.heap, slotsUsed := s₂.slotsUsed } : State).setVm s₂.vm := by
      have : s₂ = ({ s₂ with vm := (U.calling g mk a).vm } : State).setVm s₂.vm := rfl
      rw [e2] at this
      exact this
    have hf₂ : s₂.frames = .throwing q :: .java g :: U.frames.tail := hend
    have hW' : U.WarmedH s₂.vm := hW₂
    have hs₂ : s₂ = ((({ U with heap := s₂.heap, slotsUsed := s₂.slotsUsed } : State).setVm s₂.vm).setTop g).pushFrame (.throwing q) := by
      refine e3.trans ?_
      rw [hf₂, State.calling_eq h.top, State.setFrames_setFrames, State.pushFrame, State.frames_setTop _ hr', State.setTop_of_frames _ hr', State.setFrames_setFrames, hr]
      rfl
    have hsame : U.sameButNew ({ U with heap := s₂.heap, slotsUsed := s₂.slotsUsed } : State) L mc ms := by
      refine ⟨?_, q2, q3, q4, q5, q6⟩
      obtain ⟨t, ht, -⟩ := State.frames_cons hr
      show ({ U with heap := s₂.heap, slotsUsed := s₂.slotsUsed } : State) = { U.setFrames U.frames with heap := s₂.heap, slotsUsed := s₂.slotsUsed }
      rw [State.setFrames_self ht]
    subst hg
    refine Or.inr ⟨q, ⟨(({ U with heap := s₂.heap, slotsUsed := s₂.slotsUsed } : State).setVm s₂.vm), Ls ++ L, c0 + mc, s0 + ms⟩,
      ⟨X.admits, X.cas, X.clock, X.frames, X.room, X.hears, X.method, X.code, (X.here.setHeapUsed s₂.heap s₂.slotsUsed).setVm hW'.alike, X.tail, State.WarmedH.trans X.warmed hW', X.limits, X.bytes, X.same.trans (hsame.setVm s.vm)⟩,
      ⟨g, mk, s₂, L, E, ce, rfl, rfl, hx, hce, hcv, hcl, rfl, hL, rfl, rfl⟩, ?_⟩
    show Steps p.tables e below _ (((({ U with heap := s₂.heap, slotsUsed := s₂.slotsUsed } : State).setVm s₂.vm).setTop g).pushFrame (.throwing q))
    rw [← hs₂]
    exact hsteps
end Payer
section Calls
variable {p : Program} {l : Launch} {e : Env} {R : Room} {s : State} {m : MethodId} {args : Array Value} {below : List Frame} {meth : Method} {c : Code} {T : State} {locs : List Loc} {cells slots : Nat}
theorem vx_callV (X : Stand p l e R s m args below meth c T locs cells slots) (hexec : p.tables.exec = Jvm.exec) {own C : String} {index : Nat} {y : MethodName} {bytes : ByteArray} {maxL : Nat} {ret : Option FieldType}
    (hown : s.vm.findClass own = some m.cls) (hlink : (Cond.methodLink own index y).before args s = true) (hinst : (Cond.instanceMethod y).before args s = true) (hsel : (Cond.selects C y y).before args s = true)
    (hcode : (Cond.code y bytes maxL ret).before args s = true) (hy : y.cls ≠ "java/lang/invoke/MethodHandle" ∧ y.cls ≠ "java/lang/invoke/VarHandle")
    {W9 : Nat} {Pre : Pt → Array Value → Prop} {Post : Pt → Array Value → Option Value → Pt → Prop} {PostX : Pt → Array Value → Addr → Pt → Prop} (hK : vx_Back l R p e below s args y 3 W9 Pre Post PostX)
    {b : Addr} {cellB : Cell} (hcell : T.heap[b]? = some cellB) (hobj : cellB.vm.isStatics = false) (hcls : s.vm.findClass C = some cellB.cls)
    {g : JFrame} (hg : g.method = m) (hsize : g.locals.size = c.maxLocals) {argsL rest : List Value} (hlen : ∀ sig, parseMethodDescriptor y.desc = some sig → argsL.length = sig.parameters.length)
    (hstack : g.stack = argsL.reverse ++ .ref b :: rest) (hW : 2 * g.monitorRoom + (rest.map fun v => v.category).sum ≤ W9) (hdg : decode c.code g.pc = .ok (.invokevirtual index, 3))
    (hpre : ∀ vm₁, s.WarmedH vm₁ → Pre ⟨T.setVm vm₁, locs, cells, slots⟩ (Value.ref b :: argsL).toArray) :
    (∃ (v : Option Value) (vm₁ : Vm) (B : Pt), s.WarmedH vm₁ ∧ Stand p l e R s m args below meth c B.U B.locs B.cells B.slots ∧ Post ⟨T.setVm vm₁, locs, cells, slots⟩ (Value.ref b :: argsL).toArray v B ∧
      ∀ target, Steps p.tables e below (B.U.setTop { g with pc := g.pc + 3, stack := v.toList ++ rest }) target → Steps p.tables e below (T.setTop g) target) ∨
    (∃ (q : Addr) (vm₁ : Vm) (B : Pt), s.WarmedH vm₁ ∧ Stand p l e R s m args below meth c B.U B.locs B.cells B.slots ∧ PostX ⟨T.setVm vm₁, locs, cells, slots⟩ (Value.ref b :: argsL).toArray q B ∧
      Steps p.tables e below (T.setTop g) ((B.U.setTop { g with stack := rest }).pushFrame (.throwing q))) := by
  obtain ⟨mk, methM, hnamed, hmethM, hstM, habM⟩ := Cond.instanceMethod_spec hinst
  obtain ⟨methM', cM, hmethM', -, -, -, -, -, -, hsigM⟩ := Cond.code_spec hnamed hcode
  cases hmethM.symm.trans hmethM'
  obtain ⟨c2, r2, m2, q1, q2, q3, q4, kP, hkP, hkPi⟩ := Cond.selects_spec hsel
  cases hcls.symm.trans q1
  cases (State.methodFound?_of_named hnamed hy).symm.trans q2
  cases hnamed.symm.trans q3
  have hselP : selectMethod e.platform s.vm cellB.cls mk = .method mk := by rw [Launch.admits_selectMethod X.admits]; exact q4
  obtain ⟨vm₁, X₁, hstep₁⟩ := X.invokevirtual hexec hown hlink hnamed hmethM hstM hkP hkPi hy (a := b) (cell := cellB) hcell
    (fun z h => by rw [h] at hobj; cases hobj) hselP hmethM habM hkP hkPi (g := g) hg (argsL := argsL) (rest := rest) (hlen _ hsigM) hstack hdg
  rcases hK m meth c ⟨T.setVm vm₁, locs, cells, slots⟩ { g with stack := rest } (.invokevirtual index) mk (Value.ref b :: argsL).toArray X₁ hg hsize hdg hW (X₁.named hnamed) (hpre vm₁ X₁.warmed) with ⟨v, B, X', hpost, hsteps⟩ | ⟨q, B, X', hpost, hsteps⟩
  · exact Or.inl ⟨v, vm₁, B, X₁.warmed, X', hpost, fun target h => hstep₁ _ fun acts => by rw [doInvoke_state]; exact hsteps.trans h⟩
  · exact Or.inr ⟨q, vm₁, B, X₁.warmed, X', hpost, hstep₁ _ fun acts => by rw [doInvoke_state]; exact hsteps⟩
theorem vx_callS (X : Stand p l e R s m args below meth c T locs cells slots) (hexec : p.tables.exec = Jvm.exec) {own : String} {index : Nat} {y : MethodName} {bytes : ByteArray} {maxL : Nat} {ret : Option FieldType}
    (hown : s.vm.findClass own = some m.cls) (hlink : (Cond.methodLink own index y).before args s = true) (hstat : (Cond.static y).before args s = true) (hinit : (Cond.initialized y.cls).before args s = true)
    (hcode : (Cond.code y bytes maxL ret).before args s = true) (hy : y.cls ≠ "java/lang/invoke/MethodHandle" ∧ y.cls ≠ "java/lang/invoke/VarHandle")
    {W9 : Nat} {Pre : Pt → Array Value → Prop} {Post : Pt → Array Value → Option Value → Pt → Prop} {PostX : Pt → Array Value → Addr → Pt → Prop} (hK : vx_Back l R p e below s args y 3 W9 Pre Post PostX)
    {g : JFrame} (hg : g.method = m) (hsize : g.locals.size = c.maxLocals) {argsL rest : List Value} (hlen : ∀ sig, parseMethodDescriptor y.desc = some sig → argsL.length = sig.parameters.length)
    (hstack : g.stack = argsL.reverse ++ rest) (hW : 2 * g.monitorRoom + (rest.map fun v => v.category).sum ≤ W9) (hdg : decode c.code g.pc = .ok (.invokestatic index, 3))
    (hpre : ∀ vm₁, s.WarmedH vm₁ → Pre ⟨T.setVm vm₁, locs, cells, slots⟩ argsL.toArray) :
    (∃ (v : Option Value) (vm₁ : Vm) (B : Pt), s.WarmedH vm₁ ∧ Stand p l e R s m args below meth c B.U B.locs B.cells B.slots ∧ Post ⟨T.setVm vm₁, locs, cells, slots⟩ argsL.toArray v B ∧
      ∀ target, Steps p.tables e below (B.U.setTop { g with pc := g.pc + 3, stack := v.toList ++ rest }) target → Steps p.tables e below (T.setTop g) target) ∨
    (∃ (q : Addr) (vm₁ : Vm) (B : Pt), s.WarmedH vm₁ ∧ Stand p l e R s m args below meth c B.U B.locs B.cells B.slots ∧ PostX ⟨T.setVm vm₁, locs, cells, slots⟩ argsL.toArray q B ∧
      Steps p.tables e below (T.setTop g) ((B.U.setTop { g with stack := rest }).pushFrame (.throwing q))) := by
  obtain ⟨mk, hnamed⟩ := Cond.code_named hcode
  obtain ⟨methM, cM, hmethM, -, -, -, -, -, -, hsigM⟩ := Cond.code_spec hnamed hcode
  have hstatic : methM.isStatic = true := Cond.static_spec hnamed hmethM hstat
  obtain ⟨kP, hkP, -⟩ := className_of_methodNamed hnamed
  have hinitP : kP.init = .initialized := Cond.initialized_spec (findClass_of_methodNamed hnamed) hkP hinit
  obtain ⟨vm₁, X₁, hstep₁⟩ := X.invokestatic hexec hown hlink hnamed hmethM hstatic hkP hinitP hy (g := g) hg (argsL := argsL) (rest := rest) (hlen _ hsigM) hstack hdg
  rcases hK m meth c ⟨T.setVm vm₁, locs, cells, slots⟩ { g with stack := rest } (.invokestatic index) mk argsL.toArray X₁ hg hsize hdg hW (X₁.named hnamed) (hpre vm₁ X₁.warmed) with ⟨v, B, X', hpost, hsteps⟩ | ⟨q, B, X', hpost, hsteps⟩
  · exact Or.inl ⟨v, vm₁, B, X₁.warmed, X', hpost, fun target h => hstep₁ _ fun acts => by rw [doInvoke_state]; exact hsteps.trans h⟩
  · exact Or.inr ⟨q, vm₁, B, X₁.warmed, X', hpost, hstep₁ _ fun acts => by rw [doInvoke_state]; exact hsteps⟩
end Calls
theorem vx_cls {s : State} {T : State} {vm₁ : Vm} {E : String} {k : ClassId} (hW : s.WarmedH vm₁) (h : (T.setVm vm₁).vm.findClass E = some k) : s.vm.findClass E = some k := by
  have h1 : vm₁.findClass E = some k := h
  rw [hW.alike.findClass] at h1
  exact h1
/-- the method's frame g, with q thrown over it -/
def vx_W (p : Program) (l : Launch) (e : Env) (R : Room) (s : State) (m : MethodId) (args : Array Value) (below : List Frame) (meth : Method) (c : Code) (H : Heap) (locs : List Loc) (cells slots : Nat) (Q : State → Prop) (g : JFrame) (q : Addr) : Prop :=
  ∀ T : State, T.heap = H → Stand p l e R s m args below meth c T locs cells slots → ∃ t, Steps p.tables e below ((T.setTop g).pushFrame (.throwing q)) t ∧ Q t
def vx_Run (p : Program) (l : Launch) (e : Env) (R : Room) (s : State) (m : MethodId) (args : Array Value) (below : List Frame) (meth : Method) (c : Code) (H : Heap) (locs : List Loc) (cells slots mc ms : Nat) (g : JFrame) (rest : List Value) (Qa : State → Outcome → State → Prop) (XC : String → State → State → Prop) (free : Addr → Prop) : Prop :=
  ∀ T : State, T.heap = H → Stand p l e R s m args below meth c T locs cells slots →
    (∃ (v : Option Value) (st₀ t T' : State) (L : List Loc), st₀.heap = H ∧ Stand p l e R s m args below meth c T' (locs ++ L) (cells + mc) (slots + ms) ∧ (∀ q ∈ L, free q.base) ∧ T'.heap = t.heap ∧ T'.vm = t.vm ∧ Qa st₀ (.returned v) t ∧
      Goes p e below T g T' { g with pc := g.pc + 3, stack := v.toList ++ rest }) ∨
    (∃ (q : Addr) (st₀ t T' : State) (L : List Loc) (E : String) (ce : Cell), st₀.heap = H ∧ Stand p l e R s m args below meth c T' (locs ++ L) (cells + mc) (slots + ms) ∧ (∀ z ∈ L, free z.base) ∧ T'.heap = t.heap ∧ T'.vm = t.vm ∧ XC E st₀ t ∧ t.heap[q]? = some ce ∧ ce.vm = .none ∧ s.vm.findClass E = some ce.cls ∧
      Steps p.tables e below (T.setTop g) ((T'.setTop { g with stack := rest }).pushFrame (.throwing q)))
def vx_X {S : Type} (px : S → Prop) (B : String → S → State → Prop) (A : Nat → Prop) : String → State → State → Prop := fun E st t => ∃ u : S, px u ∧ B E u t ∧ va_F A st t
section Runs
variable {p : Program} {l : Launch} {e : Env} {R : Room} {s : State} {m : MethodId} {args : Array Value} {below : List Frame} {meth : Method} {c : Code} {H : Heap} {locs : List Loc} {cells slots : Nat}
variable {y : MethodName} {bytes cc : ByteArray} {maxL nL mc ms n index : Nat} {ret : Option FieldType} {ws : List Cond} {rm : Room} {Pc : Array Value → State → Prop} {Qc : Array Value → State → Outcome → State → Prop} {XC : String → State → State → Prop} {free : Addr → Prop} {Ts : List Cond} {own C : String} {b : Addr} {As rest : List Value} {g : JFrame}
theorem vx_callBack (cb : CallB R s args own index y bytes maxL ret ws rm mc ms n) (hM : vx_Met l y ws rm Pc Qc XC mc ms free) (hbl : FrameBlind Pc) : vx_Back l R p e below s args y 3 8 (PreOf R mc ms Pc) (PostOf Qc mc ms free) (vx_Post XC mc ms free) := by
  obtain ⟨hrc, hrs, hfr, hlo, hws, hcw, -, hini, -⟩ := cb
  exact vx_back (bytes := bytes) (maxL := maxL) (ret := ret) hM hbl hrc hrs hfr hlo hws hcw (fun a' U hW => word_at hW (Or.inl (by first | rfl | simp [Cond.onTables, Cond.keeps, Cond.steady])) hini)
theorem vx_runV (S : CallFix p m c cc nL s args Ts own) (hM : vx_Met l y ws rm Pc Qc XC mc ms free) (cw : CallW R s args own C index y bytes maxL ret ws rm mc ms n) (hp : PreV s H C b Pc As)
    (hg : g.method = m) (hn : As.length = n) (hsize : g.locals.size = nL) (hstack : g.stack = As.reverse ++ .ref b :: rest) (hW : 2 * g.monitorRoom + (rest.map fun v => v.category).sum ≤ 8) (hdg : decode cc g.pc = .ok (.invokevirtual index, 3)) (hf : cells + mc ≤ R.cells ∧ slots + ms ≤ R.slots) :
    vx_Run p l e R s m args below meth c H locs cells slots mc ms g rest (Qc (Value.ref b :: As).toArray) XC free := by
  have hK : vx_Back l R p e below s args y 3 8 (PreOf R mc ms Pc) (PostOf Qc mc ms free) (vx_Post XC mc ms free) := vx_callBack cw.1 hM hp.1
  obtain ⟨⟨-, -, -, -, -, -, hcode, -, hy, hlen, hl⟩, hin, hse⟩ := cw
  obtain ⟨hx, hb, hml, ho, -⟩ := S
  obtain ⟨-, ⟨cellB, hcB, hoB, hclB⟩, hPc⟩ := hp
  intro T hT X
  rcases vx_callV X hx (C := C) (bytes := bytes) (maxL := maxL) (ret := ret) ho hl hin hse hcode hy hK (by rw [hT]; exact hcB) hoB hclB hg (hsize.trans hml.symm) (argsL := As) (rest := rest) (fun sig h => hn.trans (hlen sig h)) hstack hW (by rw [hb]; exact hdg)
    (fun vm₁ hW₁ => ⟨hf.1, hf.2, hPc (T.setVm vm₁) hT hW₁⟩) with ⟨v, vm₁, ⟨U', l2, c2, s2⟩, hW₁, X', ⟨g', mk, t, L, e1, e2, hq, h1, hL, h2, h3⟩, st⟩ | ⟨q, vm₁, ⟨U', l2, c2, s2⟩, hW₁, X', ⟨g', mk, t, L, E, ce, e1, e2, hq, hce, hcv, hcl, h1, hL, h2, h3⟩, st⟩
  · dsimp only [Pt.U, Pt.locs, Pt.cells, Pt.slots] at X' e1 e2 h1 h2 h3 st
    subst h1; subst h2; subst h3
    exact Or.inl ⟨v, (T.setVm vm₁).calling g' mk (Value.ref b :: As).toArray, t, U', L, hT, X', hL, e1, e2, hq, st⟩
  · dsimp only [Pt.U, Pt.locs, Pt.cells, Pt.slots] at X' e1 e2 h1 h2 h3 st hcl
    subst h1; subst h2; subst h3
    exact Or.inr ⟨q, (T.setVm vm₁).calling g' mk (Value.ref b :: As).toArray, t, U', L, E, ce, hT, X', hL, e1, e2, hq, hce, hcv, vx_cls hW₁ hcl, st⟩
theorem vx_runS (S : CallFix p m c cc nL s args Ts own) (hM : vx_Met l y ws rm Pc Qc XC mc ms free) (cw : CallB R s args own index y bytes maxL ret ws rm mc ms n ∧ (Cond.static y).before args s = true) (hp : PreS s H Pc As)
    (hg : g.method = m) (hn : As.length = n) (hsize : g.locals.size = nL) (hstack : g.stack = As.reverse ++ rest) (hW : 2 * g.monitorRoom + (rest.map fun v => v.category).sum ≤ 8) (hdg : decode cc g.pc = .ok (.invokestatic index, 3)) (hf : cells + mc ≤ R.cells ∧ slots + ms ≤ R.slots) :
    vx_Run p l e R s m args below meth c H locs cells slots mc ms g rest (Qc As.toArray) XC free := by
  have hK : vx_Back l R p e below s args y 3 8 (PreOf R mc ms Pc) (PostOf Qc mc ms free) (vx_Post XC mc ms free) := vx_callBack cw.1 hM hp.1
  obtain ⟨⟨-, -, -, -, -, -, hcode, hini, hy, hlen, hl⟩, hstt⟩ := cw
  obtain ⟨hx, hb, hml, ho, -⟩ := S
  intro T hT X
  rcases vx_callS X hx (bytes := bytes) (maxL := maxL) (ret := ret) ho hl hstt hini hcode hy hK hg (hsize.trans hml.symm) (argsL := As) (rest := rest) (fun sig h => hn.trans (hlen sig h)) hstack hW (by rw [hb]; exact hdg)
    (fun vm₁ hW₁ => ⟨hf.1, hf.2, hp.2 (T.setVm vm₁) hT hW₁⟩) with ⟨v, vm₁, ⟨U', l2, c2, s2⟩, hW₁, X', ⟨g', mk, t, L, e1, e2, hq, h1, hL, h2, h3⟩, st⟩ | ⟨q, vm₁, ⟨U', l2, c2, s2⟩, hW₁, X', ⟨g', mk, t, L, E, ce, e1, e2, hq, hce, hcv, hcl, h1, hL, h2, h3⟩, st⟩
  · dsimp only [Pt.U, Pt.locs, Pt.cells, Pt.slots] at X' e1 e2 h1 h2 h3 st
    subst h1; subst h2; subst h3
    exact Or.inl ⟨v, (T.setVm vm₁).calling g' mk As.toArray, t, U', L, hT, X', hL, e1, e2, hq, st⟩
  · dsimp only [Pt.U, Pt.locs, Pt.cells, Pt.slots] at X' e1 e2 h1 h2 h3 st hcl
    subst h1; subst h2; subst h3
    exact Or.inr ⟨q, (T.setVm vm₁).calling g' mk As.toArray, t, U', L, E, ce, hT, X', hL, e1, e2, hq, hce, hcv, vx_cls hW₁ hcl, st⟩
end Runs
section Rows
variable {p : Program} {l : Launch} {e : Env} {R : Room} {s : State} {m : MethodId} {args : Array Value} {below : List Frame} {meth : Method} {c : Code} {H : Heap} {locs : List Loc} {cells slots : Nat} {Q : State → Prop}
variable {mc ms : Nat} {free : Addr → Prop} {A0 A1 : Nat → Prop} {H0 : Heap} {a : Array Value} {pc : Nat} {ls : Array Slot} {st0 rest : List Value}
theorem vx_keep {st₀ t T' : State} {L : List Loc} (h0 : st₀.heap = H) (e1 : T'.heap = t.heap) (hS : va_S A0 H0 H locs) (hA : ∀ q, q < H.size → A1 q → A0 q) (hf : ∀ q, free q → A0 q) (hL : ∀ q ∈ L, free q.base) (hF : va_F A1 st₀ t) :
    H.size ≤ T'.heap.size ∧ (∀ q : Nat, q < H.size → ¬ A1 q → T'.heap[q]? = H[q]?) ∧ va_S A0 H0 T'.heap (locs ++ L) := by
  obtain ⟨hz, hk⟩ := hF
  rw [h0] at hz hk
  exact ⟨by rw [e1]; exact hz, fun q h1 h2 => by rw [e1]; exact hk q h1 h2,
    ⟨Nat.le_trans hS.1 (by rw [e1]; exact hz), fun q h1 h2 => by rw [e1, hk q (Nat.lt_of_lt_of_le h1 hS.1) (fun z => h2 (hA q (Nat.lt_of_lt_of_le h1 hS.1) z))]; exact hS.2.1 q h1 h2, fun q hq => by
      rcases List.mem_append.mp hq with h | h
      · exact hS.2.2 q h
      · exact hf _ (hL q h)⟩⟩
theorem vx_calli {S SX : Type} {post : Int32 → S → Prop} {px : SX → Prop} {B : S → State → Prop} {BX : String → SX → State → Prop} {AX : Nat → Prop} (hr : vx_Run p l e R s m args below meth c H locs cells slots mc ms (F0 m pc ls st0) rest (va_Qi post B A1 a) (vx_X px BX AX) free) (hS : va_S A0 H0 H locs) (hA : ∀ q, q < H.size → A1 q → A0 q) (hf : ∀ q, free q → A0 q) (hAX : ∀ q, q < H.size → AX q → A0 q)
    (kx : ∀ (E : String) (ce : Cell) (q9 : Addr) (u : SX) (t : State) (H1 : Heap) (locs1 : List Loc), t.heap = H1 → s.vm.Alike t.vm → px u → BX E u t → H.size ≤ H1.size → (∀ q : Nat, q < H.size → ¬ AX q → H1[q]? = H[q]?) → va_S A0 H0 H1 locs1 → H1[q9]? = some ce → ce.vm = .none → s.vm.findClass E = some ce.cls → vx_W p l e R s m args below meth c H1 locs1 (cells + mc) (slots + ms) Q (F0 m pc ls rest) q9)
    (kk : ∀ (r : Int32) (u : S) (t : State) (H1 : Heap) (locs1 : List Loc), t.heap = H1 → s.vm.Alike t.vm → post r u → B u t → H.size ≤ H1.size → (∀ q : Nat, q < H.size → ¬ A1 q → H1[q]? = H[q]?) → va_S A0 H0 H1 locs1 → W p l e R s m args below meth c H1 locs1 (cells + mc) (slots + ms) Q (F0 m (pc + 3) ls (.int r :: rest))) : W p l e R s m args below meth c H locs cells slots Q (F0 m pc ls st0) := by
  intro T hT X
  rcases hr T hT X with ⟨v, st₀, t, T', L, h0, X', hL, e1, e2, ⟨⟨r, u, hv, hp, hb⟩, hF⟩, st⟩ | ⟨q, st₀, t, T', L, E, ce, h0, X', hL, e1, e2, ⟨u, hp, hb, hF⟩, hce, hcv, hcl, st⟩
  · cases hv
    obtain ⟨k1, k2, k3⟩ := vx_keep h0 e1 hS hA hf hL hF
    obtain ⟨t2, a1, b1⟩ := kk r u t T'.heap (locs ++ L) e1.symm (by rw [← e2]; exact X'.warmed.alike) hp hb k1 k2 k3 T' rfl X'
    exact ⟨t2, st t2 a1, b1⟩
  · obtain ⟨k1, k2, k3⟩ := vx_keep h0 e1 hS hAX hf hL hF
    obtain ⟨t2, a1, b1⟩ := kx E ce q u t T'.heap (locs ++ L) e1.symm (by rw [← e2]; exact X'.warmed.alike) hp hb k1 k2 k3 (by rw [e1]; exact hce) hcv hcl T' rfl X'
    exact ⟨t2, st.trans a1, b1⟩
theorem vx_calll {S SX : Type} {post : Int64 → S → Prop} {px : SX → Prop} {B : S → State → Prop} {BX : String → SX → State → Prop} {AX : Nat → Prop} (hr : vx_Run p l e R s m args below meth c H locs cells slots mc ms (F0 m pc ls st0) rest (va_Ql post B A1 a) (vx_X px BX AX) free) (hS : va_S A0 H0 H locs) (hA : ∀ q, q < H.size → A1 q → A0 q) (hf : ∀ q, free q → A0 q) (hAX : ∀ q, q < H.size → AX q → A0 q)
    (kx : ∀ (E : String) (ce : Cell) (q9 : Addr) (u : SX) (t : State) (H1 : Heap) (locs1 : List Loc), t.heap = H1 → s.vm.Alike t.vm → px u → BX E u t → H.size ≤ H1.size → (∀ q : Nat, q < H.size → ¬ AX q → H1[q]? = H[q]?) → va_S A0 H0 H1 locs1 → H1[q9]? = some ce → ce.vm = .none → s.vm.findClass E = some ce.cls → vx_W p l e R s m args below meth c H1 locs1 (cells + mc) (slots + ms) Q (F0 m pc ls rest) q9)
    (kk : ∀ (r : Int64) (u : S) (t : State) (H1 : Heap) (locs1 : List Loc), t.heap = H1 → s.vm.Alike t.vm → post r u → B u t → H.size ≤ H1.size → (∀ q : Nat, q < H.size → ¬ A1 q → H1[q]? = H[q]?) → va_S A0 H0 H1 locs1 → W p l e R s m args below meth c H1 locs1 (cells + mc) (slots + ms) Q (F0 m (pc + 3) ls (.long r :: rest))) : W p l e R s m args below meth c H locs cells slots Q (F0 m pc ls st0) := by
  intro T hT X
  rcases hr T hT X with ⟨v, st₀, t, T', L, h0, X', hL, e1, e2, ⟨⟨r, u, hv, hp, hb⟩, hF⟩, st⟩ | ⟨q, st₀, t, T', L, E, ce, h0, X', hL, e1, e2, ⟨u, hp, hb, hF⟩, hce, hcv, hcl, st⟩
  · cases hv
    obtain ⟨k1, k2, k3⟩ := vx_keep h0 e1 hS hA hf hL hF
    obtain ⟨t2, a1, b1⟩ := kk r u t T'.heap (locs ++ L) e1.symm (by rw [← e2]; exact X'.warmed.alike) hp hb k1 k2 k3 T' rfl X'
    exact ⟨t2, st t2 a1, b1⟩
  · obtain ⟨k1, k2, k3⟩ := vx_keep h0 e1 hS hAX hf hL hF
    obtain ⟨t2, a1, b1⟩ := kx E ce q u t T'.heap (locs ++ L) e1.symm (by rw [← e2]; exact X'.warmed.alike) hp hb k1 k2 k3 (by rw [e1]; exact hce) hcv hcl T' rfl X'
    exact ⟨t2, st.trans a1, b1⟩
theorem vx_callf {S SX : Type} {post : UInt32 → S → Prop} {px : SX → Prop} {B : S → State → Prop} {BX : String → SX → State → Prop} {AX : Nat → Prop} (hr : vx_Run p l e R s m args below meth c H locs cells slots mc ms (F0 m pc ls st0) rest (va_Qf post B A1 a) (vx_X px BX AX) free) (hS : va_S A0 H0 H locs) (hA : ∀ q, q < H.size → A1 q → A0 q) (hf : ∀ q, free q → A0 q) (hAX : ∀ q, q < H.size → AX q → A0 q)
    (kx : ∀ (E : String) (ce : Cell) (q9 : Addr) (u : SX) (t : State) (H1 : Heap) (locs1 : List Loc), t.heap = H1 → s.vm.Alike t.vm → px u → BX E u t → H.size ≤ H1.size → (∀ q : Nat, q < H.size → ¬ AX q → H1[q]? = H[q]?) → va_S A0 H0 H1 locs1 → H1[q9]? = some ce → ce.vm = .none → s.vm.findClass E = some ce.cls → vx_W p l e R s m args below meth c H1 locs1 (cells + mc) (slots + ms) Q (F0 m pc ls rest) q9)
    (kk : ∀ (r : UInt32) (u : S) (t : State) (H1 : Heap) (locs1 : List Loc), t.heap = H1 → s.vm.Alike t.vm → post r u → B u t → H.size ≤ H1.size → (∀ q : Nat, q < H.size → ¬ A1 q → H1[q]? = H[q]?) → va_S A0 H0 H1 locs1 → W p l e R s m args below meth c H1 locs1 (cells + mc) (slots + ms) Q (F0 m (pc + 3) ls (.float r :: rest))) : W p l e R s m args below meth c H locs cells slots Q (F0 m pc ls st0) := by
  intro T hT X
  rcases hr T hT X with ⟨v, st₀, t, T', L, h0, X', hL, e1, e2, ⟨⟨r, u, hv, hp, hb⟩, hF⟩, st⟩ | ⟨q, st₀, t, T', L, E, ce, h0, X', hL, e1, e2, ⟨u, hp, hb, hF⟩, hce, hcv, hcl, st⟩
  · cases hv
    obtain ⟨k1, k2, k3⟩ := vx_keep h0 e1 hS hA hf hL hF
    obtain ⟨t2, a1, b1⟩ := kk r u t T'.heap (locs ++ L) e1.symm (by rw [← e2]; exact X'.warmed.alike) hp hb k1 k2 k3 T' rfl X'
    exact ⟨t2, st t2 a1, b1⟩
  · obtain ⟨k1, k2, k3⟩ := vx_keep h0 e1 hS hAX hf hL hF
    obtain ⟨t2, a1, b1⟩ := kx E ce q u t T'.heap (locs ++ L) e1.symm (by rw [← e2]; exact X'.warmed.alike) hp hb k1 k2 k3 (by rw [e1]; exact hce) hcv hcl T' rfl X'
    exact ⟨t2, st.trans a1, b1⟩
theorem vx_calld {S SX : Type} {post : UInt64 → S → Prop} {px : SX → Prop} {B : S → State → Prop} {BX : String → SX → State → Prop} {AX : Nat → Prop} (hr : vx_Run p l e R s m args below meth c H locs cells slots mc ms (F0 m pc ls st0) rest (va_Qd post B A1 a) (vx_X px BX AX) free) (hS : va_S A0 H0 H locs) (hA : ∀ q, q < H.size → A1 q → A0 q) (hf : ∀ q, free q → A0 q) (hAX : ∀ q, q < H.size → AX q → A0 q)
    (kx : ∀ (E : String) (ce : Cell) (q9 : Addr) (u : SX) (t : State) (H1 : Heap) (locs1 : List Loc), t.heap = H1 → s.vm.Alike t.vm → px u → BX E u t → H.size ≤ H1.size → (∀ q : Nat, q < H.size → ¬ AX q → H1[q]? = H[q]?) → va_S A0 H0 H1 locs1 → H1[q9]? = some ce → ce.vm = .none → s.vm.findClass E = some ce.cls → vx_W p l e R s m args below meth c H1 locs1 (cells + mc) (slots + ms) Q (F0 m pc ls rest) q9)
    (kk : ∀ (r : UInt64) (u : S) (t : State) (H1 : Heap) (locs1 : List Loc), t.heap = H1 → s.vm.Alike t.vm → post r u → B u t → H.size ≤ H1.size → (∀ q : Nat, q < H.size → ¬ A1 q → H1[q]? = H[q]?) → va_S A0 H0 H1 locs1 → W p l e R s m args below meth c H1 locs1 (cells + mc) (slots + ms) Q (F0 m (pc + 3) ls (.double r :: rest))) : W p l e R s m args below meth c H locs cells slots Q (F0 m pc ls st0) := by
  intro T hT X
  rcases hr T hT X with ⟨v, st₀, t, T', L, h0, X', hL, e1, e2, ⟨⟨r, u, hv, hp, hb⟩, hF⟩, st⟩ | ⟨q, st₀, t, T', L, E, ce, h0, X', hL, e1, e2, ⟨u, hp, hb, hF⟩, hce, hcv, hcl, st⟩
  · cases hv
    obtain ⟨k1, k2, k3⟩ := vx_keep h0 e1 hS hA hf hL hF
    obtain ⟨t2, a1, b1⟩ := kk r u t T'.heap (locs ++ L) e1.symm (by rw [← e2]; exact X'.warmed.alike) hp hb k1 k2 k3 T' rfl X'
    exact ⟨t2, st t2 a1, b1⟩
  · obtain ⟨k1, k2, k3⟩ := vx_keep h0 e1 hS hAX hf hL hF
    obtain ⟨t2, a1, b1⟩ := kx E ce q u t T'.heap (locs ++ L) e1.symm (by rw [← e2]; exact X'.warmed.alike) hp hb k1 k2 k3 (by rw [e1]; exact hce) hcv hcl T' rfl X'
    exact ⟨t2, st.trans a1, b1⟩
theorem vx_callv {S SX : Type} {post : S → Prop} {px : SX → Prop} {B : S → State → Prop} {BX : String → SX → State → Prop} {AX : Nat → Prop} (hr : vx_Run p l e R s m args below meth c H locs cells slots mc ms (F0 m pc ls st0) rest (va_Qv post B A1 a) (vx_X px BX AX) free) (hS : va_S A0 H0 H locs) (hA : ∀ q, q < H.size → A1 q → A0 q) (hf : ∀ q, free q → A0 q) (hAX : ∀ q, q < H.size → AX q → A0 q)
    (kx : ∀ (E : String) (ce : Cell) (q9 : Addr) (u : SX) (t : State) (H1 : Heap) (locs1 : List Loc), t.heap = H1 → s.vm.Alike t.vm → px u → BX E u t → H.size ≤ H1.size → (∀ q : Nat, q < H.size → ¬ AX q → H1[q]? = H[q]?) → va_S A0 H0 H1 locs1 → H1[q9]? = some ce → ce.vm = .none → s.vm.findClass E = some ce.cls → vx_W p l e R s m args below meth c H1 locs1 (cells + mc) (slots + ms) Q (F0 m pc ls rest) q9)
    (kk : ∀ (u : S) (t : State) (H1 : Heap) (locs1 : List Loc), t.heap = H1 → s.vm.Alike t.vm → post u → B u t → H.size ≤ H1.size → (∀ q : Nat, q < H.size → ¬ A1 q → H1[q]? = H[q]?) → va_S A0 H0 H1 locs1 → W p l e R s m args below meth c H1 locs1 (cells + mc) (slots + ms) Q (F0 m (pc + 3) ls (rest))) : W p l e R s m args below meth c H locs cells slots Q (F0 m pc ls st0) := by
  intro T hT X
  rcases hr T hT X with ⟨v, st₀, t, T', L, h0, X', hL, e1, e2, ⟨⟨u, hv, hp, hb⟩, hF⟩, st⟩ | ⟨q, st₀, t, T', L, E, ce, h0, X', hL, e1, e2, ⟨u, hp, hb, hF⟩, hce, hcv, hcl, st⟩
  · cases hv
    obtain ⟨k1, k2, k3⟩ := vx_keep h0 e1 hS hA hf hL hF
    obtain ⟨t2, a1, b1⟩ := kk u t T'.heap (locs ++ L) e1.symm (by rw [← e2]; exact X'.warmed.alike) hp hb k1 k2 k3 T' rfl X'
    exact ⟨t2, st t2 a1, b1⟩
  · obtain ⟨k1, k2, k3⟩ := vx_keep h0 e1 hS hAX hf hL hF
    obtain ⟨t2, a1, b1⟩ := kx E ce q u t T'.heap (locs ++ L) e1.symm (by rw [← e2]; exact X'.warmed.alike) hp hb k1 k2 k3 (by rw [e1]; exact hce) hcv hcl T' rfl X'
    exact ⟨t2, st.trans a1, b1⟩
/-- caught by the row x of this method's table; the rows ahead don't take it -/
theorem vx_catch {own name : String} {E : String} {ce : Cell} {q : Addr} (hown : s.vm.findClass own = some m.cls) (pre : List ExceptionTableEntry) (x : ExceptionTableEntry) (suf : List ExceptionTableEntry) (hsplit : c.exceptionTable.toList = pre ++ x :: suf)
    (hpass : ∀ z ∈ pre, covers z pc = false ∨ (z.catchType ≠ 0 ∧ ∃ nm : String, (Cond.classLink own z.catchType nm).before args s = true ∧ va_Nc E nm s)) (hx : covers x pc = true) (h0 : x.catchType ≠ 0)
    (hlink : (Cond.classLink own x.catchType name).before args s = true) (hcast : (Cond.castable E name).before args s = true) (hcell : H[q]? = some ce) (hv : ce.vm = .none) (hcl : s.vm.findClass E = some ce.cls)
    (kk : W p l e R s m args below meth c H locs cells slots Q (F0 m x.handlerPc ls [.ref q])) : vx_W p l e R s m args below meth c H locs cells slots Q (F0 m pc ls rest) q := by
  intro T hT X
  have hpl : e.platform.magicAccessors = ({} : Platform).magicAccessors := by rw [X.admits.platform]
  obtain ⟨c3, c4, hc3, hc4, hasg⟩ := Cond.castable_spec hcast
  cases Option.some.inj (hc3.symm.trans hcl)
  obtain ⟨c5, hc5, hcl5⟩ := Cond.classLink_spec hown hlink e.platform hpl
  cases Option.some.inj (hc4.symm.trans hc5)
  obtain ⟨vm', X', st⟩ := X.thenCaughtThrough q (g := F0 m pc ls rest) rfl (Steps.refl _) (by rw [hT]; exact hcell) (by rw [hv]; rfl) (by obtain ⟨k9, h9, -⟩ := Vm.findClass_spec hcl; exact ⟨k9, h9⟩) pre x suf hsplit
    (fun z hz => by
      rcases hpass z hz with h | ⟨hz0, nm, hl1, hn1⟩
      · exact Or.inl h
      · obtain ⟨c6, hc6, hcl6⟩ := Cond.classLink_spec hown hl1 e.platform hpl
        obtain ⟨a8, b8, h1, h2, h3⟩ := hn1
        cases Option.some.inj (h1.symm.trans hcl)
        cases Option.some.inj (h2.symm.trans hc6)
        exact Or.inr ⟨hz0, _, hcl6, h3⟩) hx (Or.inr ⟨h0, c4, hcl5, hasg⟩)
  obtain ⟨t, a1, b1⟩ := kk (T.setVm vm') hT X'
  exact ⟨t, st.trans a1, b1⟩
end Rows
section Ends
variable {p : Program} {l : Launch} {e : Env} {R : Room} {s : State} {m : MethodId} {args : Array Value} {below : List Frame} {meth : Method} {c : Code} {H : Heap} {locs : List Loc} {cells slots : Nat} {Q : State → Prop}
variable {mc ms : Nat} {free : Addr → Prop} {A0 A1 : Nat → Prop} {H0 : Heap} {a : Array Value} {ls : Array Slot} {st0 rest : List Value}
variable {Qc : Array Value → State → Outcome → State → Prop} {XC : String → State → State → Prop}
/-- what a body that may throw owes at its end -/
def vx_MQ (below : List Frame) (Qc : Array Value → State → Outcome → State → Prop) (XC : String → State → State → Prop) (a : Array Value) (s : State) (mc ms : Nat) (free : Addr → Prop) : State → Prop := fun t =>
  ∃ o, t.status = .running ∧ Ended t below o ∧ vx_Q Qc XC mc ms free a s o t
theorem vx_ret {g : JFrame} {mc ms : Nat} (k : W p l e R s m args below meth c H locs cells slots (MQ below Qc args s mc ms free) g) : W p l e R s m args below meth c H locs cells slots (vx_MQ below Qc XC args s mc ms free) g := by
  intro T hT X
  obtain ⟨t, a1, o, b1, b2, b3, b4⟩ := k T hT X
  exact ⟨t, a1, o, b1, b2, Or.inl ⟨b3, b4⟩⟩
/-- not caught here: it goes on to the caller -/
theorem vx_widen {g : JFrame} {q : Addr} {k n : Nat} (h1 : cells ≤ k) (h2 : slots ≤ n) (kk : vx_W p l e R s m args below meth c H locs k n Q g q) : vx_W p l e R s m args below meth c H locs cells slots Q g q := fun T hT X => kk T hT (stand_widen X h1 h2)
theorem vx_out {pc : Nat} {E : String} {ce : Cell} {q : Addr} {mc ms : Nat} (hout : ∀ x ∈ c.exceptionTable.toList, covers x pc = false) (hlocks : meth.locks = false) (hcell : H[q]? = some ce) (hv : ce.vm = .none) (hcl : s.vm.findClass E = some ce.cls)
    (hx : ∀ t : State, t.heap = H → s.vm.Alike t.vm → XC E s t) (hf : ∀ z ∈ locs, free z.base) (hc : cells ≤ mc) (hs : slots ≤ ms) :
    vx_W p l e R s m args below meth c H locs cells slots (vx_MQ below Qc XC args s mc ms free) (F0 m pc ls rest) q := by
  intro T hT X
  obtain ⟨st1, hrun, hend, hW, hsm⟩ := X.leaveThrown q (g := F0 m pc ls rest) rfl rfl rfl hout hlocks
  have hcell9 : (T.setFrames (.throwing q :: below)).heap[q]? = some ce := by
    show T.heap[q]? = some ce
    rw [hT]; exact hcell
  exact ⟨_, st1, .threw q, hrun, hend, Or.inr ⟨q, rfl, E, ce, locs, hx _ hT hW.alike, hcell9, hv, hcl, hW, hsm.mono hc hs, hf⟩⟩
theorem vx_frame {U : State} {k n : Nat} (h : s.sameButNew ({ U with vm := s.vm } : State) locs k n) : s.heap.size ≤ U.heap.size ∧ ∀ q : Nat, q < s.heap.size → (∀ z ∈ locs, z.base ≠ q) → U.heap[q]? = s.heap[q]? := by
  obtain ⟨-, h2, -, -, -, h6⟩ := h
  refine ⟨h2, fun q hq hz => ?_⟩
  obtain ⟨c9, e1, e2, e3, e4⟩ := h6 q _ (Array.getElem?_eq_getElem hq)
  have hs : c9.slots = (s.heap[q]).slots := Array.ext_getElem? fun i => e4 i fun hm => hz _ hm rfl
  have h9 : c9 = s.heap[q] := by
    rw [hs] at e2
    exact e2
  have e5 : U.heap[q]? = some c9 := e1
  rw [e5, h9, Array.getElem?_eq_getElem hq]
/-- the words of a throw but the four that speak of the heap -/
def vx_no (w : Cond) : Bool := decide (w ≠ .isRef (.static Bundle.tN "UNASSIGNED_STACK" Bundle.steD)) && decide (w ≠ .isRef (.static Bundle.tN "SUPPRESSED_SENTINEL" Bundle.listD)) && decide (w ≠ .laysStatic Bundle.tN "UNASSIGNED_STACK" Bundle.steD) && decide (w ≠ .laysStatic Bundle.tN "SUPPRESSED_SENTINEL" Bundle.listD)
def vx_at0 (own : String) (ic : Nat) (X : String) (names : List String) : List Cond := (Bundle.ownAtoms0 own ic X names).filter vx_no
def vx_atS (own : String) (ic : Nat) (X : String) (names : List String) : List Cond := (Bundle.ownAtoms own ic X names).filter vx_no
/-- a word that the tables alone decide, or a good one -/
def vx_ot (w : Cond) : Bool := w.onTables || goodWord w
theorem vx_ot_at {args a' : Array Value} {s U : State} {w : Cond} (hW : s.WarmedH U.vm) (hvm : s.vm = U.vm) (hg : vx_ot w = true) (h : w.before args s = true) : w.before a' U = true := by
  simp only [vx_ot, Bool.or_eq_true] at hg
  rcases hg with hg | hg
  · exact va_tabs hg hvm h
  · exact word_at hW (good_of_word hg) h
/-- a list's words: the good ones out of the method's own list, the others by premises of their own -/
theorem vx_hat {args : Array Value} {s : State} {L B : List Cond} (h1 : ∀ w ∈ L.filter goodWord, w.before args s = true) (h2 : ∀ w ∈ L.filter (fun w => !goodWord w), w ∈ B) (h3 : ∀ w ∈ B, w.before args s = true) : ∀ w ∈ L, w.before args s = true := by
  intro w hw
  by_cases g : goodWord w = true
  · exact h1 w (List.mem_filter.mpr ⟨hw, g⟩)
  · refine h3 w (h2 w (List.mem_filter.mpr ⟨hw, ?_⟩))
    show (!goodWord w) = true
    cases hgw : goodWord w
    · rfl
    · exact absurd hgw g
theorem vx_c {args : Array Value} {s : State} {w : Cond} {B : List Cond} (h : w.before args s = true) (t : ∀ w ∈ B, w.before args s = true) : ∀ w' ∈ w :: B, w'.before args s = true := fun w' h' => (List.mem_cons.mp h').elim (fun e => by rw [e]; exact h) (t w')
theorem vx_n {args : Array Value} {s : State} : ∀ w ∈ ([] : List Cond), w.before args s = true := fun _ h => nomatch h
theorem vx_own {args : Array Value} {s : State} {L : List Cond} (h1 : ∀ w ∈ L.filter vx_no, w.before args s = true)
    (hU : (Cond.isRef (.static Bundle.tN "UNASSIGNED_STACK" Bundle.steD)).before args s = true) (hN : (Cond.isRef (.static Bundle.tN "SUPPRESSED_SENTINEL" Bundle.listD)).before args s = true)
    (lU : (Cond.laysStatic Bundle.tN "UNASSIGNED_STACK" Bundle.steD).before args s = true) (lN : (Cond.laysStatic Bundle.tN "SUPPRESSED_SENTINEL" Bundle.listD).before args s = true) : ∀ w ∈ L, w.before args s = true := by
  intro w hw
  by_cases e1 : w = .isRef (.static Bundle.tN "UNASSIGNED_STACK" Bundle.steD)
  · rw [e1]; exact hU
  · by_cases e2 : w = .isRef (.static Bundle.tN "SUPPRESSED_SENTINEL" Bundle.listD)
    · rw [e2]; exact hN
    · by_cases e3 : w = .laysStatic Bundle.tN "UNASSIGNED_STACK" Bundle.steD
      · rw [e3]; exact lU
      · by_cases e4 : w = .laysStatic Bundle.tN "SUPPRESSED_SENTINEL" Bundle.listD
        · rw [e4]; exact lN
        · exact h1 w (List.mem_filter.mpr ⟨hw, by unfold vx_no; rw [decide_eq_true e1, decide_eq_true e2, decide_eq_true e3, decide_eq_true e4]; rfl⟩)
/-- where a static field lies, its class's statics cell in H -/
def vx_L (C n d : String) (A : Nat → Prop) (U : State) (H : Heap) : Prop := ∃ (c : ClassId) (k : Class) (i : Nat) (f : Field) (a : Nat) (cell : Cell), U.vm.findClass C = some c ∧ U.fieldFound? C n d = some (c, k, i, f) ∧ f.isStatic = true ∧ k.statics = some a ∧ H[a]? = some cell ∧ cell.vm.isStatics = true ∧ cell.cls = c ∧ f.slot < cell.slots.size ∧ k.staticTypes[f.slot]? = some f.type ∧ ¬ A a
theorem vx_L.moved {C n d : String} {A : Nat → Prop} {u U : State} {H : Heap} (hvm : u.vm.Alike U.vm) (h : vx_L C n d A u H) : vx_L C n d A U H := by
  obtain ⟨c, k, i, f, a, cell, h1, h2, h3, h4, h5, h6, h7, h8, h9, h10⟩ := h
  obtain ⟨k', hi', he⟩ := State.fieldFound?_setVm hvm h2
  exact ⟨c, k', i, f, a, cell, by rw [hvm.findClass]; exact h1, hi', h3, by rw [he]; exact h4, h5, h6, h7, h8, by rw [he]; exact h9, h10⟩
theorem vx_L.kept {C n d : String} {A : Nat → Prop} {U : State} {H H1 : Heap} (h : vx_L C n d A U H) (hq : ∀ a : Nat, a < H.size → ¬ A a → H1[a]? = H[a]?) : vx_L C n d A U H1 := by
  obtain ⟨c, k, i, f, a, cell, h1, h2, h3, h4, h5, h6, h7, h8, h9, h10⟩ := h
  exact ⟨c, k, i, f, a, cell, h1, h2, h3, h4, by rw [hq a (Array.getElem?_eq_some_iff.mp h5).1 h10]; exact h5, h6, h7, h8, h9, h10⟩
theorem vx_L.narrow {C n d : String} {A B : Nat → Prop} {U : State} {H : Heap} (h : vx_L C n d A U H) (hAB : ∀ q, B q → A q) : vx_L C n d B U H := by
  obtain ⟨c, k, i, f, a, cell, h1, h2, h3, h4, h5, h6, h7, h8, h9, h10⟩ := h
  exact ⟨c, k, i, f, a, cell, h1, h2, h3, h4, h5, h6, h7, h8, h9, fun z => h10 (hAB _ z)⟩
theorem vx_L.word {C n d : String} {A : Nat → Prop} {s : State} {args : Array Value} (h : vx_L C n d A s s.heap) : (Cond.laysStatic C n d).before args s = true := by
  obtain ⟨c, k, i, f, a, cell, h1, h2, h3, h4, h5, h6, h7, h8, h9, -⟩ := h
  show (Cond.laysStatic C n d).holds args s none s [] = true
  exact Cond.laysStatic_of h1 h2 h3 h4 h5 h6 h7 h8 h9
/-- .. and what it holds: null or some reference -/
def vx_Zq (C n d : String) (A : Nat → Prop) (U : State) (H : Heap) : Prop := va_Zq C n d A U H ∧ vx_L C n d A U H
theorem vx_Zq.moved {C n d : String} {A : Nat → Prop} {u U : State} {H : Heap} (hvm : u.vm.Alike U.vm) (h : vx_Zq C n d A u H) : vx_Zq C n d A U H := ⟨va_Zq.moved hvm h.1, vx_L.moved hvm h.2⟩
theorem vx_Zq.kept {C n d : String} {A : Nat → Prop} {U : State} {H H1 : Heap} (h : vx_Zq C n d A U H) (hq : ∀ a : Nat, a < H.size → ¬ A a → H1[a]? = H[a]?) : vx_Zq C n d A U H1 := ⟨va_Zq.kept h.1 hq, vx_L.kept h.2 hq⟩
theorem vx_Zq.narrow {C n d : String} {A B : Nat → Prop} {U : State} {H : Heap} (h : vx_Zq C n d A U H) (hAB : ∀ q, B q → A q) : vx_Zq C n d B U H := ⟨va_Zq.narrow h.1 hAB, vx_L.narrow h.2 hAB⟩
theorem vx_Zqof {args : Array Value} {s : State} {C n d : String} {A : Nat → Prop} (hl : (Cond.laysStatic C n d).before args s = true) (hini : (Cond.initialized C).before args s = true) (h : (Cond.isRef (.static C n d)).before args s = true) (hA : ∀ a : Nat, a < s.heap.size → ¬ A a) : vx_Zq C n d A s s.heap := by
  refine ⟨va_Zqof hl hini h hA, ?_⟩
  obtain ⟨c, k, i, f, a, cell, h1, h2, h3, h4, h5, h6, h7, h8, h9⟩ := Cond.laysStatic_spec hl
  exact ⟨c, k, i, f, a, cell, h1, h2, h3, h4, h5, h6, h7, h8, h9, hA a (Array.getElem?_eq_some_iff.mp h5).1⟩
theorem vx_isRef {C n d : String} {v : Value} {A : Nat → Prop} {s : State} {args : Array Value} (h : va_Z C n d v A s s.heap) (hv : v.isRef = true) : (Cond.isRef (.static C n d)).before args s = true := by
  obtain ⟨cf, kf, fi, f, a, cell, h1, h2, h3, h4, h5, h6, h7, -⟩ := h
  have he : (Term.static C n d).eval args s none [] s = some v := by
    simp [Term.eval, State.fieldNamed?, h1, h2, h4, h5, h6, h7]
  simp only [Cond.before, Cond.holds, Cond.value, he]
  cases v <;> simp_all [Value.isRef]
theorem vx_isRefq {C n d : String} {A : Nat → Prop} {s : State} {args : Array Value} (h : va_Zq C n d A s s.heap) : (Cond.isRef (.static C n d)).before args s = true := by
  rcases h with h | ⟨t, h⟩
  · exact vx_isRef h rfl
  · exact vx_isRef h rfl
/-- the same frame, seen from here: as if the method were called anew in this heap -/
theorem vx_rebase {T : State} (X : Stand p l e R s m args below meth c T locs cells slots) {R' : Room} (hf : R'.frames ≤ R.frames) (hl : R'.locals ≤ R.locals) (hc : cells + R'.cells ≤ R.cells) (hs : slots + R'.slots ≤ R.slots) :
    Stand p l e R' ((T.setVm s.vm).setFrames (.invoking m args :: below)) m args below meth c T [] 0 0 := by
  have htop : (T.setVm s.vm).topJava?.isSome := X.here.top
  have hF : ((T.setVm s.vm).setFrames (.invoking m args :: below)).frames = .invoking m args :: below := State.frames_setFrames _ (State.cur_lt_of_top htop)
  obtain ⟨g₀, hg0⟩ := Option.isSome_iff_exists.mp htop
  obtain ⟨r, hr⟩ := State.topJava?_eq_some.mp hg0
  have hl9 : e.platform.stackLimits (T.setVm s.vm).me = e.platform.stackLimits s.me := X.limits
  have hb9 : (T.setVm s.vm).me.stackBytes = s.me.stackBytes := X.bytes
  refine ⟨X.admits, X.cas, X.clock, hF, ?_, X.hears, X.method, X.code, X.here, X.tail, X.warmed, ?_, ?_, ?_⟩
  · have h := X.room
    have hU : ((T.setVm s.vm).setFrames (.invoking m args :: below)).localsInUse = s.localsInUse := by
      rw [State.localsInUse_invoking hF (meth := meth) (c := c) X.method X.code, State.localsInUse_invoking X.frames X.method X.code]
    simp only [State.hasRoom, Bool.and_eq_true, decide_eq_true_eq] at h ⊢
    obtain ⟨⟨⟨⟨h1, h2, h3, h4, h5, h6⟩, h7⟩, h8⟩, h9⟩ := h
    rw [X.frames, List.length_cons] at h2 h3
    have q1 := X.heapSize
    have q2 := X.used
    simp only [hF, hU, List.length_cons, State.stackLimits_setFrames, State.stackBytes_setFrames, hl9, hb9]
    refine ⟨⟨⟨⟨by omega, by omega, by omega, by omega, by omega, h6⟩, ?_⟩, ?_⟩, X.book⟩
    · show T.heap.size + R'.cells ≤ e.platform.maxCells
      omega
    · show T.slotsUsed + R'.slots ≤ e.platform.maxSlots
      omega
  · rw [State.stackLimits_setFrames]; rfl
  · rw [State.stackBytes_setFrames]; rfl
  · refine ⟨?_, Nat.le_refl _, Nat.le_refl _, ?_, ?_, fun a c9 h9 => ⟨c9, h9, rfl, rfl, fun _ _ => rfl⟩⟩
    · obtain ⟨t, ht, -⟩ := State.frames_cons hr
      show T.setVm s.vm = { ((T.setVm s.vm).setFrames (.invoking m args :: below)).setFrames (T.setVm s.vm).frames with heap := T.heap, slotsUsed := T.slotsUsed }
      rw [State.setFrames_setFrames, State.setFrames_self ht]
      rfl
    · show T.slotsUsed = T.slotsUsed + ((T.heap.toList.drop T.heap.size).map (·.slots.size)).sum
      rw [List.drop_eq_nil_of_le (Nat.le_of_eq Array.length_toList)]
      rfl
    · show ((T.heap.toList.drop T.heap.size).map (·.slots.size)).sum ≤ 0
      rw [List.drop_eq_nil_of_le (Nat.le_of_eq Array.length_toList)]
      exact Nat.le_refl _
/-- 'throw new E()': new; dup; invokespecial; athrow -/
theorem vx_throw0 {cc : ByteArray} {pc : Nat} (hexec : p.tables.exec = Jvm.exec) (hb : c.code = cc) (hl : l.stackTraces = false) {own cls : String} {names : List String} {ik ic mc ms : Nat} {A : Nat → Prop}
    (hown : s.vm.findClass own = some m.cls) (hcls : Bundle.fit cls = true) (hnames : ∀ n ∈ names, Bundle.fit n = true)
    (hk : (Cond.classLink own ik cls).before args s = true) (hini : (Cond.initialized cls).before args s = true) (hat : ∀ w ∈ vx_at0 own ic cls names, w.before args s = true)
    (hgood : ∀ w ∈ Cond.classLink own ik cls :: Cond.initialized cls :: vx_at0 own ic cls names, vx_ot w = true)
    (hU : vx_Zq Bundle.tN "UNASSIGNED_STACK" Bundle.steD A s s.heap) (hN : vx_Zq Bundle.tN "SUPPRESSED_SENTINEL" Bundle.listD A s s.heap) (hS : va_S A s.heap H locs) (hsize : ls.size = c.maxLocals)
    (d0 : decode cc pc = .ok (.new ik, 3)) (d3 : decode cc (pc + 3) = .ok (.dup, 1)) (d4 : decode cc (pc + 4) = .ok (.invokespecial ic, 3)) (d7 : decode cc (pc + 7) = .ok (.athrow, 1))
    (hout : ∀ x ∈ c.exceptionTable.toList, covers x (pc + 7) = false)
    (hRframes : names.length + 3 < R.frames) (hRlocals : (rest.map fun v => v.category).sum + (13 * (names.length + 1) + 42) ≤ R.locals) (hRcells : cells + 1 ≤ R.cells) (hRslots : slots + 6 ≤ R.slots) (hlocks : meth.locks = false)
    (hx : ∀ t : State, s.vm.Alike t.vm → H.size ≤ t.heap.size → (∀ q : Nat, q < H.size → t.heap[q]? = H[q]?) → XC cls s t)
    (hf : ∀ z ∈ locs, free z.base) (hc : cells + 1 ≤ mc) (hs : slots + 6 ≤ ms) :
    W p l e R s m args below meth c H locs cells slots (vx_MQ below Qc XC args s mc ms free) (F0 m pc ls rest) := by
  intro T hT X
  have htr : e.platform.stackTraces = false := (show e.platform.stackTraces = l.stackTraces by rw [X.admits.platform]).trans hl
  have Y := vx_rebase X (R' := { frames := R.frames, locals := R.locals, cells := 1, slots := 6 }) (Nat.le_refl _) (Nat.le_refl _) hRcells hRslots
  obtain ⟨s', hA⟩ : ∃ z, z = (T.setVm s.vm).setFrames (.invoking m args :: below) := ⟨_, rfl⟩
  rw [← hA] at Y
  have hvm : s'.vm = s.vm := by rw [hA]; rfl
  have hhp : s'.heap = H := by rw [hA]; exact hT
  have hW0 : s.WarmedH s'.vm := by rw [hvm]; exact State.WarmedH.refl s
  have hat' : ∀ w ∈ vx_at0 own ic cls names, w.before args s' = true := fun w hw => vx_ot_at hW0 hvm.symm (hgood w (List.mem_cons_of_mem _ (List.mem_cons_of_mem _ hw))) (hat w hw)
  have hk' : (Cond.classLink own ik cls).before args s' = true := vx_ot_at hW0 hvm.symm (hgood _ List.mem_cons_self) hk
  have hini' : (Cond.initialized cls).before args s' = true := vx_ot_at hW0 hvm.symm (hgood _ (List.mem_cons_of_mem _ List.mem_cons_self)) hini
  have hU' : vx_Zq Bundle.tN "UNASSIGNED_STACK" Bundle.steD A s' s'.heap := by rw [hhp]; exact vx_Zq.moved hW0.alike (hU.kept hS.2.1)
  have hN' : vx_Zq Bundle.tN "SUPPRESSED_SENTINEL" Bundle.listD A s' s'.heap := by rw [hhp]; exact vx_Zq.moved hW0.alike (hN.kept hS.2.1)
  have h : ∀ w ∈ Bundle.ownAtoms0 own ic cls names, w.before args s' = true := vx_own hat' (vx_isRefq hU'.1) (vx_isRefq hN'.1) hU'.2.word hN'.2.word
  have hown' : s'.vm.findClass own = some m.cls := by rw [hvm]; exact hown
  have hins : (Cond.instantiable cls 6).before args s' = true := h _ (by simp [Bundle.ownAtoms0])
  obtain ⟨vm₁, cX, kX, hfX, hkX, -, -, X₁, st1⟩ := Y.newCold hexec (own := own) (C := cls) (index := ik) (n := 6) hown' hk' hins hini'
    (g := F0 m pc ls rest) rfl (by rw [hb]; exact d0) (Nat.le_refl _) (Nat.le_refl _)
  generalize hT1 : (T.setVm vm₁).pushCell { cls := cX, slots := kX.instanceTypes.map defaultValue, vm := .none } = T1 at X₁ st1
  have hcat : (Value.ref T.heap.size).category = 1 := rfl
  have hcellA : T1.heap[T.heap.size]? = some (freshCell cX kX) := by rw [← hT1]; exact State.heap_pushCell_size _ _
  have d3' : decode c.code (pc + 3) = .ok (.dup, 1) := by rw [hb]; exact d3
  obtain ⟨U, hsteps, hrun, hend, hW, hsame, ce, hce, hO⟩ := X₁.ctorThrow0 hexec htr (own := own) (cls := cls) (names := names) (ic := ic) hown' hcls hnames h (fun x hx => nomatch hx) hfX hkX hcellA (by rw [hhp, hT]; exact Nat.le_refl _)
    (g := { method := m, pc := pc + 4, locals := ls, stack := .ref T.heap.size :: .ref T.heap.size :: rest, locked := none }) rfl hsize rfl rfl (rest := rest) rfl
    (by rw [hb]; exact d4) (by rw [hb]; exact d7) hout hRframes (by simp only [List.map_cons, List.sum_cons, hcat]; omega) hlocks
  obtain ⟨f1, f2⟩ := vx_frame hsame
  rw [hhp] at f1 f2
  have hWs : s.WarmedH U.vm := State.WarmedH.trans hW0 hW
  have hcl : s.vm.findClass cls = some ce.cls := by
    have h9 := hO.cls
    rw [hvm] at h9
    exact h9
  have hall : s.sameButNew ({ U with vm := s.vm } : State) locs mc ms := by
    subst hA
    obtain ⟨e1, e2⟩ := hsame
    rw [State.setFrames_setFrames] at e1
    have h2 : (T.setVm s.vm).sameButNew ({ U with vm := s.vm } : State) [] (0 + 1) (0 + 6) := ⟨e1, e2⟩
    have h3 := X.same.trans h2
    rw [List.append_nil] at h3
    exact h3.mono hc hs
  refine ⟨U, ?_, .threw T.heap.size, hrun, hend, Or.inr ⟨T.heap.size, rfl, cls, ce, locs, hx U hWs.alike f1 (fun q hq => f2 q hq (fun z hz => nomatch hz)), hce, hO.vm, hcl, hWs, hall, hf⟩⟩
  refine st1 _ ?_
  show Steps p.tables e below (T1.setTop { method := m, pc := pc + 3, locals := ls, stack := .ref T.heap.size :: rest, locked := none }) _
  jvm_step X₁.here [X₁.here.top, hexec, d3', Value.category]
  exact hsteps
/-- 'throw new E("text")': new; dup; ldc; invokespecial; athrow -/
theorem vx_throwS {cc : ByteArray} {pc : Nat} (hexec : p.tables.exec = Jvm.exec) (hb : c.code = cc) (hl : l.stackTraces = false) {own cls text : String} {names : List String} {ik is ic mc ms sa : Nat} {A : Nat → Prop}
    (hown : s.vm.findClass own = some m.cls) (hcls : Bundle.fit cls = true) (hnames : ∀ n ∈ names, Bundle.fit n = true)
    (hk : (Cond.classLink own ik cls).before args s = true) (hini : (Cond.initialized cls).before args s = true) (hstr : vk_R own is text sa s) (hat : ∀ w ∈ vx_atS own ic cls names, w.before args s = true)
    (hgood : ∀ w ∈ Cond.classLink own ik cls :: Cond.initialized cls :: vx_atS own ic cls names, vx_ot w = true)
    (hU : vx_Zq Bundle.tN "UNASSIGNED_STACK" Bundle.steD A s s.heap) (hN : vx_Zq Bundle.tN "SUPPRESSED_SENTINEL" Bundle.listD A s s.heap) (hS : va_S A s.heap H locs) (hsize : ls.size = c.maxLocals)
    (d0 : decode cc pc = .ok (.new ik, 3)) (d3 : decode cc (pc + 3) = .ok (.dup, 1)) (d4 : decode cc (pc + 4) = .ok (.ldc is, 2)) (d6 : decode cc (pc + 6) = .ok (.invokespecial ic, 3)) (d9 : decode cc (pc + 9) = .ok (.athrow, 1))
    (hout : ∀ x ∈ c.exceptionTable.toList, covers x (pc + 9) = false)
    (hRframes : names.length + 3 < R.frames) (hRlocals : (rest.map fun v => v.category).sum + (13 * (names.length + 1) + 43) ≤ R.locals) (hRcells : cells + 1 ≤ R.cells) (hRslots : slots + 6 ≤ R.slots) (hlocks : meth.locks = false)
    (hx : ∀ t : State, s.vm.Alike t.vm → H.size ≤ t.heap.size → (∀ q : Nat, q < H.size → t.heap[q]? = H[q]?) → XC cls s t)
    (hf : ∀ z ∈ locs, free z.base) (hc : cells + 1 ≤ mc) (hs : slots + 6 ≤ ms) :
    W p l e R s m args below meth c H locs cells slots (vx_MQ below Qc XC args s mc ms free) (F0 m pc ls rest) := by
  intro T hT X
  have htr : e.platform.stackTraces = false := (show e.platform.stackTraces = l.stackTraces by rw [X.admits.platform]).trans hl
  have Y := vx_rebase X (R' := { frames := R.frames, locals := R.locals, cells := 1, slots := 6 }) (Nat.le_refl _) (Nat.le_refl _) hRcells hRslots
  obtain ⟨s', hA⟩ : ∃ z, z = (T.setVm s.vm).setFrames (.invoking m args :: below) := ⟨_, rfl⟩
  rw [← hA] at Y
  have hvm : s'.vm = s.vm := by rw [hA]; rfl
  have hhp : s'.heap = H := by rw [hA]; exact hT
  have hW0 : s.WarmedH s'.vm := by rw [hvm]; exact State.WarmedH.refl s
  have hat' : ∀ w ∈ vx_atS own ic cls names, w.before args s' = true := fun w hw => vx_ot_at hW0 hvm.symm (hgood w (List.mem_cons_of_mem _ (List.mem_cons_of_mem _ hw))) (hat w hw)
  have hk' : (Cond.classLink own ik cls).before args s' = true := vx_ot_at hW0 hvm.symm (hgood _ List.mem_cons_self) hk
  have hini' : (Cond.initialized cls).before args s' = true := vx_ot_at hW0 hvm.symm (hgood _ (List.mem_cons_of_mem _ List.mem_cons_self)) hini
  have hU' : vx_Zq Bundle.tN "UNASSIGNED_STACK" Bundle.steD A s' s'.heap := by rw [hhp]; exact vx_Zq.moved hW0.alike (hU.kept hS.2.1)
  have hN' : vx_Zq Bundle.tN "SUPPRESSED_SENTINEL" Bundle.listD A s' s'.heap := by rw [hhp]; exact vx_Zq.moved hW0.alike (hN.kept hS.2.1)
  have h : ∀ w ∈ Bundle.ownAtoms own ic cls names, w.before args s' = true := vx_own hat' (vx_isRefq hU'.1) (vx_isRefq hN'.1) hU'.2.word hN'.2.word
  have hown' : s'.vm.findClass own = some m.cls := by rw [hvm]; exact hown
  have hins : (Cond.instantiable cls 6).before args s' = true := h _ (by simp [Bundle.ownAtoms])
  obtain ⟨vm₁, cX, kX, hfX, hkX, -, -, X₁, st1⟩ := Y.newCold hexec (own := own) (C := cls) (index := ik) (n := 6) hown' hk' hins hini'
    (g := F0 m pc ls rest) rfl (by rw [hb]; exact d0) (Nat.le_refl _) (Nat.le_refl _)
  generalize hT1 : (T.setVm vm₁).pushCell { cls := cX, slots := kX.instanceTypes.map defaultValue, vm := .none } = T1 at X₁ st1
  have hcat : (Value.ref T.heap.size).category = 1 := rfl
  have hcellA : T1.heap[T.heap.size]? = some (freshCell cX kX) := by rw [← hT1]; exact State.heap_pushCell_size _ _
  have d3' : decode c.code (pc + 3) = .ok (.dup, 1) := by rw [hb]; exact d3
  have d4' : decode c.code (pc + 4) = .ok (.ldc is, 2) := by rw [hb]; exact d4
  have hstr' : vk_R own is text sa s' := vk_R.warm hW0 hstr
  obtain ⟨U, hsteps, hrun, hend, hW, hsame, ce, hce, hO⟩ := X₁.ctorThrowS hexec htr (own := own) (cls := cls) (names := names) (ic := ic) hown' hcls hnames h (fun x hx => nomatch hx) hfX hkX hcellA (by rw [hhp, hT]; exact Nat.le_refl _) (msg := .ref sa) rfl
    (g := { method := m, pc := pc + 6, locals := ls, stack := .ref sa :: .ref T.heap.size :: .ref T.heap.size :: rest, locked := none }) rfl hsize rfl rfl (rest := rest) rfl
    (by rw [hb]; exact d6) (by rw [hb]; exact d9) hout hRframes (by simp only [List.map_cons, List.sum_cons, hcat]; omega) hlocks
  obtain ⟨f1, f2⟩ := vx_frame hsame
  rw [hhp] at f1 f2
  have hWs : s.WarmedH U.vm := State.WarmedH.trans hW0 hW
  have hcl : s.vm.findClass cls = some ce.cls := by
    have h9 := hO.cls
    rw [hvm] at h9
    exact h9
  have hall : s.sameButNew ({ U with vm := s.vm } : State) locs mc ms := by
    subst hA
    obtain ⟨e1, e2⟩ := hsame
    rw [State.setFrames_setFrames] at e1
    have h2 : (T.setVm s.vm).sameButNew ({ U with vm := s.vm } : State) [] (0 + 1) (0 + 6) := ⟨e1, e2⟩
    have h3 := X.same.trans h2
    rw [List.append_nil] at h3
    exact h3.mono hc hs
  refine ⟨U, ?_, .threw T.heap.size, hrun, hend, Or.inr ⟨T.heap.size, rfl, cls, ce, locs, hx U hWs.alike f1 (fun q hq => f2 q hq (fun z hz => nomatch hz)), hce, hO.vm, hcl, hWs, hall, hf⟩⟩
  refine st1 _ ?_
  show Steps p.tables e below (T1.setTop { method := m, pc := pc + 3, locals := ls, stack := .ref T.heap.size :: rest, locked := none }) _
  jvm_step X₁.here [X₁.here.top, hexec, d3', Value.category]
  exact X₁.ldcString hexec (own := own) (text := text) (index := is) (a := sa) hown' hstr'.1 hstr'.2
    (g := { method := m, pc := pc + 4, locals := ls, stack := .ref T.heap.size :: .ref T.heap.size :: rest, locked := none }) rfl d4' _ hsteps
/-- 'throw new E("text")', the text by a wide index -/
theorem vx_throwSW {cc : ByteArray} {pc : Nat} (hexec : p.tables.exec = Jvm.exec) (hb : c.code = cc) (hl : l.stackTraces = false) {own cls text : String} {names : List String} {ik is ic mc ms sa : Nat} {A : Nat → Prop}
    (hown : s.vm.findClass own = some m.cls) (hcls : Bundle.fit cls = true) (hnames : ∀ n ∈ names, Bundle.fit n = true)
    (hk : (Cond.classLink own ik cls).before args s = true) (hini : (Cond.initialized cls).before args s = true) (hstr : vk_R own is text sa s) (hat : ∀ w ∈ vx_atS own ic cls names, w.before args s = true)
    (hgood : ∀ w ∈ Cond.classLink own ik cls :: Cond.initialized cls :: vx_atS own ic cls names, vx_ot w = true)
    (hU : vx_Zq Bundle.tN "UNASSIGNED_STACK" Bundle.steD A s s.heap) (hN : vx_Zq Bundle.tN "SUPPRESSED_SENTINEL" Bundle.listD A s s.heap) (hS : va_S A s.heap H locs) (hsize : ls.size = c.maxLocals)
    (d0 : decode cc pc = .ok (.new ik, 3)) (d3 : decode cc (pc + 3) = .ok (.dup, 1)) (d4 : decode cc (pc + 4) = .ok (.ldc_w is, 3)) (d7 : decode cc (pc + 7) = .ok (.invokespecial ic, 3)) (d10 : decode cc (pc + 10) = .ok (.athrow, 1))
    (hout : ∀ x ∈ c.exceptionTable.toList, covers x (pc + 10) = false)
    (hRframes : names.length + 3 < R.frames) (hRlocals : (rest.map fun v => v.category).sum + (13 * (names.length + 1) + 43) ≤ R.locals) (hRcells : cells + 1 ≤ R.cells) (hRslots : slots + 6 ≤ R.slots) (hlocks : meth.locks = false)
    (hx : ∀ t : State, s.vm.Alike t.vm → H.size ≤ t.heap.size → (∀ q : Nat, q < H.size → t.heap[q]? = H[q]?) → XC cls s t)
    (hf : ∀ z ∈ locs, free z.base) (hc : cells + 1 ≤ mc) (hs : slots + 6 ≤ ms) :
    W p l e R s m args below meth c H locs cells slots (vx_MQ below Qc XC args s mc ms free) (F0 m pc ls rest) := by
  intro T hT X
  have htr : e.platform.stackTraces = false := (show e.platform.stackTraces = l.stackTraces by rw [X.admits.platform]).trans hl
  have Y := vx_rebase X (R' := { frames := R.frames, locals := R.locals, cells := 1, slots := 6 }) (Nat.le_refl _) (Nat.le_refl _) hRcells hRslots
  obtain ⟨s', hA⟩ : ∃ z, z = (T.setVm s.vm).setFrames (.invoking m args :: below) := ⟨_, rfl⟩
  rw [← hA] at Y
  have hvm : s'.vm = s.vm := by rw [hA]; rfl
  have hhp : s'.heap = H := by rw [hA]; exact hT
  have hW0 : s.WarmedH s'.vm := by rw [hvm]; exact State.WarmedH.refl s
  have hat' : ∀ w ∈ vx_atS own ic cls names, w.before args s' = true := fun w hw => vx_ot_at hW0 hvm.symm (hgood w (List.mem_cons_of_mem _ (List.mem_cons_of_mem _ hw))) (hat w hw)
  have hk' : (Cond.classLink own ik cls).before args s' = true := vx_ot_at hW0 hvm.symm (hgood _ List.mem_cons_self) hk
  have hini' : (Cond.initialized cls).before args s' = true := vx_ot_at hW0 hvm.symm (hgood _ (List.mem_cons_of_mem _ List.mem_cons_self)) hini
  have hU' : vx_Zq Bundle.tN "UNASSIGNED_STACK" Bundle.steD A s' s'.heap := by rw [hhp]; exact vx_Zq.moved hW0.alike (hU.kept hS.2.1)
  have hN' : vx_Zq Bundle.tN "SUPPRESSED_SENTINEL" Bundle.listD A s' s'.heap := by rw [hhp]; exact vx_Zq.moved hW0.alike (hN.kept hS.2.1)
  have h : ∀ w ∈ Bundle.ownAtoms own ic cls names, w.before args s' = true := vx_own hat' (vx_isRefq hU'.1) (vx_isRefq hN'.1) hU'.2.word hN'.2.word
  have hown' : s'.vm.findClass own = some m.cls := by rw [hvm]; exact hown
  have hins : (Cond.instantiable cls 6).before args s' = true := h _ (by simp [Bundle.ownAtoms])
  obtain ⟨vm₁, cX, kX, hfX, hkX, -, -, X₁, st1⟩ := Y.newCold hexec (own := own) (C := cls) (index := ik) (n := 6) hown' hk' hins hini'
    (g := F0 m pc ls rest) rfl (by rw [hb]; exact d0) (Nat.le_refl _) (Nat.le_refl _)
  generalize hT1 : (T.setVm vm₁).pushCell { cls := cX, slots := kX.instanceTypes.map defaultValue, vm := .none } = T1 at X₁ st1
  have hcat : (Value.ref T.heap.size).category = 1 := rfl
  have hcellA : T1.heap[T.heap.size]? = some (freshCell cX kX) := by rw [← hT1]; exact State.heap_pushCell_size _ _
  have d3' : decode c.code (pc + 3) = .ok (.dup, 1) := by rw [hb]; exact d3
  have d4' : decode c.code (pc + 4) = .ok (.ldc_w is, 3) := by rw [hb]; exact d4
  have hstr' : vk_R own is text sa s' := vk_R.warm hW0 hstr
  obtain ⟨U, hsteps, hrun, hend, hW, hsame, ce, hce, hO⟩ := X₁.ctorThrowS hexec htr (own := own) (cls := cls) (names := names) (ic := ic) hown' hcls hnames h (fun x hx => nomatch hx) hfX hkX hcellA (by rw [hhp, hT]; exact Nat.le_refl _) (msg := .ref sa) rfl
    (g := { method := m, pc := pc + 7, locals := ls, stack := .ref sa :: .ref T.heap.size :: .ref T.heap.size :: rest, locked := none }) rfl hsize rfl rfl (rest := rest) rfl
    (by rw [hb]; exact d7) (by rw [hb]; exact d10) hout hRframes (by simp only [List.map_cons, List.sum_cons, hcat]; omega) hlocks
  obtain ⟨f1, f2⟩ := vx_frame hsame
  rw [hhp] at f1 f2
  have hWs : s.WarmedH U.vm := State.WarmedH.trans hW0 hW
  have hcl : s.vm.findClass cls = some ce.cls := by
    have h9 := hO.cls
    rw [hvm] at h9
    exact h9
  have hall : s.sameButNew ({ U with vm := s.vm } : State) locs mc ms := by
    subst hA
    obtain ⟨e1, e2⟩ := hsame
    rw [State.setFrames_setFrames] at e1
    have h2 : (T.setVm s.vm).sameButNew ({ U with vm := s.vm } : State) [] (0 + 1) (0 + 6) := ⟨e1, e2⟩
    have h3 := X.same.trans h2
    rw [List.append_nil] at h3
    exact h3.mono hc hs
  refine ⟨U, ?_, .threw T.heap.size, hrun, hend, Or.inr ⟨T.heap.size, rfl, cls, ce, locs, hx U hWs.alike f1 (fun q hq => f2 q hq (fun z hz => nomatch hz)), hce, hO.vm, hcl, hWs, hall, hf⟩⟩
  refine st1 _ ?_
  show Steps p.tables e below (T1.setTop { method := m, pc := pc + 3, locals := ls, stack := .ref T.heap.size :: rest, locked := none }) _
  jvm_step X₁.here [X₁.here.top, hexec, d3', Value.category]
  exact X₁.ldcStringW hexec (own := own) (text := text) (index := is) (a := sa) hown' hstr'.1 hstr'.2
    (g := { method := m, pc := pc + 4, locals := ls, stack := .ref T.heap.size :: .ref T.heap.size :: rest, locked := none }) rfl d4' _ hsteps
end Ends
section Bodies
variable {l : Launch}
theorem vx_ofW {y : MethodName} {ws ws' : List Cond} {rm : Room} {Pc : Array Value → State → Prop} {Qc : Array Value → State → Outcome → State → Prop} {XC : String → State → State → Prop} {mc ms : Nat} {free : Addr → Prop} {cc : ByteArray} {maxL : Nat} {ret : Option FieldType}
    (hy : plainName y.cls = true) (hw : ws = Cond.code y cc maxL ret :: ws')
    (body : ∀ p e s m args below meth c s₁, BodyLoose p l y (headSpec ws rm) cc maxL ret e s m args below meth c s₁ → c.maxLocals = maxL → (∀ x ∈ c.exceptionTable.toList, False) → Pc args s →
      W p l e (headSpec ws rm).room s m args below meth c s.heap [] 0 0 (vx_MQ below Qc XC args s mc ms free) (entryFrame m args maxL)) : vx_Met l y ws rm Pc Qc XC mc ms free := by
  refine MetFree.of_bodyS (code := cc) (maxLocals := maxL) (ret := ret) hy ?_ ?_
  · intro args s m h hn
    obtain ⟨meth, c, h1, h2, h3, h4, h5, h6, -, -⟩ := Cond.code_spec hn (atoms_spec (ws := ws) h _ (by rw [hw]; exact List.mem_cons_self))
    exact ⟨meth, c, h1, h2, h3, h4, h5, h6⟩
  · intro p e s m args below meth c s₁ B hml hP _
    have hh0 : s₁.heap = s.heap := by rw [B.state]; rfl
    have ht : ∀ x ∈ c.exceptionTable.toList, False := by
      obtain ⟨meth9, c9, h1, h2, -, -, -, -, h7, -⟩ := Cond.code_spec B.named (atoms_spec (ws := ws) B.pre _ (by rw [hw]; exact List.mem_cons_self))
      cases Option.some.inj (h1.symm.trans B.method)
      cases Option.some.inj (h2.symm.trans (Stand.of_body B).code)
      intro x hx
      rw [Array.isEmpty_iff.mp h7] at hx
      cases hx
    obtain ⟨t, a1, o, b1, b2, b3⟩ := body p e s m args below meth c s₁ B hml ht hP s₁ hh0 (Stand.of_body B)
    exact ⟨t, o, a1, b1, b2, b3⟩
/-- the table of a body with handlers -/
theorem vx_table {p : Program} {x y : MethodName} {S : Spec} {cc bytes : ByteArray} {maxL maxL' : Nat} {ret ret' : Option FieldType} {e : Env} {s s₁ : State} {m : MethodId} {args : Array Value} {below : List Frame} {meth : Method} {c : Code} {hh : List (Nat × Nat × Nat × Nat)}
    (B : BodyLoose p l y S cc maxL ret e s m args below meth c s₁) (h : (Cond.codeWith y bytes maxL' ret' hh).before args s = true) : c.exceptionTable.toList = tableOf hh := by
  obtain ⟨m9, meth9, c9, hn9, h1, h2, -, -, h6, -⟩ := Cond.codeWith_spec h
  cases Option.some.inj (hn9.symm.trans B.named)
  cases Option.some.inj (h1.symm.trans B.method)
  cases Option.some.inj (h2.symm.trans (Stand.of_body B).code)
  rw [← h6, table_eq]
end Bodies
end VXA
/-! ===== END ===== -/
/-! ===== BEGIN a static call of a method with an exception table ===== -/
section VXS
variable {p : Program} {l : Launch} {e : Env} {R : Room} {s : State} {m : MethodId} {args : Array Value} {below : List Frame} {meth : Method} {c : Code} {T : State} {H : Heap} {locs : List Loc} {cells slots : Nat}
abbrev vx_CSW (R : Room) (s : State) (args : Array Value) (own : String) (index : Nat) (y : MethodName) (bytes : ByteArray) (maxL : Nat) (ret : Option FieldType) (hh : List (Nat × Nat × Nat × Nat)) (ws : List Cond) (rm : Room) (mc ms n : Nat) : Prop :=
  (rm.cells = mc ∧ rm.slots = ms ∧ rm.frames + 1 ≤ R.frames ∧ 8 + (maxL + 11) + rm.locals ≤ R.locals ∧ (∀ w ∈ ws, ∀ (a' : Array Value) (U : State), s.WarmedH U.vm → w.before a' U = true) ∧ Cond.codeWith y bytes maxL ret hh ∈ ws) ∧
  (Cond.codeWith y bytes maxL ret hh).before args s = true ∧ (Cond.initialized y.cls).before args s = true ∧ (y.cls ≠ "java/lang/invoke/MethodHandle" ∧ y.cls ≠ "java/lang/invoke/VarHandle") ∧
  (∀ sig, parseMethodDescriptor y.desc = some sig → n = sig.parameters.length) ∧ (Cond.methodLink own index y).before args s = true ∧ (Cond.static y).before args s = true
theorem vx_cwSW {own : String} {index maxL mc ms : Nat} {y : MethodName} {bytes : ByteArray} {ret : Option FieldType} {hh : List (Nat × Nat × Nat × Nat)} {Ts ws ws' : List Cond} {rm : Room} (n : Nat) (ht : ∀ w ∈ Ts, w.before args s = true) (hT : GoodIn Ts (va_wsS own index y ws)) (hw : ws = Cond.codeWith y bytes maxL ret hh :: ws') (hrc : rm.cells = mc) (hrs : rm.slots = ms)
    (hd : y.cls ≠ "java/lang/invoke/MethodHandle" ∧ y.cls ≠ "java/lang/invoke/VarHandle" ∧ (parseMethodDescriptor y.desc).map (fun d => d.parameters.length) = some n) (hR : rm.frames + 1 ≤ R.frames ∧ 8 + (maxL + 11) + rm.locals ≤ R.locals) :
    vx_CSW R s args own index y bytes maxL ret hh ws rm mc ms n := by
  have ok : ∀ w ∈ va_wsS own index y ws, w.before args s = true := fun w h => ht w (hT w h).1
  have hG : GoodIn Ts ws := fun w h => hT w (by unfold va_wsS; exact List.mem_append_right _ h)
  have hc : Cond.codeWith y bytes maxL ret hh ∈ ws := by rw [hw]; exact List.mem_cons_self
  refine ⟨⟨hrc, hrs, hR.1, hR.2, pay_in ht hG, hc⟩, ht _ (hG _ hc).1, ok _ (by simp [va_wsS]), ⟨hd.1, hd.2.1⟩, fun sig h => ?_, ok _ (by simp [va_wsS]), ok _ (by simp [va_wsS])⟩
  have h2 := hd.2.2
  rw [h] at h2
  exact (Option.some.inj h2).symm
theorem vx_callSW (X : Stand p l e R s m args below meth c T locs cells slots) (hexec : p.tables.exec = Jvm.exec) {own : String} {index : Nat} {y : MethodName} {bytes : ByteArray} {maxL : Nat} {ret : Option FieldType} {hh : List (Nat × Nat × Nat × Nat)}
    (hown : s.vm.findClass own = some m.cls) (hlink : (Cond.methodLink own index y).before args s = true) (hstat : (Cond.static y).before args s = true) (hinit : (Cond.initialized y.cls).before args s = true)
    (hcode : (Cond.codeWith y bytes maxL ret hh).before args s = true) (hy : y.cls ≠ "java/lang/invoke/MethodHandle" ∧ y.cls ≠ "java/lang/invoke/VarHandle")
    {W9 : Nat} {Pre : Pt → Array Value → Prop} {Post : Pt → Array Value → Option Value → Pt → Prop} (hK : Back l R p e below s args y 3 W9 Pre Post)
    {g : JFrame} (hg : g.method = m) (hsize : g.locals.size = c.maxLocals) {argsL rest : List Value} (hlen : ∀ sig, parseMethodDescriptor y.desc = some sig → argsL.length = sig.parameters.length)
    (hstack : g.stack = argsL.reverse ++ rest) (hW : 2 * g.monitorRoom + (rest.map fun v => v.category).sum ≤ W9) (hdg : decode c.code g.pc = .ok (.invokestatic index, 3))
    (hpre : ∀ vm₁, s.WarmedH vm₁ → Pre ⟨T.setVm vm₁, locs, cells, slots⟩ argsL.toArray) :
    ∃ (v : Option Value) (vm₁ : Vm) (B : Pt), s.WarmedH vm₁ ∧ Stand p l e R s m args below meth c B.U B.locs B.cells B.slots ∧ Post ⟨T.setVm vm₁, locs, cells, slots⟩ argsL.toArray v B ∧
      ∀ target, Steps p.tables e below (B.U.setTop { g with pc := g.pc + 3, stack := v.toList ++ rest }) target → Steps p.tables e below (T.setTop g) target := by
  obtain ⟨mk, methM, cM, hnamed, hmethM, -, -, -, -, -, -, hsigM⟩ := Cond.codeWith_spec hcode
  have hstatic : methM.isStatic = true := Cond.static_spec hnamed hmethM hstat
  obtain ⟨kP, hkP, -⟩ := className_of_methodNamed hnamed
  have hinitP : kP.init = .initialized := Cond.initialized_spec (findClass_of_methodNamed hnamed) hkP hinit
  obtain ⟨vm₁, X₁, hstep₁⟩ := X.invokestatic hexec hown hlink hnamed hmethM hstatic hkP hinitP hy (g := g) hg (argsL := argsL) (rest := rest) (hlen _ hsigM) hstack hdg
  obtain ⟨v, B, X', hpost, hsteps⟩ := hK m meth c ⟨T.setVm vm₁, locs, cells, slots⟩ { g with stack := rest } (.invokestatic index) mk argsL.toArray X₁ hg hsize hdg hW (X₁.named hnamed) (hpre vm₁ X₁.warmed)
  exact ⟨v, vm₁, B, X₁.warmed, X', hpost, fun target h => hstep₁ _ fun acts => by rw [doInvoke_state]; exact hsteps.trans h⟩
theorem vx_runSW {y : MethodName} {bytes cc : ByteArray} {maxL nL mc ms n index : Nat} {ret : Option FieldType} {hh : List (Nat × Nat × Nat × Nat)} {ws : List Cond} {rm : Room} {Pc : Array Value → State → Prop} {Qc : Array Value → State → Outcome → State → Prop} {free : Addr → Prop} {Ts : List Cond} {own : String} {As rest : List Value} {g : JFrame}
    (S : CallFix p m c cc nL s args Ts own) (hM : Met l y ws rm Pc Qc mc ms free) (cw : vx_CSW R s args own index y bytes maxL ret hh ws rm mc ms n) (hp : PreS s H Pc As)
    (hg : g.method = m) (hn : As.length = n) (hsize : g.locals.size = nL) (hstack : g.stack = As.reverse ++ rest) (hW : 2 * g.monitorRoom + (rest.map fun v => v.category).sum ≤ 8) (hdg : decode cc g.pc = .ok (.invokestatic index, 3)) (hf : cells + mc ≤ R.cells ∧ slots + ms ≤ R.slots) :
    va_Run p l e R s m args below meth c H locs cells slots mc ms g rest (Qc As.toArray) (free) := by
  obtain ⟨⟨hrc, hrs, hfr, hlo, hws, hcw⟩, hcode, hini, hy, hlen, hl, hstt⟩ := cw
  have hK : Back l R p e below s args y 3 8 (PreOf R mc ms Pc) (PostOf Qc mc ms free) := va_backW (hh := hh) (bytes := bytes) (maxL := maxL) (ret := ret) hM hp.1 hrc hrs hfr hlo hws hcw (fun a' U hW => word_at hW (Or.inl (by first | rfl | simp [Cond.onTables, Cond.keeps, Cond.steady])) hini)
  obtain ⟨hx, hb, hml, ho, -⟩ := S
  intro T hT X
  obtain ⟨v, vm₁, ⟨U', l2, c2, s2⟩, hW₁, X', ⟨g', mk, t, L, e1, e2, hq, h1, hL, h2, h3⟩, st⟩ := vx_callSW X hx (hh := hh) (bytes := bytes) (maxL := maxL) (ret := ret) ho hl hstt hini hcode hy hK hg (hsize.trans hml.symm) (argsL := As) (rest := rest) (fun sig h => hn.trans (hlen sig h)) hstack hW (by rw [hb]; exact hdg)
    (fun vm₁ hW₁ => ⟨hf.1, hf.2, hp.2 (T.setVm vm₁) hT hW₁⟩)
  dsimp only [Pt.U, Pt.locs, Pt.cells, Pt.slots] at X' e1 e2 h1 h2 h3 st
  subst h1; subst h2; subst h3
  exact ⟨v, (T.setVm vm₁).calling g' mk As.toArray, t, U', L, hT, X', hL, e1, e2, hq, st⟩
/-- not caught here, past rows that name other classes: it goes on to the caller -/
theorem vx_outP {p : Program} {l : Launch} {e : Env} {R : Room} {s : State} {m : MethodId} {args : Array Value} {below : List Frame} {meth : Method} {c : Code} {H : Heap} {locs : List Loc} {cells slots : Nat} {free : Addr → Prop} {ls : Array Slot} {rest : List Value} {Qc : Array Value → State → Outcome → State → Prop} {XC : String → State → State → Prop}
    {pc : Nat} {own E : String} {ce : Cell} {q : Addr} {mc ms : Nat} (hown : s.vm.findClass own = some m.cls) (hlocks : meth.locks = false)
    (hpass : ∀ z ∈ c.exceptionTable.toList, covers z pc = false ∨ (z.catchType ≠ 0 ∧ ∃ nm : String, (Cond.classLink own z.catchType nm).before args s = true ∧ va_Nc E nm s)) (hcell : H[q]? = some ce) (hv : ce.vm = .none) (hcl : s.vm.findClass E = some ce.cls)
    (hx : ∀ t : State, t.heap = H → s.vm.Alike t.vm → XC E s t) (hf : ∀ z ∈ locs, free z.base) (hc : cells ≤ mc) (hs : slots ≤ ms) :
    vx_W p l e R s m args below meth c H locs cells slots (vx_MQ below Qc XC args s mc ms free) (F0 m pc ls rest) q := by
  intro T hT X
  have hpl : e.platform.magicAccessors = ({} : Platform).magicAccessors := by rw [X.admits.platform]
  obtain ⟨vm', hW', X', st⟩ := X.outThrough hlocks q (g := F0 m pc ls rest) rfl rfl rfl (cell := ce) (by rw [hT]; exact hcell) (by rw [hv]; rfl)
    (by obtain ⟨k9, h9, -⟩ := Vm.findClass_spec hcl; exact ⟨k9, h9⟩) (fun z hz => by
      rcases hpass z hz with h | ⟨hz0, nm, hl1, hn1⟩
      · exact Or.inl h
      · obtain ⟨c6, hc6, hcl6⟩ := Cond.classLink_spec hown hl1 e.platform hpl
        obtain ⟨a8, b8, h1, h2, h3⟩ := hn1
        cases Option.some.inj (h1.symm.trans hcl)
        cases Option.some.inj (h2.symm.trans hc6)
        exact Or.inr ⟨hz0, _, hcl6, h3⟩)
  obtain ⟨g₀, hfr⟩ := X'.frames_eq
  have hcell9 : ((T.setVm vm').setFrames (.throwing q :: below)).heap[q]? = some ce := by
    show T.heap[q]? = some ce
    rw [hT]; exact hcell
  have hend : Ended ((T.setVm vm').setFrames (.throwing q :: below)) below (.threw q) := State.frames_setFrames _ (State.cur_lt_of_frames hfr)
  refine ⟨(T.setVm vm').setFrames (.throwing q :: below), ?_, .threw q, X'.here.running, hend, Or.inr ⟨q, rfl, E, ce, locs, hx _ hT (X'.ends _).1.alike, hcell9, hv, hcl, (X'.ends _).1, (X'.ends _).2.mono hc hs, hf⟩⟩
  rw [X.pushThrowing_eq]
  exact st
/-- a thing of a world lies in the heap -/
theorem vx_lt {D : va_G} {cl : List vw_C} {ws : va_W} {H1 : Heap} (h : va_P D cl ws H1) {k : Nat} {q : Nat × va_E} (hk : ws[k]? = some q) : q.1 < H1.size := (h k q hk).lt
end VXS
/-! ===== END ===== -/
/-! ===== BEGIN methods with a table of their own: called by a name, returning or throwing ===== -/
section VXH
/-! vx_backW, vx_callVX, vx_callSX, vx_callVW, vx_runVW, vx_runVX, vx_runSX, vx_ofWH follow the same proofs as their sisters above (Free/Laws.lean, Shelf42/LK1.lean); vx_outP calls Shelf42/NT130.lean (outThrough). -/
section
variable {l : Launch} {R : Room} {p : Program} {e : Env} {below : List Frame} {s : State} {sargs : Array Value} {y : MethodName} {len W9 : Nat}
theorem vx_backW {ws : List Cond} {rm : Room} {Pc : Array Value → State → Prop} {Qc : Array Value → State → Outcome → State → Prop} {XC : String → State → State → Prop} {mc ms : Nat} {free : Addr → Prop} {bytes : ByteArray} {maxL : Nat} {ret : Option FieldType} {hh : List (Nat × Nat × Nat × Nat)}
    (hM : vx_Met l y ws rm Pc Qc XC mc ms free) (hblind : FrameBlind Pc) (hrc : rm.cells = mc) (hrs : rm.slots = ms)
    (hframes : rm.frames + 1 ≤ R.frames) (hlocals : W9 + (maxL + 11) + rm.locals ≤ R.locals)
    (hws : ∀ w ∈ ws, ∀ a' U, s.WarmedH U.vm → w.before a' U = true) (hcode : Cond.codeWith y bytes maxL ret hh ∈ ws) (hinit : ∀ a' U, s.WarmedH U.vm → (Cond.initialized y.cls).before a' U = true) :
    vx_Back l R p e below s sargs y len W9 (PreOf R mc ms Pc) (PostOf Qc mc ms free) (vx_Post XC mc ms free) := by
  intro m meth c A g ig mk a X hg hsize hdg hW hn hp
  have h1 : (headSpec ws rm).pre.before a A.U = true := atoms_intro fun w hw => hws w hw _ _ X.warmed
  have h2 : (Cond.codeWith y bytes maxL ret hh).before a A.U = true := hws _ hcode _ _ X.warmed
  have h3 : (Cond.initialized y.cls).before a A.U = true := hinit _ _ X.warmed
  have h4 : A.cells + (headSpec ws rm).room.cells ≤ R.cells := by rw [show (headSpec ws rm).room.cells = mc from hrc]; exact hp.1
  have h5 : A.slots + (headSpec ws rm).room.slots ≤ R.slots := by rw [show (headSpec ws rm).room.slots = ms from hrs]; exact hp.2.1
  have hPc : Pc a (A.U.calling g mk a) := hblind _ _ _ _ hp.2.2
  obtain ⟨U, Ls, c0, s0⟩ := A
  dsimp only [Pt.U, Pt.locs, Pt.cells, Pt.slots] at h1 h2 h3 h4 h5 X hn hPc ⊢
  obtain ⟨m9, methY, cY, hn9, hmY, hcY, -, hlY, -⟩ := Cond.codeWith_spec h2
  cases Option.some.inj (hn9.symm.trans hn)
  obtain ⟨kY, hkY, -⟩ := className_of_methodNamed hn
  have hinitY : kY.init = .initialized := Cond.initialized_spec (findClass_of_methodNamed hn) hkY h3
  have h : At U g.method c below := by rw [hg]; exact X.here
  have hlocals9 : W9 + (maxL + 11) + (headSpec ws rm).room.locals ≤ R.locals := hlocals
  have happ : (headSpec ws rm).appliesLoose y e.platform (U.calling g mk a) = true :=
    Spec.appliesLoose_calling (g := g) h hdg hn hkY hinitY
      (X.room_calling (g := g) (R' := (headSpec ws rm).room) hsize hmY hcY hframes (by rw [hlY]; omega) h4 h5) h1
  obtain ⟨mid, hmid⟩ := h.above
  have hfr : (U.setTop g).frames = (.java g :: mid) ++ below := by rw [State.frames_setTop' g h.top, hmid]; rfl
  obtain ⟨o, s₂, hsteps, -, hend, hq⟩ := Steps.callFree hM p X.admits X.cas X.clock (acts := []) hfr happ hPc trivial
  have hq' : vx_Q Qc XC mc ms free a (U.calling g mk a) o s₂ := hq
  rw [State.frames_setTop' g h.top] at hend
  obtain ⟨g₀, hg0⟩ := Option.isSome_iff_exists.mp h.top
  obtain ⟨r, hr⟩ := State.topJava?_eq_some.mp hg0
  have hr' : (({ U with heap := s₂.heap, slotsUsed := s₂.slotsUsed } : State).setVm s₂.vm).frames = .java g₀ :: r := hr
  rcases hq' with ⟨hqc, L, hfe, hL⟩ | ⟨q, rfl, E, ce, L, hx, hce, hcv, hcl, hW₂, hsm, hL⟩
  · obtain ⟨⟨v, rfl⟩, hW₂, e2, q2, q3, q4, q5, q6⟩ := id hfe
    have e3 : s₂ = ({ (U.calling g mk a).setFrames s₂.frames with heap := s₂.heap, slotsUsed := s₂.slotsUsed } : State).setVm s₂.vm := by
      have : s₂ = ({ s₂ with vm := (U.calling g mk a).vm } : State).setVm s₂.vm := rfl
      rw [e2] at this
      exact this
    obtain ⟨c₂, i₂, len₂, hc₂, hd₂, hf₂⟩ := hend
    have hW' : U.WarmedH s₂.vm := hW₂
    have hcc : c₂ = c := by
      have h1 : s₂.code? g.method = U.code? g.method := by
        rw [State.code?_eq, State.code?_eq, hW'.alike.method?]
      exact Option.some.inj (hc₂.symm.trans (h1.trans h.code))
    subst hcc
    have hlen : len₂ = len := by rw [hdg] at hd₂; cases hd₂; rfl
    subst hlen
    have hs₂ : s₂ = (({ U with heap := s₂.heap, slotsUsed := s₂.slotsUsed } : State).setVm s₂.vm).setTop { g with pc := g.pc + len₂, stack := v.toList ++ g.stack } := by
      refine e3.trans ?_
      rw [hf₂, State.calling_eq h.top, State.setFrames_setFrames, State.setTop_of_frames _ hr', hr]
      rfl
    have hsame : U.sameButNew ({ U with heap := s₂.heap, slotsUsed := s₂.slotsUsed } : State) L mc ms := by
      refine ⟨?_, q2, q3, q4, q5, q6⟩
      obtain ⟨t, ht, -⟩ := State.frames_cons hr
      show ({ U with heap := s₂.heap, slotsUsed := s₂.slotsUsed } : State) = { U.setFrames U.frames with heap := s₂.heap, slotsUsed := s₂.slotsUsed }
      rw [State.setFrames_self ht]
    subst hg
    refine Or.inl ⟨v, ⟨(({ U with heap := s₂.heap, slotsUsed := s₂.slotsUsed } : State).setVm s₂.vm), Ls ++ L, c0 + mc, s0 + ms⟩,
      ⟨X.admits, X.cas, X.clock, X.frames, X.room, X.hears, X.method, X.code, (X.here.setHeapUsed s₂.heap s₂.slotsUsed).setVm hW'.alike, X.tail, State.WarmedH.trans X.warmed hW', X.limits, X.bytes, X.same.trans (hsame.setVm s.vm)⟩,
      ⟨g, mk, s₂, L, rfl, rfl, hqc, rfl, hL, rfl, rfl⟩, ?_⟩
    show Steps p.tables e below _ ((({ U with heap := s₂.heap, slotsUsed := s₂.slotsUsed } : State).setVm s₂.vm).setTop { g with pc := g.pc + len₂, stack := v.toList ++ g.stack })
    rw [← hs₂]
    exact hsteps
  · obtain ⟨e2, q2, q3, q4, q5, q6⟩ := id hsm
    have e3 : s₂ = ({ (U.calling g mk a).setFrames s₂.frames with heap := s₂.heap, slotsUsed := s₂.slotsUsed } : State).setVm s₂.vm := by
      have : s₂ = ({ s₂ with vm := (U.calling g mk a).vm } : State).setVm s₂.vm := rfl
      rw [e2] at this
      exact this
    have hf₂ : s₂.frames = .throwing q :: .java g :: U.frames.tail := hend
    have hW' : U.WarmedH s₂.vm := hW₂
    have hs₂ : s₂ = ((({ U with heap := s₂.heap, slotsUsed := s₂.slotsUsed } : State).setVm s₂.vm).setTop g).pushFrame (.throwing q) := by
      refine e3.trans ?_
      rw [hf₂, State.calling_eq h.top, State.setFrames_setFrames, State.pushFrame, State.frames_setTop _ hr', State.setTop_of_frames _ hr', State.setFrames_setFrames, hr]
      rfl
    have hsame : U.sameButNew ({ U with heap := s₂.heap, slotsUsed := s₂.slotsUsed } : State) L mc ms := by
      refine ⟨?_, q2, q3, q4, q5, q6⟩
      obtain ⟨t, ht, -⟩ := State.frames_cons hr
      show ({ U with heap := s₂.heap, slotsUsed := s₂.slotsUsed } : State) = { U.setFrames U.frames with heap := s₂.heap, slotsUsed := s₂.slotsUsed }
      rw [State.setFrames_self ht]
    subst hg
    refine Or.inr ⟨q, ⟨(({ U with heap := s₂.heap, slotsUsed := s₂.slotsUsed } : State).setVm s₂.vm), Ls ++ L, c0 + mc, s0 + ms⟩,
      ⟨X.admits, X.cas, X.clock, X.frames, X.room, X.hears, X.method, X.code, (X.here.setHeapUsed s₂.heap s₂.slotsUsed).setVm hW'.alike, X.tail, State.WarmedH.trans X.warmed hW', X.limits, X.bytes, X.same.trans (hsame.setVm s.vm)⟩,
      ⟨g, mk, s₂, L, E, ce, rfl, rfl, hx, hce, hcv, hcl, rfl, hL, rfl, rfl⟩, ?_⟩
    show Steps p.tables e below _ (((({ U with heap := s₂.heap, slotsUsed := s₂.slotsUsed } : State).setVm s₂.vm).setTop g).pushFrame (.throwing q))
    rw [← hs₂]
    exact hsteps
end
variable {p : Program} {l : Launch} {e : Env} {R : Room} {s : State} {m : MethodId} {args : Array Value} {below : List Frame} {meth : Method} {c : Code} {T : State} {H : Heap} {locs : List Loc} {cells slots : Nat}
theorem vx_callVX (X : Stand p l e R s m args below meth c T locs cells slots) (hexec : p.tables.exec = Jvm.exec) {own C : String} {index : Nat} {y : MethodName} {bytes : ByteArray} {maxL : Nat} {ret : Option FieldType} {hh : List (Nat × Nat × Nat × Nat)}
    (hown : s.vm.findClass own = some m.cls) (hlink : (Cond.methodLink own index y).before args s = true) (hinst : (Cond.instanceMethod y).before args s = true) (hsel : (Cond.selects C y y).before args s = true)
    (hcode : (Cond.codeWith y bytes maxL ret hh).before args s = true) (hy : y.cls ≠ "java/lang/invoke/MethodHandle" ∧ y.cls ≠ "java/lang/invoke/VarHandle")
    {W9 : Nat} {Pre : Pt → Array Value → Prop} {Post : Pt → Array Value → Option Value → Pt → Prop} {PostX : Pt → Array Value → Addr → Pt → Prop} (hK : vx_Back l R p e below s args y 3 W9 Pre Post PostX)
    {b : Addr} {cellB : Cell} (hcell : T.heap[b]? = some cellB) (hobj : cellB.vm.isStatics = false) (hcls : s.vm.findClass C = some cellB.cls)
    {g : JFrame} (hg : g.method = m) (hsize : g.locals.size = c.maxLocals) {argsL rest : List Value} (hlen : ∀ sig, parseMethodDescriptor y.desc = some sig → argsL.length = sig.parameters.length)
    (hstack : g.stack = argsL.reverse ++ .ref b :: rest) (hW : 2 * g.monitorRoom + (rest.map fun v => v.category).sum ≤ W9) (hdg : decode c.code g.pc = .ok (.invokevirtual index, 3))
    (hpre : ∀ vm₁, s.WarmedH vm₁ → Pre ⟨T.setVm vm₁, locs, cells, slots⟩ (Value.ref b :: argsL).toArray) :
    (∃ (v : Option Value) (vm₁ : Vm) (B : Pt), s.WarmedH vm₁ ∧ Stand p l e R s m args below meth c B.U B.locs B.cells B.slots ∧ Post ⟨T.setVm vm₁, locs, cells, slots⟩ (Value.ref b :: argsL).toArray v B ∧
      ∀ target, Steps p.tables e below (B.U.setTop { g with pc := g.pc + 3, stack := v.toList ++ rest }) target → Steps p.tables e below (T.setTop g) target) ∨
    (∃ (q : Addr) (vm₁ : Vm) (B : Pt), s.WarmedH vm₁ ∧ Stand p l e R s m args below meth c B.U B.locs B.cells B.slots ∧ PostX ⟨T.setVm vm₁, locs, cells, slots⟩ (Value.ref b :: argsL).toArray q B ∧
      Steps p.tables e below (T.setTop g) ((B.U.setTop { g with stack := rest }).pushFrame (.throwing q))) := by
  obtain ⟨mk, methM, hnamed, hmethM, hstM, habM⟩ := Cond.instanceMethod_spec hinst
  obtain ⟨m8, methM', cM, hn8, hmethM', -, -, -, -, -, -, hsigM⟩ := Cond.codeWith_spec hcode
  cases Option.some.inj (hn8.symm.trans hnamed)
  cases hmethM.symm.trans hmethM'
  obtain ⟨c2, r2, m2, q1, q2, q3, q4, kP, hkP, hkPi⟩ := Cond.selects_spec hsel
  cases hcls.symm.trans q1
  cases (State.methodFound?_of_named hnamed hy).symm.trans q2
  cases hnamed.symm.trans q3
  have hselP : selectMethod e.platform s.vm cellB.cls mk = .method mk := by rw [Launch.admits_selectMethod X.admits]; exact q4
  obtain ⟨vm₁, X₁, hstep₁⟩ := X.invokevirtual hexec hown hlink hnamed hmethM hstM hkP hkPi hy (a := b) (cell := cellB) hcell
    (fun z h => by rw [h] at hobj; cases hobj) hselP hmethM habM hkP hkPi (g := g) hg (argsL := argsL) (rest := rest) (hlen _ hsigM) hstack hdg
  rcases hK m meth c ⟨T.setVm vm₁, locs, cells, slots⟩ { g with stack := rest } (.invokevirtual index) mk (Value.ref b :: argsL).toArray X₁ hg hsize hdg hW (X₁.named hnamed) (hpre vm₁ X₁.warmed) with ⟨v, B, X', hpost, hsteps⟩ | ⟨q, B, X', hpost, hsteps⟩
  · exact Or.inl ⟨v, vm₁, B, X₁.warmed, X', hpost, fun target h => hstep₁ _ fun acts => by rw [doInvoke_state]; exact hsteps.trans h⟩
  · exact Or.inr ⟨q, vm₁, B, X₁.warmed, X', hpost, hstep₁ _ fun acts => by rw [doInvoke_state]; exact hsteps⟩
theorem vx_callSX (X : Stand p l e R s m args below meth c T locs cells slots) (hexec : p.tables.exec = Jvm.exec) {own : String} {index : Nat} {y : MethodName} {bytes : ByteArray} {maxL : Nat} {ret : Option FieldType} {hh : List (Nat × Nat × Nat × Nat)}
    (hown : s.vm.findClass own = some m.cls) (hlink : (Cond.methodLink own index y).before args s = true) (hstat : (Cond.static y).before args s = true) (hinit : (Cond.initialized y.cls).before args s = true)
    (hcode : (Cond.codeWith y bytes maxL ret hh).before args s = true) (hy : y.cls ≠ "java/lang/invoke/MethodHandle" ∧ y.cls ≠ "java/lang/invoke/VarHandle")
    {W9 : Nat} {Pre : Pt → Array Value → Prop} {Post : Pt → Array Value → Option Value → Pt → Prop} {PostX : Pt → Array Value → Addr → Pt → Prop} (hK : vx_Back l R p e below s args y 3 W9 Pre Post PostX)
    {g : JFrame} (hg : g.method = m) (hsize : g.locals.size = c.maxLocals) {argsL rest : List Value} (hlen : ∀ sig, parseMethodDescriptor y.desc = some sig → argsL.length = sig.parameters.length)
    (hstack : g.stack = argsL.reverse ++ rest) (hW : 2 * g.monitorRoom + (rest.map fun v => v.category).sum ≤ W9) (hdg : decode c.code g.pc = .ok (.invokestatic index, 3))
    (hpre : ∀ vm₁, s.WarmedH vm₁ → Pre ⟨T.setVm vm₁, locs, cells, slots⟩ argsL.toArray) :
    (∃ (v : Option Value) (vm₁ : Vm) (B : Pt), s.WarmedH vm₁ ∧ Stand p l e R s m args below meth c B.U B.locs B.cells B.slots ∧ Post ⟨T.setVm vm₁, locs, cells, slots⟩ argsL.toArray v B ∧
      ∀ target, Steps p.tables e below (B.U.setTop { g with pc := g.pc + 3, stack := v.toList ++ rest }) target → Steps p.tables e below (T.setTop g) target) ∨
    (∃ (q : Addr) (vm₁ : Vm) (B : Pt), s.WarmedH vm₁ ∧ Stand p l e R s m args below meth c B.U B.locs B.cells B.slots ∧ PostX ⟨T.setVm vm₁, locs, cells, slots⟩ argsL.toArray q B ∧
      Steps p.tables e below (T.setTop g) ((B.U.setTop { g with stack := rest }).pushFrame (.throwing q))) := by
  obtain ⟨mk, methM, cM, hnamed, hmethM, -, -, -, -, -, -, hsigM⟩ := Cond.codeWith_spec hcode
  have hstatic : methM.isStatic = true := Cond.static_spec hnamed hmethM hstat
  obtain ⟨kP, hkP, -⟩ := className_of_methodNamed hnamed
  have hinitP : kP.init = .initialized := Cond.initialized_spec (findClass_of_methodNamed hnamed) hkP hinit
  obtain ⟨vm₁, X₁, hstep₁⟩ := X.invokestatic hexec hown hlink hnamed hmethM hstatic hkP hinitP hy (g := g) hg (argsL := argsL) (rest := rest) (hlen _ hsigM) hstack hdg
  rcases hK m meth c ⟨T.setVm vm₁, locs, cells, slots⟩ { g with stack := rest } (.invokestatic index) mk argsL.toArray X₁ hg hsize hdg hW (X₁.named hnamed) (hpre vm₁ X₁.warmed) with ⟨v, B, X', hpost, hsteps⟩ | ⟨q, B, X', hpost, hsteps⟩
  · exact Or.inl ⟨v, vm₁, B, X₁.warmed, X', hpost, fun target h => hstep₁ _ fun acts => by rw [doInvoke_state]; exact hsteps.trans h⟩
  · exact Or.inr ⟨q, vm₁, B, X₁.warmed, X', hpost, hstep₁ _ fun acts => by rw [doInvoke_state]; exact hsteps⟩
theorem vx_callVW (X : Stand p l e R s m args below meth c T locs cells slots) (hexec : p.tables.exec = Jvm.exec) {own C : String} {index : Nat} {y : MethodName} {bytes : ByteArray} {maxL : Nat} {ret : Option FieldType} {hh : List (Nat × Nat × Nat × Nat)}
    (hown : s.vm.findClass own = some m.cls) (hlink : (Cond.methodLink own index y).before args s = true) (hinst : (Cond.instanceMethod y).before args s = true) (hsel : (Cond.selects C y y).before args s = true)
    (hcode : (Cond.codeWith y bytes maxL ret hh).before args s = true) (hy : y.cls ≠ "java/lang/invoke/MethodHandle" ∧ y.cls ≠ "java/lang/invoke/VarHandle")
    {W9 : Nat} {Pre : Pt → Array Value → Prop} {Post : Pt → Array Value → Option Value → Pt → Prop} (hK : Back l R p e below s args y 3 W9 Pre Post)
    {b : Addr} {cellB : Cell} (hcell : T.heap[b]? = some cellB) (hobj : cellB.vm.isStatics = false) (hcls : s.vm.findClass C = some cellB.cls)
    {g : JFrame} (hg : g.method = m) (hsize : g.locals.size = c.maxLocals) {argsL rest : List Value} (hlen : ∀ sig, parseMethodDescriptor y.desc = some sig → argsL.length = sig.parameters.length)
    (hstack : g.stack = argsL.reverse ++ .ref b :: rest) (hW : 2 * g.monitorRoom + (rest.map fun v => v.category).sum ≤ W9) (hdg : decode c.code g.pc = .ok (.invokevirtual index, 3))
    (hpre : ∀ vm₁, s.WarmedH vm₁ → Pre ⟨T.setVm vm₁, locs, cells, slots⟩ (Value.ref b :: argsL).toArray) :
    ∃ (v : Option Value) (vm₁ : Vm) (B : Pt), s.WarmedH vm₁ ∧ Stand p l e R s m args below meth c B.U B.locs B.cells B.slots ∧ Post ⟨T.setVm vm₁, locs, cells, slots⟩ (Value.ref b :: argsL).toArray v B ∧
      ∀ target, Steps p.tables e below (B.U.setTop { g with pc := g.pc + 3, stack := v.toList ++ rest }) target → Steps p.tables e below (T.setTop g) target := by
  obtain ⟨mk, methM, hnamed, hmethM, hstM, habM⟩ := Cond.instanceMethod_spec hinst
  obtain ⟨m8, methM', cM, hn8, hmethM', -, -, -, -, -, -, hsigM⟩ := Cond.codeWith_spec hcode
  cases Option.some.inj (hn8.symm.trans hnamed)
  cases hmethM.symm.trans hmethM'
  obtain ⟨c2, r2, m2, q1, q2, q3, q4, kP, hkP, hkPi⟩ := Cond.selects_spec hsel
  cases hcls.symm.trans q1
  cases (State.methodFound?_of_named hnamed hy).symm.trans q2
  cases hnamed.symm.trans q3
  have hselP : selectMethod e.platform s.vm cellB.cls mk = .method mk := by rw [Launch.admits_selectMethod X.admits]; exact q4
  obtain ⟨vm₁, X₁, hstep₁⟩ := X.invokevirtual hexec hown hlink hnamed hmethM hstM hkP hkPi hy (a := b) (cell := cellB) hcell
    (fun z h => by rw [h] at hobj; cases hobj) hselP hmethM habM hkP hkPi (g := g) hg (argsL := argsL) (rest := rest) (hlen _ hsigM) hstack hdg
  obtain ⟨v, B, X', hpost, hsteps⟩ := hK m meth c ⟨T.setVm vm₁, locs, cells, slots⟩ { g with stack := rest } (.invokevirtual index) mk (Value.ref b :: argsL).toArray X₁ hg hsize hdg hW (X₁.named hnamed) (hpre vm₁ X₁.warmed)
  exact ⟨v, vm₁, B, X₁.warmed, X', hpost, fun target h => hstep₁ _ fun acts => by rw [doInvoke_state]; exact hsteps.trans h⟩
abbrev vx_CVW (R : Room) (s : State) (args : Array Value) (own C : String) (index : Nat) (y : MethodName) (bytes : ByteArray) (maxL : Nat) (ret : Option FieldType) (hh : List (Nat × Nat × Nat × Nat)) (ws : List Cond) (rm : Room) (mc ms n : Nat) : Prop :=
  (rm.cells = mc ∧ rm.slots = ms ∧ rm.frames + 1 ≤ R.frames ∧ 8 + (maxL + 11) + rm.locals ≤ R.locals ∧ (∀ w ∈ ws, ∀ (a' : Array Value) (U : State), s.WarmedH U.vm → w.before a' U = true) ∧ Cond.codeWith y bytes maxL ret hh ∈ ws) ∧
  (Cond.codeWith y bytes maxL ret hh).before args s = true ∧ (Cond.initialized y.cls).before args s = true ∧ (y.cls ≠ "java/lang/invoke/MethodHandle" ∧ y.cls ≠ "java/lang/invoke/VarHandle") ∧
  (∀ sig, parseMethodDescriptor y.desc = some sig → n = sig.parameters.length) ∧ (Cond.methodLink own index y).before args s = true ∧ (Cond.instanceMethod y).before args s = true ∧ (Cond.selects C y y).before args s = true
theorem vx_cwVW {own C : String} {index maxL mc ms : Nat} {y : MethodName} {bytes : ByteArray} {ret : Option FieldType} {hh : List (Nat × Nat × Nat × Nat)} {Ts ws ws' : List Cond} {rm : Room} (n : Nat) (ht : ∀ w ∈ Ts, w.before args s = true) (hT : GoodIn Ts (wsV own index C y ws)) (hw : ws = Cond.codeWith y bytes maxL ret hh :: ws') (hrc : rm.cells = mc) (hrs : rm.slots = ms)
    (hd : y.cls = C ∧ y.cls ≠ "java/lang/invoke/MethodHandle" ∧ y.cls ≠ "java/lang/invoke/VarHandle" ∧ (parseMethodDescriptor y.desc).map (fun d => d.parameters.length) = some n) (hR : rm.frames + 1 ≤ R.frames ∧ 8 + (maxL + 11) + rm.locals ≤ R.locals) :
    vx_CVW R s args own C index y bytes maxL ret hh ws rm mc ms n := by
  obtain ⟨hC, hd⟩ := hd
  subst hC
  have ok : ∀ w ∈ wsV own index y.cls y ws, w.before args s = true := fun w h => ht w (hT w h).1
  have hG : GoodIn Ts ws := fun w h => hT w (by unfold wsV; exact List.mem_append_right _ h)
  have hc : Cond.codeWith y bytes maxL ret hh ∈ ws := by rw [hw]; exact List.mem_cons_self
  refine ⟨⟨hrc, hrs, hR.1, hR.2, pay_in ht hG, hc⟩, ht _ (hG _ hc).1, ok _ (by simp [wsV]), ⟨hd.1, hd.2.1⟩, fun sig h => ?_, ok _ (by simp [wsV]), ok _ (by simp [wsV]), ok _ (by simp [wsV])⟩
  have h2 := hd.2.2
  rw [h] at h2
  exact (Option.some.inj h2).symm
theorem vx_runVW {y : MethodName} {bytes cc : ByteArray} {maxL nL mc ms n index : Nat} {ret : Option FieldType} {hh : List (Nat × Nat × Nat × Nat)} {ws : List Cond} {rm : Room} {Pc : Array Value → State → Prop} {Qc : Array Value → State → Outcome → State → Prop} {free : Addr → Prop} {Ts : List Cond} {own C : String} {b : Addr} {As rest : List Value} {g : JFrame}
    (S : CallFix p m c cc nL s args Ts own) (hM : Met l y ws rm Pc Qc mc ms free) (cw : vx_CVW R s args own C index y bytes maxL ret hh ws rm mc ms n) (hp : PreV s H C b Pc As)
    (hg : g.method = m) (hn : As.length = n) (hsize : g.locals.size = nL) (hstack : g.stack = As.reverse ++ .ref b :: rest) (hW : 2 * g.monitorRoom + (rest.map fun v => v.category).sum ≤ 8) (hdg : decode cc g.pc = .ok (.invokevirtual index, 3)) (hf : cells + mc ≤ R.cells ∧ slots + ms ≤ R.slots) :
    va_Run p l e R s m args below meth c H locs cells slots mc ms g rest (Qc (Value.ref b :: As).toArray) free := by
  obtain ⟨⟨hrc, hrs, hfr, hlo, hws, hcw⟩, hcode, hini, hy, hlen, hl, hin, hse⟩ := cw
  have hK : Back l R p e below s args y 3 8 (PreOf R mc ms Pc) (PostOf Qc mc ms free) := va_backW (hh := hh) (bytes := bytes) (maxL := maxL) (ret := ret) hM hp.1 hrc hrs hfr hlo hws hcw (fun a' U hW => word_at hW (Or.inl (by first | rfl | simp [Cond.onTables, Cond.keeps, Cond.steady])) hini)
  obtain ⟨hx, hb, hml, ho, -⟩ := S
  obtain ⟨-, ⟨cellB, hcB, hoB, hclB⟩, hPc⟩ := hp
  intro T hT X
  obtain ⟨v, vm₁, ⟨U', l2, c2, s2⟩, hW₁, X', ⟨g', mk, t, L, e1, e2, hq, h1, hL, h2, h3⟩, st⟩ := vx_callVW X hx (C := C) (hh := hh) (bytes := bytes) (maxL := maxL) (ret := ret) ho hl hin hse hcode hy hK (by rw [hT]; exact hcB) hoB hclB hg (hsize.trans hml.symm) (argsL := As) (rest := rest) (fun sig h => hn.trans (hlen sig h)) hstack hW (by rw [hb]; exact hdg)
    (fun vm₁ hW₁ => ⟨hf.1, hf.2, hPc (T.setVm vm₁) hT hW₁⟩)
  dsimp only [Pt.U, Pt.locs, Pt.cells, Pt.slots] at X' e1 e2 h1 h2 h3 st
  subst h1; subst h2; subst h3
  exact ⟨v, (T.setVm vm₁).calling g' mk (Value.ref b :: As).toArray, t, U', L, hT, X', hL, e1, e2, hq, st⟩
section
variable {y : MethodName} {bytes cc : ByteArray} {maxL nL mc ms n index : Nat} {ret : Option FieldType} {ws : List Cond} {rm : Room} {Pc : Array Value → State → Prop} {Qc : Array Value → State → Outcome → State → Prop} {XC : String → State → State → Prop} {free : Addr → Prop} {Ts : List Cond} {own C : String} {b : Addr} {As rest : List Value} {g : JFrame}
theorem vx_runVX {hh : List (Nat × Nat × Nat × Nat)} (S : CallFix p m c cc nL s args Ts own) (hM : vx_Met l y ws rm Pc Qc XC mc ms free) (cw : vx_CVW R s args own C index y bytes maxL ret hh ws rm mc ms n) (hp : PreV s H C b Pc As)
    (hg : g.method = m) (hn : As.length = n) (hsize : g.locals.size = nL) (hstack : g.stack = As.reverse ++ .ref b :: rest) (hW : 2 * g.monitorRoom + (rest.map fun v => v.category).sum ≤ 8) (hdg : decode cc g.pc = .ok (.invokevirtual index, 3)) (hf : cells + mc ≤ R.cells ∧ slots + ms ≤ R.slots) :
    vx_Run p l e R s m args below meth c H locs cells slots mc ms g rest (Qc (Value.ref b :: As).toArray) XC free := by
  obtain ⟨⟨hrc, hrs, hfr, hlo, hws, hcw⟩, hcode, hini, hy, hlen, hl, hin, hse⟩ := cw
  have hK : vx_Back l R p e below s args y 3 8 (PreOf R mc ms Pc) (PostOf Qc mc ms free) (vx_Post XC mc ms free) := vx_backW (hh := hh) (bytes := bytes) (maxL := maxL) (ret := ret) hM hp.1 hrc hrs hfr hlo hws hcw (fun a' U hW => word_at hW (Or.inl (by first | rfl | simp [Cond.onTables, Cond.keeps, Cond.steady])) hini)
  obtain ⟨hx, hb, hml, ho, -⟩ := S
  obtain ⟨-, ⟨cellB, hcB, hoB, hclB⟩, hPc⟩ := hp
  intro T hT X
  rcases vx_callVX X hx (C := C) (hh := hh) (bytes := bytes) (maxL := maxL) (ret := ret) ho hl hin hse hcode hy hK (by rw [hT]; exact hcB) hoB hclB hg (hsize.trans hml.symm) (argsL := As) (rest := rest) (fun sig h => hn.trans (hlen sig h)) hstack hW (by rw [hb]; exact hdg)
    (fun vm₁ hW₁ => ⟨hf.1, hf.2, hPc (T.setVm vm₁) hT hW₁⟩) with ⟨v, vm₁, ⟨U', l2, c2, s2⟩, hW₁, X', ⟨g', mk, t, L, e1, e2, hq, h1, hL, h2, h3⟩, st⟩ | ⟨q, vm₁, ⟨U', l2, c2, s2⟩, hW₁, X', ⟨g', mk, t, L, E, ce, e1, e2, hq, hce, hcv, hcl, h1, hL, h2, h3⟩, st⟩
  · dsimp only [Pt.U, Pt.locs, Pt.cells, Pt.slots] at X' e1 e2 h1 h2 h3 st
    subst h1; subst h2; subst h3
    exact Or.inl ⟨v, (T.setVm vm₁).calling g' mk (Value.ref b :: As).toArray, t, U', L, hT, X', hL, e1, e2, hq, st⟩
  · dsimp only [Pt.U, Pt.locs, Pt.cells, Pt.slots] at X' e1 e2 h1 h2 h3 st hcl
    subst h1; subst h2; subst h3
    exact Or.inr ⟨q, (T.setVm vm₁).calling g' mk (Value.ref b :: As).toArray, t, U', L, E, ce, hT, X', hL, e1, e2, hq, hce, hcv, vx_cls hW₁ hcl, st⟩
theorem vx_runSX {hh : List (Nat × Nat × Nat × Nat)} (S : CallFix p m c cc nL s args Ts own) (hM : vx_Met l y ws rm Pc Qc XC mc ms free) (cw : vx_CSW R s args own index y bytes maxL ret hh ws rm mc ms n) (hp : PreS s H Pc As)
    (hg : g.method = m) (hn : As.length = n) (hsize : g.locals.size = nL) (hstack : g.stack = As.reverse ++ rest) (hW : 2 * g.monitorRoom + (rest.map fun v => v.category).sum ≤ 8) (hdg : decode cc g.pc = .ok (.invokestatic index, 3)) (hf : cells + mc ≤ R.cells ∧ slots + ms ≤ R.slots) :
    vx_Run p l e R s m args below meth c H locs cells slots mc ms g rest (Qc As.toArray) XC free := by
  obtain ⟨⟨hrc, hrs, hfr, hlo, hws, hcw⟩, hcode, hini, hy, hlen, hl, hstt⟩ := cw
  have hK : vx_Back l R p e below s args y 3 8 (PreOf R mc ms Pc) (PostOf Qc mc ms free) (vx_Post XC mc ms free) := vx_backW (hh := hh) (bytes := bytes) (maxL := maxL) (ret := ret) hM hp.1 hrc hrs hfr hlo hws hcw (fun a' U hW => word_at hW (Or.inl (by first | rfl | simp [Cond.onTables, Cond.keeps, Cond.steady])) hini)
  obtain ⟨hx, hb, hml, ho, -⟩ := S
  intro T hT X
  rcases vx_callSX X hx (hh := hh) (bytes := bytes) (maxL := maxL) (ret := ret) ho hl hstt hini hcode hy hK hg (hsize.trans hml.symm) (argsL := As) (rest := rest) (fun sig h => hn.trans (hlen sig h)) hstack hW (by rw [hb]; exact hdg)
    (fun vm₁ hW₁ => ⟨hf.1, hf.2, hp.2 (T.setVm vm₁) hT hW₁⟩) with ⟨v, vm₁, ⟨U', l2, c2, s2⟩, hW₁, X', ⟨g', mk, t, L, e1, e2, hq, h1, hL, h2, h3⟩, st⟩ | ⟨q, vm₁, ⟨U', l2, c2, s2⟩, hW₁, X', ⟨g', mk, t, L, E, ce, e1, e2, hq, hce, hcv, hcl, h1, hL, h2, h3⟩, st⟩
  · dsimp only [Pt.U, Pt.locs, Pt.cells, Pt.slots] at X' e1 e2 h1 h2 h3 st
    subst h1; subst h2; subst h3
    exact Or.inl ⟨v, (T.setVm vm₁).calling g' mk As.toArray, t, U', L, hT, X', hL, e1, e2, hq, st⟩
  · dsimp only [Pt.U, Pt.locs, Pt.cells, Pt.slots] at X' e1 e2 h1 h2 h3 st hcl
    subst h1; subst h2; subst h3
    exact Or.inr ⟨q, (T.setVm vm₁).calling g' mk As.toArray, t, U', L, E, ce, hT, X', hL, e1, e2, hq, hce, hcv, vx_cls hW₁ hcl, st⟩
end
end VXH
theorem vx_ofWH {l : Launch} {y : MethodName} {ws ws' : List Cond} {rm : Room} {Pc : Array Value → State → Prop} {Qc : Array Value → State → Outcome → State → Prop} {XC : String → State → State → Prop} {mc ms : Nat} {free : Addr → Prop} {cc : ByteArray} {maxL : Nat} {ret : Option FieldType} {hh : List (Nat × Nat × Nat × Nat)}
    (hy : plainName y.cls = true) (hw : ws = Cond.codeWith y cc maxL ret hh :: ws')
    (body : ∀ p e s m args below meth c s₁, BodyLoose p l y (headSpec ws rm) cc maxL ret e s m args below meth c s₁ → c.maxLocals = maxL → Pc args s →
      W p l e (headSpec ws rm).room s m args below meth c s.heap [] 0 0 (vx_MQ below Qc XC args s mc ms free) (entryFrame m args maxL)) : vx_Met l y ws rm Pc Qc XC mc ms free := by
  refine MetFree.of_bodyS (code := cc) (maxLocals := maxL) (ret := ret) hy ?_ ?_
  · intro args s m h hn
    obtain ⟨m9, meth, c, hn9, h1, h2, h3, h4, -, h5, h6, -⟩ := Cond.codeWith_spec (atoms_spec (ws := ws) h _ (by rw [hw]; exact List.mem_cons_self))
    cases hn.symm.trans hn9
    exact ⟨meth, c, h1, h2, h3, h4, h5, h6⟩
  · intro p e s m args below meth c s₁ B hml hP _
    have hh0 : s₁.heap = s.heap := by rw [B.state]; rfl
    obtain ⟨t, a1, o, b1, b2, b3⟩ := body p e s m args below meth c s₁ B hml hP s₁ hh0 (Stand.of_body B)
    exact ⟨t, o, a1, b1, b2, b3⟩
/-! ===== END ===== -/
end
section
/-! The processor in numbers: one state, read by the class and by the reference alike. -/
/-- mem reg inn put, then sp pc ha it la wa sg ze au pa ca st; put and wa are one more than what is meant, 0 is nothing -/
abbrev z_St : Type := (Nat → Nat) × (Nat → Nat) × (Nat → Nat) × (Nat → Nat) × Nat × Nat × Nat × Nat × Nat × Nat × Nat × Nat × Nat × Nat × Nat × Nat × Nat
def z_x_mem (σ : z_St) : Nat → Nat := σ.1
def z_x_reg (σ : z_St) : Nat → Nat := σ.2.1
def z_x_inn (σ : z_St) : Nat → Nat := σ.2.2.1
def z_x_put (σ : z_St) : Nat → Nat := σ.2.2.2.1
def z_x_sp (σ : z_St) : Nat := σ.2.2.2.2.1
def z_x_pc (σ : z_St) : Nat := σ.2.2.2.2.2.1
def z_x_ha (σ : z_St) : Nat := σ.2.2.2.2.2.2.1
def z_x_it (σ : z_St) : Nat := σ.2.2.2.2.2.2.2.1
def z_x_la (σ : z_St) : Nat := σ.2.2.2.2.2.2.2.2.1
def z_x_wa (σ : z_St) : Nat := σ.2.2.2.2.2.2.2.2.2.1
def z_x_sg (σ : z_St) : Nat := σ.2.2.2.2.2.2.2.2.2.2.1
def z_x_ze (σ : z_St) : Nat := σ.2.2.2.2.2.2.2.2.2.2.2.1
def z_x_au (σ : z_St) : Nat := σ.2.2.2.2.2.2.2.2.2.2.2.2.1
def z_x_pa (σ : z_St) : Nat := σ.2.2.2.2.2.2.2.2.2.2.2.2.2.1
def z_x_ca (σ : z_St) : Nat := σ.2.2.2.2.2.2.2.2.2.2.2.2.2.2.1
def z_x_st (σ : z_St) : Nat := σ.2.2.2.2.2.2.2.2.2.2.2.2.2.2.2.1
def z_x_th (σ : z_St) : Nat := σ.2.2.2.2.2.2.2.2.2.2.2.2.2.2.2.2
def z_mkS (mem reg inn put : Nat → Nat) (sp pc ha it la wa sg ze au pa ca st th : Nat) : z_St := (mem, reg, inn, put, sp, pc, ha, it, la, wa, sg, ze, au, pa, ca, st, th)
def z_s_mem (σ : z_St) (v : Nat → Nat) : z_St := z_mkS v (z_x_reg σ) (z_x_inn σ) (z_x_put σ) (z_x_sp σ) (z_x_pc σ) (z_x_ha σ) (z_x_it σ) (z_x_la σ) (z_x_wa σ) (z_x_sg σ) (z_x_ze σ) (z_x_au σ) (z_x_pa σ) (z_x_ca σ) (z_x_st σ) (z_x_th σ)
def z_s_reg (σ : z_St) (v : Nat → Nat) : z_St := z_mkS (z_x_mem σ) v (z_x_inn σ) (z_x_put σ) (z_x_sp σ) (z_x_pc σ) (z_x_ha σ) (z_x_it σ) (z_x_la σ) (z_x_wa σ) (z_x_sg σ) (z_x_ze σ) (z_x_au σ) (z_x_pa σ) (z_x_ca σ) (z_x_st σ) (z_x_th σ)
def z_s_inn (σ : z_St) (v : Nat → Nat) : z_St := z_mkS (z_x_mem σ) (z_x_reg σ) v (z_x_put σ) (z_x_sp σ) (z_x_pc σ) (z_x_ha σ) (z_x_it σ) (z_x_la σ) (z_x_wa σ) (z_x_sg σ) (z_x_ze σ) (z_x_au σ) (z_x_pa σ) (z_x_ca σ) (z_x_st σ) (z_x_th σ)
def z_s_put (σ : z_St) (v : Nat → Nat) : z_St := z_mkS (z_x_mem σ) (z_x_reg σ) (z_x_inn σ) v (z_x_sp σ) (z_x_pc σ) (z_x_ha σ) (z_x_it σ) (z_x_la σ) (z_x_wa σ) (z_x_sg σ) (z_x_ze σ) (z_x_au σ) (z_x_pa σ) (z_x_ca σ) (z_x_st σ) (z_x_th σ)
def z_s_sp (σ : z_St) (v : Nat) : z_St := z_mkS (z_x_mem σ) (z_x_reg σ) (z_x_inn σ) (z_x_put σ) v (z_x_pc σ) (z_x_ha σ) (z_x_it σ) (z_x_la σ) (z_x_wa σ) (z_x_sg σ) (z_x_ze σ) (z_x_au σ) (z_x_pa σ) (z_x_ca σ) (z_x_st σ) (z_x_th σ)
def z_s_pc (σ : z_St) (v : Nat) : z_St := z_mkS (z_x_mem σ) (z_x_reg σ) (z_x_inn σ) (z_x_put σ) (z_x_sp σ) v (z_x_ha σ) (z_x_it σ) (z_x_la σ) (z_x_wa σ) (z_x_sg σ) (z_x_ze σ) (z_x_au σ) (z_x_pa σ) (z_x_ca σ) (z_x_st σ) (z_x_th σ)
def z_s_ha (σ : z_St) (v : Nat) : z_St := z_mkS (z_x_mem σ) (z_x_reg σ) (z_x_inn σ) (z_x_put σ) (z_x_sp σ) (z_x_pc σ) v (z_x_it σ) (z_x_la σ) (z_x_wa σ) (z_x_sg σ) (z_x_ze σ) (z_x_au σ) (z_x_pa σ) (z_x_ca σ) (z_x_st σ) (z_x_th σ)
def z_s_it (σ : z_St) (v : Nat) : z_St := z_mkS (z_x_mem σ) (z_x_reg σ) (z_x_inn σ) (z_x_put σ) (z_x_sp σ) (z_x_pc σ) (z_x_ha σ) v (z_x_la σ) (z_x_wa σ) (z_x_sg σ) (z_x_ze σ) (z_x_au σ) (z_x_pa σ) (z_x_ca σ) (z_x_st σ) (z_x_th σ)
def z_s_la (σ : z_St) (v : Nat) : z_St := z_mkS (z_x_mem σ) (z_x_reg σ) (z_x_inn σ) (z_x_put σ) (z_x_sp σ) (z_x_pc σ) (z_x_ha σ) (z_x_it σ) v (z_x_wa σ) (z_x_sg σ) (z_x_ze σ) (z_x_au σ) (z_x_pa σ) (z_x_ca σ) (z_x_st σ) (z_x_th σ)
def z_s_wa (σ : z_St) (v : Nat) : z_St := z_mkS (z_x_mem σ) (z_x_reg σ) (z_x_inn σ) (z_x_put σ) (z_x_sp σ) (z_x_pc σ) (z_x_ha σ) (z_x_it σ) (z_x_la σ) v (z_x_sg σ) (z_x_ze σ) (z_x_au σ) (z_x_pa σ) (z_x_ca σ) (z_x_st σ) (z_x_th σ)
def z_s_sg (σ : z_St) (v : Nat) : z_St := z_mkS (z_x_mem σ) (z_x_reg σ) (z_x_inn σ) (z_x_put σ) (z_x_sp σ) (z_x_pc σ) (z_x_ha σ) (z_x_it σ) (z_x_la σ) (z_x_wa σ) v (z_x_ze σ) (z_x_au σ) (z_x_pa σ) (z_x_ca σ) (z_x_st σ) (z_x_th σ)
def z_s_ze (σ : z_St) (v : Nat) : z_St := z_mkS (z_x_mem σ) (z_x_reg σ) (z_x_inn σ) (z_x_put σ) (z_x_sp σ) (z_x_pc σ) (z_x_ha σ) (z_x_it σ) (z_x_la σ) (z_x_wa σ) (z_x_sg σ) v (z_x_au σ) (z_x_pa σ) (z_x_ca σ) (z_x_st σ) (z_x_th σ)
def z_s_au (σ : z_St) (v : Nat) : z_St := z_mkS (z_x_mem σ) (z_x_reg σ) (z_x_inn σ) (z_x_put σ) (z_x_sp σ) (z_x_pc σ) (z_x_ha σ) (z_x_it σ) (z_x_la σ) (z_x_wa σ) (z_x_sg σ) (z_x_ze σ) v (z_x_pa σ) (z_x_ca σ) (z_x_st σ) (z_x_th σ)
def z_s_pa (σ : z_St) (v : Nat) : z_St := z_mkS (z_x_mem σ) (z_x_reg σ) (z_x_inn σ) (z_x_put σ) (z_x_sp σ) (z_x_pc σ) (z_x_ha σ) (z_x_it σ) (z_x_la σ) (z_x_wa σ) (z_x_sg σ) (z_x_ze σ) (z_x_au σ) v (z_x_ca σ) (z_x_st σ) (z_x_th σ)
def z_s_ca (σ : z_St) (v : Nat) : z_St := z_mkS (z_x_mem σ) (z_x_reg σ) (z_x_inn σ) (z_x_put σ) (z_x_sp σ) (z_x_pc σ) (z_x_ha σ) (z_x_it σ) (z_x_la σ) (z_x_wa σ) (z_x_sg σ) (z_x_ze σ) (z_x_au σ) (z_x_pa σ) v (z_x_st σ) (z_x_th σ)
def z_s_st (σ : z_St) (v : Nat) : z_St := z_mkS (z_x_mem σ) (z_x_reg σ) (z_x_inn σ) (z_x_put σ) (z_x_sp σ) (z_x_pc σ) (z_x_ha σ) (z_x_it σ) (z_x_la σ) (z_x_wa σ) (z_x_sg σ) (z_x_ze σ) (z_x_au σ) (z_x_pa σ) (z_x_ca σ) v (z_x_th σ)
def z_s_th (σ : z_St) (v : Nat) : z_St := z_mkS (z_x_mem σ) (z_x_reg σ) (z_x_inn σ) (z_x_put σ) (z_x_sp σ) (z_x_pc σ) (z_x_ha σ) (z_x_it σ) (z_x_la σ) (z_x_wa σ) (z_x_sg σ) (z_x_ze σ) (z_x_au σ) (z_x_pa σ) (z_x_ca σ) (z_x_st σ) v
/-- a function with one place set -/
def z_fs (f : Nat → Nat) (k v : Nat) : Nat → Nat := fun j => if j = k then v else f j
/-- what holds of every state that is reached -/
def z_Ok (σ : z_St) : Prop := (∀ k, z_x_mem σ k < 256) ∧ (∀ k, z_x_reg σ k < 256) ∧ (∀ k, z_x_inn σ k < 256) ∧ (∀ k, z_x_put σ k < 257) ∧ z_x_sp σ < 65536 ∧ z_x_pc σ < 65536 ∧ z_x_ha σ < 2 ∧ z_x_it σ < 2 ∧ z_x_la σ < 2 ∧ z_x_wa σ < 9 ∧ z_x_sg σ < 2 ∧ z_x_ze σ < 2 ∧ z_x_au σ < 2 ∧ z_x_pa σ < 2 ∧ z_x_ca σ < 2
-- memory, pairs, registers
def z_rd (σ : z_St) (a : Nat) : Nat := if a < 1024 then z_x_mem σ a else 255
def z_fw (f : Nat → Nat) (a v : Nat) : Nat → Nat := if a < 1024 then z_fs f a v else f
def z_wr (σ : z_St) (a v : Nat) : z_St := z_s_mem σ (z_fw (z_x_mem σ) a v)
def z_pg (σ : z_St) (k : Nat) : Nat := if k = 3 then z_x_sp σ else z_x_reg σ (2 * k) * 256 + z_x_reg σ (2 * k + 1)
def z_ps (σ : z_St) (k v : Nat) : z_St := z_s_reg (z_s_sp σ (if k = 3 then v else z_x_sp σ)) (if k = 3 then z_x_reg σ else z_fs (z_fs (z_x_reg σ) (2 * k) (v / 256)) (2 * k + 1) (v % 256))
def z_rg (σ : z_St) (r : Nat) : Nat := if r = 6 then z_rd σ (z_pg σ 2) else z_x_reg σ r
def z_rs (σ : z_St) (r v : Nat) : z_St := z_s_mem (z_s_reg σ (if r = 6 then z_x_reg σ else z_fs (z_x_reg σ) r v)) (if r = 6 then z_fw (z_x_mem σ) (z_pg σ 2) v else z_x_mem σ)
-- the next byte, the next two, push, pop
def z_nb (σ : z_St) : Nat := z_rd σ (z_x_pc σ)
def z_nx (σ : z_St) : z_St := z_s_pc σ ((z_x_pc σ + 1) % 65536)
def z_nw (σ : z_St) : Nat := z_nb (z_nx σ) * 256 + z_nb σ
def z_nn (σ : z_St) : z_St := z_nx (z_nx σ)
def z_p1 (σ : z_St) (v : Nat) : z_St := z_wr (z_s_sp σ ((z_x_sp σ + 65535) % 65536)) ((z_x_sp σ + 65535) % 65536) v
def z_pu (σ : z_St) (v : Nat) : z_St := z_p1 (z_p1 σ (v / 256)) (v % 256)
def z_pv (σ : z_St) : Nat := z_rd σ ((z_x_sp σ + 1) % 65536) * 256 + z_rd σ (z_x_sp σ)
def z_po (σ : z_St) : z_St := z_s_sp σ ((z_x_sp σ + 2) % 65536)
def z_ct (σ : z_St) (a : Nat) : z_St := z_s_pc (z_pu σ (z_x_pc σ)) a
-- flags
def z_fb (σ : z_St) : Nat := 128 * z_x_sg σ + 64 * z_x_ze σ + 16 * z_x_au σ + 4 * z_x_pa σ + 2 + z_x_ca σ
def z_ff (σ : z_St) (v : Nat) : z_St := z_s_ca (z_s_pa (z_s_au (z_s_ze (z_s_sg σ (v / 128 % 2)) (v / 64 % 2)) (v / 16 % 2)) (v / 4 % 2)) (v % 2)
def z_par (v : Nat) : Nat := (1 + v % 2 + v / 2 % 2 + v / 4 % 2 + v / 8 % 2 + v / 16 % 2 + v / 32 % 2 + v / 64 % 2 + v / 128 % 2) % 2
def z_jd (σ : z_St) (v : Nat) : z_St := z_s_pa (z_s_ze (z_s_sg σ (v / 128)) (if v = 0 then 1 else 0)) (z_par v)
def z_fo (σ : z_St) (j : Nat) : Nat := if j = 0 then z_x_ze σ else if j = 1 then z_x_ca σ else if j = 2 then z_x_pa σ else z_x_sg σ
def z_hold (σ : z_St) (k : Nat) : Nat := if z_fo σ (k / 2) = k % 2 then 1 else 0
-- calculations: the state with its flags (not judged), the result
def z_cr (σ : z_St) (k a b : Nat) : Nat := if k = 0 then (a + b) % 256 else if k = 1 then (a + b + z_x_ca σ) % 256 else if k = 3 then (a + (255 - b) + (1 - z_x_ca σ)) % 256 else if k = 4 then a &&& b else if k = 5 then a ^^^ b else if k = 6 then a ||| b else (a + (255 - b) + 1) % 256
def z_g1 (a b c : Nat) : Nat := if 15 < a % 16 + b % 16 + c then 1 else 0
def z_g2 (a b c : Nat) : Nat := if 255 < a + b + c then 1 else 0
def z_ch (σ : z_St) (k a b : Nat) : Nat := if k = 0 then z_g1 a b 0 else if k = 1 then z_g1 a b (z_x_ca σ) else if k = 3 then z_g1 a (255 - b) (1 - z_x_ca σ) else if k = 4 then (if a / 8 % 2 = 1 ∨ b / 8 % 2 = 1 then 1 else 0) else if k = 5 then 0 else if k = 6 then 0 else z_g1 a (255 - b) 1
def z_cc_ (σ : z_St) (k a b : Nat) : Nat := if k = 0 then z_g2 a b 0 else if k = 1 then z_g2 a b (z_x_ca σ) else if k = 3 then 1 - z_g2 a (255 - b) (1 - z_x_ca σ) else if k = 4 then 0 else if k = 5 then 0 else if k = 6 then 0 else 1 - z_g2 a (255 - b) 1
def z_cs (σ : z_St) (k a b : Nat) : z_St := z_s_ca (z_s_au σ (z_ch σ k a b)) (z_cc_ σ k a b)
def z_cm (σ : z_St) (k a b : Nat) : z_St := z_jd (z_cs σ k a b) (z_cr σ k a b)
def z_cv (σ : z_St) (k a b : Nat) : Nat := if k = 7 then a else z_cr σ k a b
/-- calculation k with A and b: the whole of it -/
def z_rk (σ : z_St) (k b : Nat) : z_St := z_s_reg (z_cm σ k (z_x_reg σ 7) b) (z_fs (z_x_reg σ) 7 (z_cv σ k (z_x_reg σ 7) b))
def z_up (σ : z_St) (v : Nat) : z_St := z_jd (z_s_au σ (if (v + 1) % 256 % 16 = 0 then 1 else 0)) ((v + 1) % 256)
def z_dn (σ : z_St) (v : Nat) : z_St := z_jd (z_s_au σ (if (v + 255) % 256 % 16 = 15 then 0 else 1)) ((v + 255) % 256)
def z_dl (σ : z_St) (v : Nat) : Nat := if 9 < v % 16 ∨ z_x_au σ = 1 then 1 else 0
def z_d6 (σ : z_St) (v : Nat) : Nat := if 9 < v % 16 ∨ z_x_au σ = 1 then v + 6 else v
def z_dh (σ : z_St) (v : Nat) : Nat := if 159 < z_d6 σ v ∨ z_x_ca σ = 1 then 1 else 0
def z_dv (σ : z_St) (v : Nat) : Nat := (z_d6 σ v + 96 * z_dh σ v) % 256
def z_dd (σ : z_St) (v : Nat) : z_St := z_jd (z_s_ca (z_s_au σ (if 9 < v % 16 then 1 else 0)) (z_dh σ v)) (z_dv σ v)
-- the instructions by their quarters: the state, the states that it takes
def z_A7 (σ : z_St) (v : Nat) : z_St := z_s_reg σ (z_fs (z_x_reg σ) 7 v)
def z_e2 (σ : z_St) (k : Nat) : z_St := if k = 0 then z_wr σ (z_pg σ 0) (z_x_reg σ 7) else if k = 1 then z_A7 σ (z_rd σ (z_pg σ 0)) else if k = 2 then z_wr σ (z_pg σ 1) (z_x_reg σ 7) else if k = 3 then z_A7 σ (z_rd σ (z_pg σ 1)) else if k = 4 then z_wr (z_wr (z_nn σ) (z_nw σ) (z_x_reg σ 5)) ((z_nw σ + 1) % 65536) (z_x_reg σ 4) else if k = 5 then z_s_reg (z_nn σ) (z_fs (z_fs (z_x_reg σ) 5 (z_rd σ (z_nw σ))) 4 (z_rd σ ((z_nw σ + 1) % 65536))) else if k = 6 then z_wr (z_nn σ) (z_nw σ) (z_x_reg σ 7) else z_A7 (z_nn σ) (z_rd σ (z_nw σ))
def z_t2 (k : Nat) : Nat := if k < 4 then 7 else if k < 6 then 16 else 13
def z_e7 (σ : z_St) (k : Nat) : z_St := if k = 0 then z_A7 (z_s_ca σ (z_x_reg σ 7 / 128)) (z_x_reg σ 7 % 128 * 2 + z_x_reg σ 7 / 128) else if k = 1 then z_A7 (z_s_ca σ (z_x_reg σ 7 % 2)) (z_x_reg σ 7 / 2 + z_x_reg σ 7 % 2 * 128) else if k = 2 then z_A7 (z_s_ca σ (z_x_reg σ 7 / 128)) (z_x_reg σ 7 % 128 * 2 + z_x_ca σ) else if k = 3 then z_A7 (z_s_ca σ (z_x_reg σ 7 % 2)) (z_x_reg σ 7 / 2 + z_x_ca σ * 128) else if k = 4 then z_A7 (z_dd σ (z_x_reg σ 7)) (z_dv σ (z_x_reg σ 7)) else if k = 5 then z_A7 σ (255 - z_x_reg σ 7) else if k = 6 then z_s_ca σ 1 else z_s_ca σ (1 - z_x_ca σ)
def z_ad (σ : z_St) (k : Nat) : z_St := z_ps (z_s_ca σ ((z_pg σ 2 + z_pg σ k) / 65536)) 2 ((z_pg σ 2 + z_pg σ k) % 65536)
def z_ea (σ : z_St) (b : Nat) : z_St := if b % 8 = 0 then σ else if b % 8 = 1 then (if b / 8 % 2 = 0 then z_ps (z_nn σ) (b / 16 % 4) (z_nw σ) else z_ad σ (b / 16 % 4)) else if b % 8 = 2 then z_e2 σ (b / 8) else if b % 8 = 3 then z_ps σ (b / 16 % 4) ((z_pg σ (b / 16 % 4) + (if b / 8 % 2 = 0 then 1 else 65535)) % 65536) else if b % 8 = 4 then z_rs (z_up σ (z_rg σ (b / 8 % 8))) (b / 8 % 8) ((z_rg σ (b / 8 % 8) + 1) % 256) else if b % 8 = 5 then z_rs (z_dn σ (z_rg σ (b / 8 % 8))) (b / 8 % 8) ((z_rg σ (b / 8 % 8) + 255) % 256) else if b % 8 = 6 then z_rs (z_nx σ) (b / 8 % 8) (z_nb σ) else z_e7 σ (b / 8)
def z_ta (b : Nat) : Nat := if b % 8 = 0 then 4 else if b % 8 = 1 then 10 else if b % 8 = 2 then z_t2 (b / 8) else if b % 8 = 3 then 5 else if b % 8 = 4 then (if b / 8 % 8 = 6 then 10 else 5) else if b % 8 = 5 then (if b / 8 % 8 = 6 then 10 else 5) else if b % 8 = 6 then (if b / 8 % 8 = 6 then 10 else 7) else 4
def z_eb (σ : z_St) (b : Nat) : z_St := if b = 118 then z_s_ha σ 1 else z_rs σ (b / 8 % 8) (z_rg σ (b % 8))
def z_tb (b : Nat) : Nat := if b = 118 then 7 else if b / 8 % 8 = 6 ∨ b % 8 = 6 then 7 else 5
def z_ec (σ : z_St) (b : Nat) : z_St := z_rk σ (b / 8 % 8) (z_rg σ (b % 8))
def z_tc (b : Nat) : Nat := if b % 8 = 6 then 7 else 4
def z_rt (σ : z_St) : z_St := z_s_pc (z_po σ) (z_pv σ)
def z_pp (σ : z_St) (k : Nat) : z_St := if k = 3 then z_ff (z_A7 (z_po σ) (z_pv σ / 256)) (z_pv σ % 256) else z_ps (z_po σ) k (z_pv σ)
def z_xs (σ : z_St) : z_St := z_s_reg (z_wr (z_wr σ (z_x_sp σ) (z_x_reg σ 5)) ((z_x_sp σ + 1) % 65536) (z_x_reg σ 4)) (z_fs (z_fs (z_x_reg σ) 5 (z_rd σ (z_x_sp σ))) 4 (z_rd σ ((z_x_sp σ + 1) % 65536)))
def z_xd (σ : z_St) : z_St := z_ps (z_ps σ 2 (z_pg σ 1)) 1 (z_pg σ 2)
def z_e3 (σ : z_St) (r : Nat) : z_St := if r = 2 then z_s_put (z_nx σ) (z_fs (z_x_put σ) (z_nb σ) (z_x_reg σ 7 + 1)) else if r = 3 then z_A7 (z_nx σ) (z_x_inn σ (z_nb σ)) else if r = 4 then z_xs σ else if r = 5 then z_xd σ else if r = 6 then z_s_it σ 0 else if r = 7 then z_s_it σ 1 else z_s_pc (z_nn σ) (z_nw σ)
def z_t3 (r : Nat) : Nat := if r < 4 then 10 else if r = 4 then 18 else 4
def z_pq (σ : z_St) (k : Nat) : Nat := if k = 3 then z_x_reg σ 7 * 256 + z_fb σ else z_pg σ k
def z_ed (σ : z_St) (b : Nat) : z_St := if b % 8 = 0 then (if z_hold σ (b / 8 % 8) = 1 then z_rt σ else σ) else if b % 8 = 1 then (if b / 8 % 2 = 0 then z_pp σ (b / 16 % 4) else if b / 16 % 4 = 2 then z_s_pc σ (z_pg σ 2) else if b / 16 % 4 = 3 then z_s_sp σ (z_pg σ 2) else z_rt σ) else if b % 8 = 2 then (if z_hold σ (b / 8 % 8) = 1 then z_s_pc (z_nn σ) (z_nw σ) else z_nn σ) else if b % 8 = 3 then z_e3 σ (b / 8 % 8) else if b % 8 = 4 then (if z_hold σ (b / 8 % 8) = 1 then z_ct (z_nn σ) (z_nw σ) else z_nn σ) else if b % 8 = 5 then (if b / 8 % 2 = 0 then z_pu σ (z_pq σ (b / 16 % 4)) else z_ct (z_nn σ) (z_nw σ)) else if b % 8 = 6 then z_rk (z_nx σ) (b / 8 % 8) (z_nb σ) else z_ct σ (8 * (b / 8 % 8))
def z_td (σ : z_St) (b : Nat) : Nat := if b % 8 = 0 then (if z_hold σ (b / 8 % 8) = 1 then 11 else 5) else if b % 8 = 1 then (if b / 8 % 2 = 0 then 10 else if b / 16 % 4 = 2 then 5 else if b / 16 % 4 = 3 then 5 else 10) else if b % 8 = 2 then 10 else if b % 8 = 3 then z_t3 (b / 8 % 8) else if b % 8 = 4 then (if z_hold σ (b / 8 % 8) = 1 then 17 else 11) else if b % 8 = 5 then (if b / 8 % 2 = 0 then 11 else 17) else if b % 8 = 6 then 7 else 11
def z_ex (σ : z_St) (b : Nat) : z_St := if b < 64 then z_ea σ b else if b < 128 then z_eb σ b else if b < 192 then z_ec σ b else z_ed σ b
def z_tm (σ : z_St) (b : Nat) : Nat := if b < 64 then z_ta b else if b < 128 then z_tb b else if b < 192 then z_tc b else z_td σ b
-- a step: the state, whether it counts
def z_li (σ : z_St) : z_St := z_s_wa (z_ct (z_s_ha (z_s_it σ 0) 0) (8 * (z_x_wa σ - 1))) 0
def z_go (σ : z_St) : z_St := z_s_la (z_nx σ) (if z_nb σ = 251 then 1 else 0)
def z_sx (σ : z_St) : z_St := if z_x_wa σ ≠ 0 ∧ z_x_it σ = 1 ∧ z_x_la σ = 0 then z_s_st (z_li σ) (z_x_st σ + 11) else if z_x_ha σ = 1 then z_s_st σ (z_x_st σ + 4) else z_s_st (z_ex (z_go σ) (z_nb σ)) (z_x_st σ + z_tm (z_go σ) (z_nb σ))
def z_sv (σ : z_St) : Nat := if z_x_wa σ ≠ 0 ∧ z_x_it σ = 1 ∧ z_x_la σ = 0 then 1 else if z_x_ha σ = 1 then 0 else 1
-- n steps
def z_rx : Nat → z_St → z_St
  | 0, σ => σ
  | n + 1, σ => z_rx n (z_sx σ)
def z_rv : Nat → z_St → Nat
  | 0, _ => 0
  | n + 1, σ => z_sv σ + z_rv n (z_sx σ)
-- what a setter keeps
theorem z_ok_mem {σ : z_St} {v : Nat → Nat} (h : z_Ok σ) (hv : ∀ k, v k < 256) : z_Ok (z_s_mem σ v) := ⟨hv, h.2.1, h.2.2.1, h.2.2.2.1, h.2.2.2.2.1, h.2.2.2.2.2.1, h.2.2.2.2.2.2.1, h.2.2.2.2.2.2.2.1, h.2.2.2.2.2.2.2.2.1, h.2.2.2.2.2.2.2.2.2.1, h.2.2.2.2.2.2.2.2.2.2.1, h.2.2.2.2.2.2.2.2.2.2.2.1, h.2.2.2.2.2.2.2.2.2.2.2.2.1, h.2.2.2.2.2.2.2.2.2.2.2.2.2.1, h.2.2.2.2.2.2.2.2.2.2.2.2.2.2⟩
theorem z_k_mem {σ : z_St} (h : z_Ok σ) (k : Nat) : z_x_mem σ k < 256 := h.1 k
theorem z_ok_reg {σ : z_St} {v : Nat → Nat} (h : z_Ok σ) (hv : ∀ k, v k < 256) : z_Ok (z_s_reg σ v) := ⟨h.1, hv, h.2.2.1, h.2.2.2.1, h.2.2.2.2.1, h.2.2.2.2.2.1, h.2.2.2.2.2.2.1, h.2.2.2.2.2.2.2.1, h.2.2.2.2.2.2.2.2.1, h.2.2.2.2.2.2.2.2.2.1, h.2.2.2.2.2.2.2.2.2.2.1, h.2.2.2.2.2.2.2.2.2.2.2.1, h.2.2.2.2.2.2.2.2.2.2.2.2.1, h.2.2.2.2.2.2.2.2.2.2.2.2.2.1, h.2.2.2.2.2.2.2.2.2.2.2.2.2.2⟩
theorem z_k_reg {σ : z_St} (h : z_Ok σ) (k : Nat) : z_x_reg σ k < 256 := h.2.1 k
theorem z_ok_inn {σ : z_St} {v : Nat → Nat} (h : z_Ok σ) (hv : ∀ k, v k < 256) : z_Ok (z_s_inn σ v) := ⟨h.1, h.2.1, hv, h.2.2.2.1, h.2.2.2.2.1, h.2.2.2.2.2.1, h.2.2.2.2.2.2.1, h.2.2.2.2.2.2.2.1, h.2.2.2.2.2.2.2.2.1, h.2.2.2.2.2.2.2.2.2.1, h.2.2.2.2.2.2.2.2.2.2.1, h.2.2.2.2.2.2.2.2.2.2.2.1, h.2.2.2.2.2.2.2.2.2.2.2.2.1, h.2.2.2.2.2.2.2.2.2.2.2.2.2.1, h.2.2.2.2.2.2.2.2.2.2.2.2.2.2⟩
theorem z_k_inn {σ : z_St} (h : z_Ok σ) (k : Nat) : z_x_inn σ k < 256 := h.2.2.1 k
theorem z_ok_put {σ : z_St} {v : Nat → Nat} (h : z_Ok σ) (hv : ∀ k, v k < 257) : z_Ok (z_s_put σ v) := ⟨h.1, h.2.1, h.2.2.1, hv, h.2.2.2.2.1, h.2.2.2.2.2.1, h.2.2.2.2.2.2.1, h.2.2.2.2.2.2.2.1, h.2.2.2.2.2.2.2.2.1, h.2.2.2.2.2.2.2.2.2.1, h.2.2.2.2.2.2.2.2.2.2.1, h.2.2.2.2.2.2.2.2.2.2.2.1, h.2.2.2.2.2.2.2.2.2.2.2.2.1, h.2.2.2.2.2.2.2.2.2.2.2.2.2.1, h.2.2.2.2.2.2.2.2.2.2.2.2.2.2⟩
theorem z_k_put {σ : z_St} (h : z_Ok σ) (k : Nat) : z_x_put σ k < 257 := h.2.2.2.1 k
theorem z_ok_sp {σ : z_St} {v : Nat} (h : z_Ok σ) (hv : v < 65536) : z_Ok (z_s_sp σ v) := ⟨h.1, h.2.1, h.2.2.1, h.2.2.2.1, hv, h.2.2.2.2.2.1, h.2.2.2.2.2.2.1, h.2.2.2.2.2.2.2.1, h.2.2.2.2.2.2.2.2.1, h.2.2.2.2.2.2.2.2.2.1, h.2.2.2.2.2.2.2.2.2.2.1, h.2.2.2.2.2.2.2.2.2.2.2.1, h.2.2.2.2.2.2.2.2.2.2.2.2.1, h.2.2.2.2.2.2.2.2.2.2.2.2.2.1, h.2.2.2.2.2.2.2.2.2.2.2.2.2.2⟩
theorem z_k_sp {σ : z_St} (h : z_Ok σ) : z_x_sp σ < 65536 := h.2.2.2.2.1
theorem z_ok_pc {σ : z_St} {v : Nat} (h : z_Ok σ) (hv : v < 65536) : z_Ok (z_s_pc σ v) := ⟨h.1, h.2.1, h.2.2.1, h.2.2.2.1, h.2.2.2.2.1, hv, h.2.2.2.2.2.2.1, h.2.2.2.2.2.2.2.1, h.2.2.2.2.2.2.2.2.1, h.2.2.2.2.2.2.2.2.2.1, h.2.2.2.2.2.2.2.2.2.2.1, h.2.2.2.2.2.2.2.2.2.2.2.1, h.2.2.2.2.2.2.2.2.2.2.2.2.1, h.2.2.2.2.2.2.2.2.2.2.2.2.2.1, h.2.2.2.2.2.2.2.2.2.2.2.2.2.2⟩
theorem z_k_pc {σ : z_St} (h : z_Ok σ) : z_x_pc σ < 65536 := h.2.2.2.2.2.1
theorem z_ok_ha {σ : z_St} {v : Nat} (h : z_Ok σ) (hv : v < 2) : z_Ok (z_s_ha σ v) := ⟨h.1, h.2.1, h.2.2.1, h.2.2.2.1, h.2.2.2.2.1, h.2.2.2.2.2.1, hv, h.2.2.2.2.2.2.2.1, h.2.2.2.2.2.2.2.2.1, h.2.2.2.2.2.2.2.2.2.1, h.2.2.2.2.2.2.2.2.2.2.1, h.2.2.2.2.2.2.2.2.2.2.2.1, h.2.2.2.2.2.2.2.2.2.2.2.2.1, h.2.2.2.2.2.2.2.2.2.2.2.2.2.1, h.2.2.2.2.2.2.2.2.2.2.2.2.2.2⟩
theorem z_k_ha {σ : z_St} (h : z_Ok σ) : z_x_ha σ < 2 := h.2.2.2.2.2.2.1
theorem z_ok_it {σ : z_St} {v : Nat} (h : z_Ok σ) (hv : v < 2) : z_Ok (z_s_it σ v) := ⟨h.1, h.2.1, h.2.2.1, h.2.2.2.1, h.2.2.2.2.1, h.2.2.2.2.2.1, h.2.2.2.2.2.2.1, hv, h.2.2.2.2.2.2.2.2.1, h.2.2.2.2.2.2.2.2.2.1, h.2.2.2.2.2.2.2.2.2.2.1, h.2.2.2.2.2.2.2.2.2.2.2.1, h.2.2.2.2.2.2.2.2.2.2.2.2.1, h.2.2.2.2.2.2.2.2.2.2.2.2.2.1, h.2.2.2.2.2.2.2.2.2.2.2.2.2.2⟩
theorem z_k_it {σ : z_St} (h : z_Ok σ) : z_x_it σ < 2 := h.2.2.2.2.2.2.2.1
theorem z_ok_la {σ : z_St} {v : Nat} (h : z_Ok σ) (hv : v < 2) : z_Ok (z_s_la σ v) := ⟨h.1, h.2.1, h.2.2.1, h.2.2.2.1, h.2.2.2.2.1, h.2.2.2.2.2.1, h.2.2.2.2.2.2.1, h.2.2.2.2.2.2.2.1, hv, h.2.2.2.2.2.2.2.2.2.1, h.2.2.2.2.2.2.2.2.2.2.1, h.2.2.2.2.2.2.2.2.2.2.2.1, h.2.2.2.2.2.2.2.2.2.2.2.2.1, h.2.2.2.2.2.2.2.2.2.2.2.2.2.1, h.2.2.2.2.2.2.2.2.2.2.2.2.2.2⟩
theorem z_k_la {σ : z_St} (h : z_Ok σ) : z_x_la σ < 2 := h.2.2.2.2.2.2.2.2.1
theorem z_ok_wa {σ : z_St} {v : Nat} (h : z_Ok σ) (hv : v < 9) : z_Ok (z_s_wa σ v) := ⟨h.1, h.2.1, h.2.2.1, h.2.2.2.1, h.2.2.2.2.1, h.2.2.2.2.2.1, h.2.2.2.2.2.2.1, h.2.2.2.2.2.2.2.1, h.2.2.2.2.2.2.2.2.1, hv, h.2.2.2.2.2.2.2.2.2.2.1, h.2.2.2.2.2.2.2.2.2.2.2.1, h.2.2.2.2.2.2.2.2.2.2.2.2.1, h.2.2.2.2.2.2.2.2.2.2.2.2.2.1, h.2.2.2.2.2.2.2.2.2.2.2.2.2.2⟩
theorem z_k_wa {σ : z_St} (h : z_Ok σ) : z_x_wa σ < 9 := h.2.2.2.2.2.2.2.2.2.1
theorem z_ok_sg {σ : z_St} {v : Nat} (h : z_Ok σ) (hv : v < 2) : z_Ok (z_s_sg σ v) := ⟨h.1, h.2.1, h.2.2.1, h.2.2.2.1, h.2.2.2.2.1, h.2.2.2.2.2.1, h.2.2.2.2.2.2.1, h.2.2.2.2.2.2.2.1, h.2.2.2.2.2.2.2.2.1, h.2.2.2.2.2.2.2.2.2.1, hv, h.2.2.2.2.2.2.2.2.2.2.2.1, h.2.2.2.2.2.2.2.2.2.2.2.2.1, h.2.2.2.2.2.2.2.2.2.2.2.2.2.1, h.2.2.2.2.2.2.2.2.2.2.2.2.2.2⟩
theorem z_k_sg {σ : z_St} (h : z_Ok σ) : z_x_sg σ < 2 := h.2.2.2.2.2.2.2.2.2.2.1
theorem z_ok_ze {σ : z_St} {v : Nat} (h : z_Ok σ) (hv : v < 2) : z_Ok (z_s_ze σ v) := ⟨h.1, h.2.1, h.2.2.1, h.2.2.2.1, h.2.2.2.2.1, h.2.2.2.2.2.1, h.2.2.2.2.2.2.1, h.2.2.2.2.2.2.2.1, h.2.2.2.2.2.2.2.2.1, h.2.2.2.2.2.2.2.2.2.1, h.2.2.2.2.2.2.2.2.2.2.1, hv, h.2.2.2.2.2.2.2.2.2.2.2.2.1, h.2.2.2.2.2.2.2.2.2.2.2.2.2.1, h.2.2.2.2.2.2.2.2.2.2.2.2.2.2⟩
theorem z_k_ze {σ : z_St} (h : z_Ok σ) : z_x_ze σ < 2 := h.2.2.2.2.2.2.2.2.2.2.2.1
theorem z_ok_au {σ : z_St} {v : Nat} (h : z_Ok σ) (hv : v < 2) : z_Ok (z_s_au σ v) := ⟨h.1, h.2.1, h.2.2.1, h.2.2.2.1, h.2.2.2.2.1, h.2.2.2.2.2.1, h.2.2.2.2.2.2.1, h.2.2.2.2.2.2.2.1, h.2.2.2.2.2.2.2.2.1, h.2.2.2.2.2.2.2.2.2.1, h.2.2.2.2.2.2.2.2.2.2.1, h.2.2.2.2.2.2.2.2.2.2.2.1, hv, h.2.2.2.2.2.2.2.2.2.2.2.2.2.1, h.2.2.2.2.2.2.2.2.2.2.2.2.2.2⟩
theorem z_k_au {σ : z_St} (h : z_Ok σ) : z_x_au σ < 2 := h.2.2.2.2.2.2.2.2.2.2.2.2.1
theorem z_ok_pa {σ : z_St} {v : Nat} (h : z_Ok σ) (hv : v < 2) : z_Ok (z_s_pa σ v) := ⟨h.1, h.2.1, h.2.2.1, h.2.2.2.1, h.2.2.2.2.1, h.2.2.2.2.2.1, h.2.2.2.2.2.2.1, h.2.2.2.2.2.2.2.1, h.2.2.2.2.2.2.2.2.1, h.2.2.2.2.2.2.2.2.2.1, h.2.2.2.2.2.2.2.2.2.2.1, h.2.2.2.2.2.2.2.2.2.2.2.1, h.2.2.2.2.2.2.2.2.2.2.2.2.1, hv, h.2.2.2.2.2.2.2.2.2.2.2.2.2.2⟩
theorem z_k_pa {σ : z_St} (h : z_Ok σ) : z_x_pa σ < 2 := h.2.2.2.2.2.2.2.2.2.2.2.2.2.1
theorem z_ok_ca {σ : z_St} {v : Nat} (h : z_Ok σ) (hv : v < 2) : z_Ok (z_s_ca σ v) := ⟨h.1, h.2.1, h.2.2.1, h.2.2.2.1, h.2.2.2.2.1, h.2.2.2.2.2.1, h.2.2.2.2.2.2.1, h.2.2.2.2.2.2.2.1, h.2.2.2.2.2.2.2.2.1, h.2.2.2.2.2.2.2.2.2.1, h.2.2.2.2.2.2.2.2.2.2.1, h.2.2.2.2.2.2.2.2.2.2.2.1, h.2.2.2.2.2.2.2.2.2.2.2.2.1, h.2.2.2.2.2.2.2.2.2.2.2.2.2.1, hv⟩
theorem z_k_ca {σ : z_St} (h : z_Ok σ) : z_x_ca σ < 2 := h.2.2.2.2.2.2.2.2.2.2.2.2.2.2
theorem z_ok_st {σ : z_St} {v : Nat} (h : z_Ok σ) : z_Ok (z_s_st σ v) := h
theorem z_ok_th {σ : z_St} {v : Nat} (h : z_Ok σ) : z_Ok (z_s_th σ v) := h
theorem z_fs_lt {f : Nat → Nat} {B k v : Nat} (h : ∀ j, f j < B) (hv : v < B) : ∀ j, z_fs f k v j < B := fun j => by
  unfold z_fs
  split
  · exact hv
  · exact h j
theorem z_rd_lt {σ : z_St} (h : z_Ok σ) (a : Nat) : z_rd σ a < 256 := by
  unfold z_rd
  split
  · exact z_k_mem h a
  · omega
theorem z_fw_lt {f : Nat → Nat} {B k v : Nat} (h : ∀ j, f j < B) (hv : v < B) : ∀ j, z_fw f k v j < B := by
  unfold z_fw
  split
  · exact z_fs_lt h hv
  · exact h
theorem z_ok_wr {σ : z_St} (h : z_Ok σ) (a : Nat) {v : Nat} (hv : v < 256) : z_Ok (z_wr σ a v) := z_ok_mem h (z_fw_lt (z_k_mem h) hv)
theorem z_pg_lt {σ : z_St} (h : z_Ok σ) (k : Nat) : z_pg σ k < 65536 := by
  unfold z_pg
  have h1 := z_k_reg h (2 * k)
  have h2 := z_k_reg h (2 * k + 1)
  have h3 := z_k_sp h
  split <;> omega
theorem z_ok_A7 {σ : z_St} (h : z_Ok σ) {v : Nat} (hv : v < 256) : z_Ok (z_A7 σ v) := z_ok_reg h (z_fs_lt (z_k_reg h) hv)
theorem z_ok_ps {σ : z_St} (h : z_Ok σ) (k : Nat) {v : Nat} (hv : v < 65536) : z_Ok (z_ps σ k v) := by
  refine z_ok_reg (z_ok_sp h ?_) ?_
  · split
    · exact hv
    · exact z_k_sp h
  · split
    · exact z_k_reg h
    · exact z_fs_lt (z_fs_lt (z_k_reg h) (by omega)) (by omega)
theorem z_rg_lt {σ : z_St} (h : z_Ok σ) (r : Nat) : z_rg σ r < 256 := by
  unfold z_rg
  split
  · exact z_rd_lt h _
  · exact z_k_reg h r
theorem z_ok_rs {σ : z_St} (h : z_Ok σ) (r : Nat) {v : Nat} (hv : v < 256) : z_Ok (z_rs σ r v) := by
  refine z_ok_mem (z_ok_reg h ?_) ?_
  · split
    · exact z_k_reg h
    · exact z_fs_lt (z_k_reg h) hv
  · split
    · exact z_fw_lt (z_k_mem h) hv
    · exact z_k_mem h
theorem z_nb_lt {σ : z_St} (h : z_Ok σ) : z_nb σ < 256 := z_rd_lt h _
theorem z_ok_nx {σ : z_St} (h : z_Ok σ) : z_Ok (z_nx σ) := z_ok_pc h (by omega)
theorem z_nw_lt {σ : z_St} (h : z_Ok σ) : z_nw σ < 65536 := by
  have h1 := z_nb_lt h
  have h2 := z_nb_lt (z_ok_nx h)
  unfold z_nw
  omega
theorem z_ok_nn {σ : z_St} (h : z_Ok σ) : z_Ok (z_nn σ) := z_ok_nx (z_ok_nx h)
theorem z_ok_p1 {σ : z_St} (h : z_Ok σ) {v : Nat} (hv : v < 256) : z_Ok (z_p1 σ v) := z_ok_wr (z_ok_sp h (by omega)) _ hv
theorem z_ok_pu {σ : z_St} (h : z_Ok σ) {v : Nat} (hv : v < 65536) : z_Ok (z_pu σ v) := z_ok_p1 (z_ok_p1 h (by omega)) (by omega)
theorem z_pv_lt {σ : z_St} (h : z_Ok σ) : z_pv σ < 65536 := by
  have h1 := z_rd_lt h (z_x_sp σ)
  have h2 := z_rd_lt h ((z_x_sp σ + 1) % 65536)
  unfold z_pv
  omega
theorem z_ok_po {σ : z_St} (h : z_Ok σ) : z_Ok (z_po σ) := z_ok_sp h (by omega)
theorem z_ok_ct {σ : z_St} (h : z_Ok σ) {a : Nat} (ha : a < 65536) : z_Ok (z_ct σ a) := z_ok_pc (z_ok_pu h (z_k_pc h)) ha
theorem z_fb_lt {σ : z_St} (h : z_Ok σ) : z_fb σ < 256 := by
  have h1 := z_k_sg h
  have h2 := z_k_ze h
  have h3 := z_k_au h
  have h4 := z_k_pa h
  have h5 := z_k_ca h
  unfold z_fb
  omega
theorem z_ok_ff {σ : z_St} (h : z_Ok σ) (v : Nat) : z_Ok (z_ff σ v) := z_ok_ca (z_ok_pa (z_ok_au (z_ok_ze (z_ok_sg h (by omega)) (by omega)) (by omega)) (by omega)) (by omega)
theorem z_par_lt (v : Nat) : z_par v < 2 := by
  unfold z_par
  omega
theorem z_ite_lt2 {c : Prop} {x y : Nat} (d : Decidable c) (hx : x < 2) (hy : y < 2) : (if c then x else y) < 2 := by
  split
  · exact hx
  · exact hy
theorem z_ok_jd {σ : z_St} (h : z_Ok σ) {v : Nat} (hv : v < 256) : z_Ok (z_jd σ v) := z_ok_pa (z_ok_ze (z_ok_sg h (by omega)) (z_ite_lt2 _ (by omega) (by omega))) (z_par_lt v)
theorem z_hold_lt (σ : z_St) (k : Nat) : z_hold σ k < 2 := z_ite_lt2 _ (by omega) (by omega)
theorem z_g1_lt (a b c : Nat) : z_g1 a b c < 2 := z_ite_lt2 _ (by omega) (by omega)
theorem z_g2_lt (a b c : Nat) : z_g2 a b c < 2 := z_ite_lt2 _ (by omega) (by omega)
theorem z_ch_lt (σ : z_St) (k a b : Nat) : z_ch σ k a b < 2 := by
  unfold z_ch
  repeat' split
  all_goals first | exact z_g1_lt _ _ _ | omega
theorem z_cc_lt (σ : z_St) (k a b : Nat) : z_cc_ σ k a b < 2 := by
  unfold z_cc_
  repeat' split
  all_goals first | exact z_g2_lt _ _ _ | omega
theorem z_bit_lt {a b : Nat} (ha : a < 256) (hb : b < 256) : a &&& b < 256 ∧ a ^^^ b < 256 ∧ a ||| b < 256 := ⟨Nat.and_lt_two_pow (n := 8) a hb, Nat.xor_lt_two_pow (n := 8) ha hb, Nat.or_lt_two_pow (n := 8) ha hb⟩
theorem z_cr_lt (σ : z_St) (k : Nat) {a b : Nat} (ha : a < 256) (hb : b < 256) : z_cr σ k a b < 256 := by
  obtain ⟨h1, h2, h3⟩ := z_bit_lt ha hb
  unfold z_cr
  repeat' split
  all_goals omega
theorem z_ok_cs {σ : z_St} (h : z_Ok σ) (k a b : Nat) : z_Ok (z_cs σ k a b) := z_ok_ca (z_ok_au h (z_ch_lt σ k a b)) (z_cc_lt σ k a b)
theorem z_ok_cm {σ : z_St} (h : z_Ok σ) (k : Nat) {a b : Nat} (ha : a < 256) (hb : b < 256) : z_Ok (z_cm σ k a b) := z_ok_jd (z_ok_cs h k a b) (z_cr_lt σ k ha hb)
theorem z_cv_lt (σ : z_St) (k : Nat) {a b : Nat} (ha : a < 256) (hb : b < 256) : z_cv σ k a b < 256 := by
  unfold z_cv
  split
  · exact ha
  · exact z_cr_lt σ k ha hb
theorem z_ok_rk {σ : z_St} (h : z_Ok σ) (k : Nat) {b : Nat} (hb : b < 256) : z_Ok (z_rk σ k b) := z_ok_reg (z_ok_cm h k (z_k_reg h 7) hb) (z_fs_lt (z_k_reg h) (z_cv_lt σ k (z_k_reg h 7) hb))
theorem z_ok_up {σ : z_St} (h : z_Ok σ) (v : Nat) : z_Ok (z_up σ v) := z_ok_jd (z_ok_au h (z_ite_lt2 _ (by omega) (by omega))) (by omega)
theorem z_ok_dn {σ : z_St} (h : z_Ok σ) (v : Nat) : z_Ok (z_dn σ v) := z_ok_jd (z_ok_au h (z_ite_lt2 _ (by omega) (by omega))) (by omega)
theorem z_dh_lt (σ : z_St) (v : Nat) : z_dh σ v < 2 := z_ite_lt2 _ (by omega) (by omega)
theorem z_dv_lt (σ : z_St) (v : Nat) : z_dv σ v < 256 := by
  unfold z_dv
  omega
theorem z_ok_dd {σ : z_St} (h : z_Ok σ) (v : Nat) : z_Ok (z_dd σ v) := z_ok_jd (z_ok_ca (z_ok_au h (z_ite_lt2 _ (by omega) (by omega))) (z_dh_lt σ v)) (z_dv_lt σ v)
theorem z_ok_e2 {σ : z_St} (h : z_Ok σ) (k : Nat) : z_Ok (z_e2 σ k) := by
  unfold z_e2
  repeat' split
  · exact z_ok_wr h _ (z_k_reg h 7)
  · exact z_ok_A7 h (z_rd_lt h _)
  · exact z_ok_wr h _ (z_k_reg h 7)
  · exact z_ok_A7 h (z_rd_lt h _)
  · exact z_ok_wr (z_ok_wr (z_ok_nn h) _ (z_k_reg h 5)) _ (z_k_reg h 4)
  · exact z_ok_reg (z_ok_nn h) (z_fs_lt (z_fs_lt (z_k_reg h) (z_rd_lt h _)) (z_rd_lt h _))
  · exact z_ok_wr (z_ok_nn h) _ (z_k_reg h 7)
  · exact z_ok_A7 (z_ok_nn h) (z_rd_lt h _)
theorem z_ok_e7 {σ : z_St} (h : z_Ok σ) (k : Nat) : z_Ok (z_e7 σ k) := by
  have h7 := z_k_reg h 7
  have hc := z_k_ca h
  unfold z_e7
  repeat' split
  · exact z_ok_A7 (z_ok_ca h (by omega)) (by omega)
  · exact z_ok_A7 (z_ok_ca h (by omega)) (by omega)
  · exact z_ok_A7 (z_ok_ca h (by omega)) (by omega)
  · exact z_ok_A7 (z_ok_ca h (by omega)) (by omega)
  · exact z_ok_A7 (z_ok_dd h _) (z_dv_lt σ _)
  · exact z_ok_A7 h (by omega)
  · exact z_ok_ca h (by omega)
  · exact z_ok_ca h (by omega)
theorem z_ok_ad {σ : z_St} (h : z_Ok σ) (k : Nat) : z_Ok (z_ad σ k) := by
  have h1 := z_pg_lt h 2
  have h2 := z_pg_lt h k
  exact z_ok_ps (z_ok_ca h (by omega)) _ (by omega)
theorem z_ok_ite {c : Prop} {x y : z_St} (d : Decidable c) (hx : z_Ok x) (hy : z_Ok y) : z_Ok (if c then x else y) := by
  split
  · exact hx
  · exact hy
theorem z_ok_ea {σ : z_St} (h : z_Ok σ) (b : Nat) : z_Ok (z_ea σ b) := by
  unfold z_ea
  exact z_ok_ite _ h (z_ok_ite _ (z_ok_ite _ (z_ok_ps (z_ok_nn h) _ (z_nw_lt h)) (z_ok_ad h _)) (z_ok_ite _ (z_ok_e2 h _) (z_ok_ite _ (z_ok_ps h _ (by omega)) (z_ok_ite _ (z_ok_rs (z_ok_up h _) _ (by omega)) (z_ok_ite _ (z_ok_rs (z_ok_dn h _) _ (by omega)) (z_ok_ite _ (z_ok_rs (z_ok_nx h) _ (z_nb_lt h)) (z_ok_e7 h _)))))))
theorem z_ok_eb {σ : z_St} (h : z_Ok σ) (b : Nat) : z_Ok (z_eb σ b) := by
  unfold z_eb
  split
  · exact z_ok_ha h (by omega)
  · exact z_ok_rs h _ (z_rg_lt h _)
theorem z_ok_ec {σ : z_St} (h : z_Ok σ) (b : Nat) : z_Ok (z_ec σ b) := z_ok_rk h _ (z_rg_lt h _)
theorem z_ok_rt {σ : z_St} (h : z_Ok σ) : z_Ok (z_rt σ) := z_ok_pc (z_ok_po h) (z_pv_lt h)
theorem z_ok_pp {σ : z_St} (h : z_Ok σ) (k : Nat) : z_Ok (z_pp σ k) := by
  have h1 := z_pv_lt h
  unfold z_pp
  split
  · exact z_ok_ff (z_ok_A7 (z_ok_po h) (by omega)) _
  · exact z_ok_ps (z_ok_po h) _ h1
theorem z_ok_xs {σ : z_St} (h : z_Ok σ) : z_Ok (z_xs σ) := z_ok_reg (z_ok_wr (z_ok_wr h _ (z_k_reg h 5)) _ (z_k_reg h 4)) (z_fs_lt (z_fs_lt (z_k_reg h) (z_rd_lt h _)) (z_rd_lt h _))
theorem z_ok_xd {σ : z_St} (h : z_Ok σ) : z_Ok (z_xd σ) := z_ok_ps (z_ok_ps h _ (z_pg_lt h 1)) _ (z_pg_lt h 2)
theorem z_ok_e3 {σ : z_St} (h : z_Ok σ) (r : Nat) : z_Ok (z_e3 σ r) := by
  have h7 := z_k_reg h 7
  unfold z_e3
  repeat' split
  · exact z_ok_put (z_ok_nx h) (z_fs_lt (z_k_put h) (by omega))
  · exact z_ok_A7 (z_ok_nx h) (z_k_inn h _)
  · exact z_ok_xs h
  · exact z_ok_xd h
  · exact z_ok_it h (by omega)
  · exact z_ok_it h (by omega)
  · exact z_ok_pc (z_ok_nn h) (z_nw_lt h)
theorem z_pq_lt {σ : z_St} (h : z_Ok σ) (k : Nat) : z_pq σ k < 65536 := by
  have h7 := z_k_reg h 7
  have h8 := z_fb_lt h
  have h9 := z_pg_lt h k
  unfold z_pq
  split <;> omega
theorem z_ok_ed {σ : z_St} (h : z_Ok σ) (b : Nat) : z_Ok (z_ed σ b) := by
  unfold z_ed
  exact z_ok_ite _ (z_ok_ite _ (z_ok_rt h) h) (z_ok_ite _ (z_ok_ite _ (z_ok_pp h _) (z_ok_ite _ (z_ok_pc h (z_pg_lt h 2)) (z_ok_ite _ (z_ok_sp h (z_pg_lt h 2)) (z_ok_rt h)))) (z_ok_ite _ (z_ok_ite _ (z_ok_pc (z_ok_nn h) (z_nw_lt h)) (z_ok_nn h)) (z_ok_ite _ (z_ok_e3 h _) (z_ok_ite _ (z_ok_ite _ (z_ok_ct (z_ok_nn h) (z_nw_lt h)) (z_ok_nn h)) (z_ok_ite _ (z_ok_ite _ (z_ok_pu h (z_pq_lt h _)) (z_ok_ct (z_ok_nn h) (z_nw_lt h))) (z_ok_ite _ (z_ok_rk (z_ok_nx h) _ (z_nb_lt h)) (z_ok_ct h (by omega))))))))
theorem z_ok_ex {σ : z_St} (h : z_Ok σ) (b : Nat) : z_Ok (z_ex σ b) := by
  unfold z_ex
  repeat' split
  · exact z_ok_ea h b
  · exact z_ok_eb h b
  · exact z_ok_ec h b
  · exact z_ok_ed h b
theorem z_ok_li {σ : z_St} (h : z_Ok σ) : z_Ok (z_li σ) := by
  have h1 := z_k_wa h
  exact z_ok_wa (z_ok_ct (z_ok_ha (z_ok_it h (by omega)) (by omega)) (by omega)) (by omega)
theorem z_ok_go {σ : z_St} (h : z_Ok σ) : z_Ok (z_go σ) := z_ok_la (z_ok_nx h) (z_ite_lt2 _ (by omega) (by omega))
theorem z_ok_sx {σ : z_St} (h : z_Ok σ) : z_Ok (z_sx σ) := by
  unfold z_sx
  repeat' split
  · exact z_ok_st (z_ok_li h)
  · exact z_ok_st h
  · exact z_ok_st (z_ok_ex (z_ok_go h) _)
theorem z_sv_lt (σ : z_St) : z_sv σ < 2 := by
  unfold z_sv
  repeat' split
  all_goals omega
theorem z_ok_rx : ∀ (n : Nat) {σ : z_St}, z_Ok σ → z_Ok (z_rx n σ)
  | 0, _, h => h
  | n + 1, _, h => z_ok_rx n (z_ok_sx h)
theorem z_rv_le : ∀ (n : Nat) (σ : z_St), z_rv n σ ≤ n
  | 0, _ => Nat.le_refl 0
  | n + 1, σ => by
    have h1 := z_sv_lt σ
    have h2 := z_rv_le n (z_sx σ)
    show z_sv σ + z_rv n (z_sx σ) ≤ n + 1
    omega
theorem z_fo_lt {σ : z_St} (h : z_Ok σ) (j : Nat) : z_fo σ j < 2 := by
  unfold z_fo
  have h1 := z_k_ze h
  have h2 := z_k_ca h
  have h3 := z_k_pa h
  have h4 := z_k_sg h
  repeat' split
  all_goals assumption
theorem z_t2_lt (k : Nat) : z_t2 k < 17 := by
  unfold z_t2
  repeat' split
  all_goals omega
theorem z_ta_lt (b : Nat) : z_ta b < 17 := by
  have h := z_t2_lt (b / 8)
  unfold z_ta
  repeat' split
  all_goals omega
theorem z_tb_lt (b : Nat) : z_tb b < 8 := by
  unfold z_tb
  repeat' split
  all_goals omega
theorem z_tc_lt (b : Nat) : z_tc b < 8 := by
  unfold z_tc
  repeat' split
  all_goals omega
theorem z_t3_lt (r : Nat) : z_t3 r < 19 := by
  unfold z_t3
  repeat' split
  all_goals omega
theorem z_td_lt (σ : z_St) (b : Nat) : z_td σ b < 19 := by
  have h := z_t3_lt (b / 8 % 8)
  unfold z_td
  repeat' split
  all_goals omega
theorem z_ok_j1 {σ : z_St} (h : z_Ok σ) (k : Nat) : z_Ok (if z_hold σ k = 1 then z_s_pc (z_nn σ) (z_nw σ) else z_nn σ) := by
  split
  · exact z_ok_pc (z_ok_nn h) (z_nw_lt h)
  · exact z_ok_nn h
theorem z_ok_j2 {σ : z_St} (h : z_Ok σ) (k : Nat) : z_Ok (if z_hold σ k = 1 then z_ct (z_nn σ) (z_nw σ) else z_nn σ) := by
  split
  · exact z_ok_ct (z_ok_nn h) (z_nw_lt h)
  · exact z_ok_nn h
theorem z_ok_j3 {σ : z_St} (h : z_Ok σ) (k : Nat) : z_Ok (if z_hold σ k = 1 then z_rt σ else σ) := by
  split
  · exact z_ok_rt h
  · exact h
theorem z_ok_j4 {σ : z_St} (h : z_Ok σ) (k : Nat) : z_Ok (if k = 2 then z_s_pc σ (z_pg σ 2) else if k = 3 then z_s_sp σ (z_pg σ 2) else z_rt σ) := by
  repeat' split
  · exact z_ok_pc h (z_pg_lt h 2)
  · exact z_ok_sp h (z_pg_lt h 2)
  · exact z_ok_rt h
end
section
/-! rows of instructions over numbers: what stands on the stack is nI of a number -/
theorem nz_and (a b : Nat) : nI a &&& nI b = nI (a &&& b) := by
  apply Int32.toBitVec_inj.1
  show BitVec.ofNat 32 a &&& BitVec.ofNat 32 b = BitVec.ofNat 32 (a &&& b)
  apply BitVec.eq_of_getLsbD_eq
  intro i hi
  simp [hi]
theorem nz_or (a b : Nat) : nI a ||| nI b = nI (a ||| b) := by
  apply Int32.toBitVec_inj.1
  show BitVec.ofNat 32 a ||| BitVec.ofNat 32 b = BitVec.ofNat 32 (a ||| b)
  apply BitVec.eq_of_getLsbD_eq
  intro i hi
  simp [hi]
theorem nz_xor (a b : Nat) : nI a ^^^ nI b = nI (a ^^^ b) := by
  apply Int32.toBitVec_inj.1
  show BitVec.ofNat 32 a ^^^ BitVec.ofNat 32 b = BitVec.ofNat 32 (a ^^^ b)
  apply BitVec.eq_of_getLsbD_eq
  intro i hi
  simp [hi]
theorem nz_mask (a : Nat) {q M : Nat} (k : Nat) (hq : q = 2 ^ k - 1) (hM : 2 ^ k = M) : nI a &&& nI q = nI (a % M) := by
  subst hq; subst hM
  rw [nz_and, Nat.and_two_pow_sub_one_eq_mod]
theorem nz_or256 (a : Nat) {b : Nat} (h : b < 256) : nI (a * 256) ||| nI b = nI (a * 256 + b) := by
  have e := Nat.two_pow_add_eq_or_of_lt (i := 8) (b := b) h a
  rw [nz_or, Nat.mul_comm a 256, ← show 2 ^ 8 * a + b = 256 * a ||| b from e]
theorem nz_sh : ∀ k, k < 32 → ((nI k &&& 31).toBitVec.smod 32).toNat = k := by decide +kernel
theorem nz_shl {a k M : Nat} (hk : k < 32) (hM : 2 ^ k = M) (h : a * M < 2 ^ 32) : nI a <<< (nI k &&& 31) = nI (a * M) := by
  subst hM
  exact pk_shlN _ k (nz_sh k hk) h
theorem nz_shr {a k M : Nat} (hk : k < 32) (hM : 2 ^ k = M) (h : a < 2 ^ 31) : nI a >>> (nI k &&& 31) = nI (a / M) := by
  subst hM
  exact pk_shrN h _ k (nz_sh k hk)
theorem nz_eq0 {a : Nat} (ha : a < 2 ^ 31) : nI a = 0 ↔ a = 0 := by
  rw [← nI_0]
  exact nI_eq ha (by omega)
theorem nz_lt0 {a : Nat} (ha : a < 2 ^ 31) : ¬ nI a < 0 := nI_pos ha
theorem nz_le0 {a : Nat} (ha : a < 2 ^ 31) : nI a ≤ 0 ↔ a = 0 := by
  rw [← nI_0, nI_leI ha (by omega)]
  omega
theorem nz_dec {a : Nat} (ha : a < 65536) : (nI a - nI 1) &&& nI 65535 = nI ((a + 65535) % 65536) := by
  have e : nI a - nI 1 = nI (a + 4294967295) := by
    rw [show a + 4294967295 = a + 4294967295 from rfl, ← nI_add]
    rw [show nI 4294967295 = - nI 1 from by decide +kernel, Int32.sub_eq_add_neg]
  rw [e, nz_mask _ 16 rfl rfl]
  exact congrArg nI (by omega)
theorem nz_dec8 {a : Nat} (ha : a < 256) : (nI a - nI 1) &&& nI 255 = nI ((a + 255) % 256) := by
  have e : nI a - nI 1 = nI (a + 4294967295) := by
    rw [show a + 4294967295 = a + 4294967295 from rfl, ← nI_add]
    rw [show nI 4294967295 = - nI 1 from by decide +kernel, Int32.sub_eq_add_neg]
  rw [e, nz_mask _ 8 rfl rfl]
  exact congrArg nI (by omega)
theorem nz_addm1 {a : Nat} (ha : a < 65536) : (nI a + (-1)) &&& nI 65535 = nI ((a + 65535) % 65536) := by
  rw [show (-1 : Int32) = nI 4294967295 from by decide +kernel, nI_add, nz_mask _ 16 rfl rfl]
  exact congrArg nI (by omega)
end
section
abbrev rmz (fr lo : Nat) : Room := { frames := fr, cells := 0, slots := 0, locals := lo }
theorem nz_nar {x : Nat} (hx : x < 2) : narrow .boolean (.int (nI x)) = .int (nI x) := by
  rcases (by omega : x = 0 ∨ x = 1) with rfl | rfl <;> decide +kernel
theorem nz_fit {x : Nat} (hx : x < 2) : fits .boolean (.int (nI x)) = true := by
  rcases (by omega : x = 0 ∨ x = 1) with rfl | rfl <;> decide +kernel
theorem nz_upd (f : Nat → Nat) (i v : Nat) : upd (fun k => nI (f k)) i (nI v) = fun k => nI (z_fs f i v k) := by
  funext j
  unfold upd z_fs
  split <;> rfl
theorem nz_updm (f : Nat → Nat) (i v : Nat) : upd (fun k => nI (f k) - 1) i (nI v) = fun k => nI (z_fs f i (v + 1) k) - 1 := by
  funext j
  unfold upd z_fs
  split
  · rw [← nI_1]
    simp
  · rfl
theorem z_ite_ltB {c : Prop} {x y B : Nat} (d : Decidable c) (hx : x < B) (hy : y < B) : (if c then x else y) < B := by
  split
  · exact hx
  · exact hy
/-! numbers: what the class's and the reference's calculations come to -/
def z_pc_ (v : Nat) : Nat := v % 2 + v / 2 % 2 + v / 4 % 2 + v / 8 % 2 + v / 16 % 2 + v / 32 % 2 + v / 64 % 2 + v / 128 % 2
theorem z_pc_lt (v : Nat) : z_pc_ v < 9 := by
  unfold z_pc_
  omega
theorem nz_b128 : ∀ v, v < 256 → (if v &&& 128 = 0 then 0 else 1) = v / 128 % 2 := by decide +kernel
theorem nz_b64 : ∀ v, v < 256 → (if v &&& 64 = 0 then 0 else 1) = v / 64 % 2 := by decide +kernel
theorem nz_b16 : ∀ v, v < 256 → (if v &&& 16 = 0 then 0 else 1) = v / 16 % 2 := by decide +kernel
theorem nz_b4 : ∀ v, v < 256 → (if v &&& 4 = 0 then 0 else 1) = v / 4 % 2 := by decide +kernel
theorem nz_s128 : ∀ v, v < 256 → (if v &&& 128 = 0 then 0 else 1) = v / 128 := by decide +kernel
theorem nz_b8 : ∀ v, v < 256 → v &&& 8 = 8 * (v / 8 % 2) := by decide +kernel
theorem nz_b56 : ∀ v, v < 256 → v &&& 56 = 8 * (v / 8 % 8) := by decide +kernel
theorem nz_b1 (v : Nat) : (if v % 2 = 0 then 0 else 1) = v % 2 := by
  split <;> omega
theorem nz_m1 (k : Nat) : (if k % 2 = 1 then 1 else 0) = k % 2 := by
  split <;> omega
theorem nz_bit {x : Nat} (h : x < 2) : (if x = 0 then 0 else 1) = x := by
  split <;> omega
theorem nz_not {x : Nat} (h : x < 2) : (if x = 0 then 1 else 0) = 1 - x := by
  split <;> omega
theorem nz_if (a b : Nat) : (if a ≤ b then 0 else 1) = (if b < a then 1 else 0) := by
  split <;> split <;> omega
theorem nz_par : ∀ v, v < 256 → (if z_pc_ v % 2 = 0 then 1 else 0) = z_par v := by decide +kernel
theorem nz_left : ∀ v, v < 256 → ∀ z, z < 2 → (v * 2 ||| z) % 256 = v % 128 * 2 + z := by decide +kernel
theorem nz_right : ∀ v, v < 256 → ∀ z, z < 2 → (v / 2 ||| z * 128) = v / 2 + z * 128 := by decide +kernel
theorem nz_fb {σ : z_St} (h : z_Ok σ) : nI (((((2 ||| (if z_x_sg σ = 0 then 0 else 128)) ||| (if z_x_ze σ = 0 then 0 else 64)) ||| (if z_x_au σ = 0 then 0 else 16)) ||| (if z_x_pa σ = 0 then 0 else 4)) ||| (if z_x_ca σ = 0 then 0 else 1)) = nI (z_fb σ) := by
  have h1 := z_k_sg h
  have h2 := z_k_ze h
  have h3 := z_k_au h
  have h4 := z_k_pa h
  have h5 := z_k_ca h
  unfold z_fb
  generalize z_x_sg σ = a at *
  generalize z_x_ze σ = b at *
  generalize z_x_au σ = c at *
  generalize z_x_pa σ = d at *
  generalize z_x_ca σ = e at *
  rcases (by omega : a = 0 ∨ a = 1) with rfl | rfl <;> rcases (by omega : b = 0 ∨ b = 1) with rfl | rfl <;> rcases (by omega : c = 0 ∨ c = 1) with rfl | rfl <;> rcases (by omega : d = 0 ∨ d = 1) with rfl | rfl <;> rcases (by omega : e = 0 ∨ e = 1) with rfl | rfl <;> decide +kernel
theorem nz_t3 : ∀ x, x < 256 → ((x &&& 8 = 0) ↔ x.testBit 3 = false) := by decide +kernel
theorem nz_a8 {a b : Nat} (ha : a < 256) (hb : b < 256) : (if (a ||| b) &&& 8 = 0 then 0 else 1) = (if a / 8 % 2 = 1 ∨ b / 8 % 2 = 1 then 1 else 0) := by
  have h1 := nz_t3 (a ||| b) (z_bit_lt ha hb).2.2
  rw [Nat.testBit_or] at h1
  have e1 : a.testBit 3 = decide (a / 8 % 2 = 1) := Nat.testBit_eq_decide_div_mod_eq
  have z_e2 : b.testBit 3 = decide (b / 8 % 2 = 1) := Nat.testBit_eq_decide_div_mod_eq
  rw [e1, z_e2] at h1
  by_cases ha8 : a / 8 % 2 = 1
  · simp [ha8] at h1
    simp [ha8, h1]
  · by_cases hb8 : b / 8 % 2 = 1
    · simp [ha8, hb8] at h1
      simp [ha8, hb8, h1]
    · simp [ha8, hb8] at h1
      simp [ha8, hb8, h1]
theorem nz_wam {w : Nat} (hw : w < 2 ^ 31) : nI w - 1 = -1 ↔ w = 0 := by
  constructor
  · intro h
    have e : nI w = 0 := by
      have := congrArg (· + 1) h
      simpa using this
    exact (nz_eq0 hw).mp e
  · rintro rfl
    decide +kernel
theorem nz_pred {w : Nat} (h : w ≠ 0) : nI w - 1 = nI (w - 1) := by
  obtain ⟨k, rfl⟩ : ∃ k, w = k + 1 := ⟨w - 1, by omega⟩
  exact nI_pred k
end
section
section
variable {p : Program} {l : Launch} {e : Env} {R : Room} {s : State} {m : MethodId} {args : Array Value} {below : List Frame} {meth : Method} {c : Code} {H : Heap} {locs : List Loc} {cells slots : Nat} {Q : State → Prop} {cc : ByteArray} {nL : Nat} {Ts : List Cond} {own : String} {pc : Nat} {ls : Array Slot} {rest : List Value}
theorem nv_iconst (K : CallFix p m c cc nL s args Ts own) {n : Int} {v : Nat} (hd : decode cc pc = .ok (.iconst n, 1)) (hv : Int32.ofInt n = nI v) (k : W p l e R s m args below meth c H locs cells slots Q (F0 m (pc + 1) ls (.int (nI v) :: rest))) : W p l e R s m args below meth c H locs cells slots Q (F0 m pc ls rest) := lv_iconst K.1 K.2.1 hd hv k
theorem nv_bipush (K : CallFix p m c cc nL s args Ts own) {n : Int} {v : Nat} (hd : decode cc pc = .ok (.bipush n, 2)) (hv : (Int8.ofInt n).toInt32 = nI v) (k : W p l e R s m args below meth c H locs cells slots Q (F0 m (pc + 2) ls (.int (nI v) :: rest))) : W p l e R s m args below meth c H locs cells slots Q (F0 m pc ls rest) := lv_bipush K.1 K.2.1 hd hv k
theorem nv_sipush (K : CallFix p m c cc nL s args Ts own) {n : Int} {v : Nat} (hd : decode cc pc = .ok (.sipush n, 3)) (hv : (Int16.ofInt n).toInt32 = nI v) (k : W p l e R s m args below meth c H locs cells slots Q (F0 m (pc + 3) ls (.int (nI v) :: rest))) : W p l e R s m args below meth c H locs cells slots Q (F0 m pc ls rest) := lv_sipush K.1 K.2.1 hd hv k
theorem nv_ldc (K : CallFix p m c cc nL s args Ts own) {i v : Nat} (hd : decode cc pc = .ok (.ldc i, 2)) (hc : (Jvm.Cond.constant own i (nI v)).before args s = true) (k : W p l e R s m args below meth c H locs cells slots Q (F0 m (pc + 2) ls (.int (nI v) :: rest))) : W p l e R s m args below meth c H locs cells slots Q (F0 m pc ls rest) := lv_ldc K.1 K.2.1 K.2.2.2.1 hc hd k
theorem nv_iadd (K : CallFix p m c cc nL s args Ts own) {a b : Nat}  (hd : decode cc pc = .ok (.iadd, 1)) (k : W p l e R s m args below meth c H locs cells slots Q (F0 m (pc + 1) ls (.int (nI (a + b)) :: rest))) : W p l e R s m args below meth c H locs cells slots Q (F0 m pc ls (.int (nI b) :: .int (nI a) :: rest)) := lv_iadd K.1 K.2.1 hd (by rw [nI_add]; exact k)
theorem nv_imul (K : CallFix p m c cc nL s args Ts own) {a b : Nat}  (hd : decode cc pc = .ok (.imul, 1)) (k : W p l e R s m args below meth c H locs cells slots Q (F0 m (pc + 1) ls (.int (nI (a * b)) :: rest))) : W p l e R s m args below meth c H locs cells slots Q (F0 m pc ls (.int (nI b) :: .int (nI a) :: rest)) := lv_imul K.1 K.2.1 hd (by rw [pk_mul]; exact k)
theorem nv_isub (K : CallFix p m c cc nL s args Ts own) {a b : Nat} (h : b ≤ a) (hd : decode cc pc = .ok (.isub, 1)) (k : W p l e R s m args below meth c H locs cells slots Q (F0 m (pc + 1) ls (.int (nI (a - b)) :: rest))) : W p l e R s m args below meth c H locs cells slots Q (F0 m pc ls (.int (nI b) :: .int (nI a) :: rest)) := lv_isub K.1 K.2.1 hd (by rw [pk_sub h]; exact k)
theorem nv_iand (K : CallFix p m c cc nL s args Ts own) {a b : Nat}  (hd : decode cc pc = .ok (.iand, 1)) (k : W p l e R s m args below meth c H locs cells slots Q (F0 m (pc + 1) ls (.int (nI (a &&& b)) :: rest))) : W p l e R s m args below meth c H locs cells slots Q (F0 m pc ls (.int (nI b) :: .int (nI a) :: rest)) := lv_iand K.1 K.2.1 hd (by rw [nz_and]; exact k)
theorem nv_ior (K : CallFix p m c cc nL s args Ts own) {a b : Nat}  (hd : decode cc pc = .ok (.ior, 1)) (k : W p l e R s m args below meth c H locs cells slots Q (F0 m (pc + 1) ls (.int (nI (a ||| b)) :: rest))) : W p l e R s m args below meth c H locs cells slots Q (F0 m pc ls (.int (nI b) :: .int (nI a) :: rest)) := lv_ior K.1 K.2.1 hd (by rw [nz_or]; exact k)
theorem nv_ixor (K : CallFix p m c cc nL s args Ts own) {a b : Nat}  (hd : decode cc pc = .ok (.ixor, 1)) (k : W p l e R s m args below meth c H locs cells slots Q (F0 m (pc + 1) ls (.int (nI (a ^^^ b)) :: rest))) : W p l e R s m args below meth c H locs cells slots Q (F0 m pc ls (.int (nI b) :: .int (nI a) :: rest)) := lv_ixor K.1 K.2.1 hd (by rw [nz_xor]; exact k)
theorem nv_mask (K : CallFix p m c cc nL s args Ts own) {a q M : Nat} (j : Nat) (hq : q = 2 ^ j - 1) (hM : 2 ^ j = M) (hd : decode cc pc = .ok (.iand, 1)) (k : W p l e R s m args below meth c H locs cells slots Q (F0 m (pc + 1) ls (.int (nI (a % M)) :: rest))) : W p l e R s m args below meth c H locs cells slots Q (F0 m pc ls (.int (nI q) :: .int (nI a) :: rest)) := lv_iand K.1 K.2.1 hd (by rw [nz_mask a j hq hM]; exact k)
theorem nv_or256 (K : CallFix p m c cc nL s args Ts own) {a b : Nat} (h : b < 256) (hd : decode cc pc = .ok (.ior, 1)) (k : W p l e R s m args below meth c H locs cells slots Q (F0 m (pc + 1) ls (.int (nI (a * 256 + b)) :: rest))) : W p l e R s m args below meth c H locs cells slots Q (F0 m pc ls (.int (nI b) :: .int (nI (a * 256)) :: rest)) := lv_ior K.1 K.2.1 hd (by rw [nz_or256 a h]; exact k)
theorem nv_ishl (K : CallFix p m c cc nL s args Ts own) {a j M : Nat} (hk : j < 32) (hM : 2 ^ j = M) (h : a * M < 2 ^ 32) (hd : decode cc pc = .ok (.ishl, 1)) (k : W p l e R s m args below meth c H locs cells slots Q (F0 m (pc + 1) ls (.int (nI (a * M)) :: rest))) : W p l e R s m args below meth c H locs cells slots Q (F0 m pc ls (.int (nI j) :: .int (nI a) :: rest)) := lv_ishl K.1 K.2.1 hd (by rw [nz_shl hk hM h]; exact k)
theorem nv_ishr (K : CallFix p m c cc nL s args Ts own) {a j M : Nat} (hk : j < 32) (hM : 2 ^ j = M) (h : a < 2 ^ 31) (hd : decode cc pc = .ok (.ishr, 1)) (k : W p l e R s m args below meth c H locs cells slots Q (F0 m (pc + 1) ls (.int (nI (a / M)) :: rest))) : W p l e R s m args below meth c H locs cells slots Q (F0 m pc ls (.int (nI j) :: .int (nI a) :: rest)) := lv_ishr K.1 K.2.1 hd (by rw [nz_shr hk hM h]; exact k)
theorem nv_idiv (K : CallFix p m c cc nL s args Ts own) {a d : Nat} (ha : a < 2 ^ 31) (h0 : 0 < d) (hd2 : d < 2 ^ 31) (hd : decode cc pc = .ok (.idiv, 1)) (k : W p l e R s m args below meth c H locs cells slots Q (F0 m (pc + 1) ls (.int (nI (a / d)) :: rest))) : W p l e R s m args below meth c H locs cells slots Q (F0 m pc ls (.int (nI d) :: .int (nI a) :: rest)) := lv_idiv K.1 K.2.1 hd (nI_ne0 h0 hd2) (by rw [pk_div ha h0 hd2]; exact k)
theorem nv_irem (K : CallFix p m c cc nL s args Ts own) {a d : Nat} (ha : a < 2 ^ 31) (h0 : 0 < d) (hd2 : d < 2 ^ 31) (hd : decode cc pc = .ok (.irem, 1)) (k : W p l e R s m args below meth c H locs cells slots Q (F0 m (pc + 1) ls (.int (nI (a % d)) :: rest))) : W p l e R s m args below meth c H locs cells slots Q (F0 m pc ls (.int (nI d) :: .int (nI a) :: rest)) := lv_irem K.1 K.2.1 hd (nI_ne0 h0 hd2) (by rw [pk_rem ha h0 hd2]; exact k)
theorem nv_as (K : CallFix p m c cc nL s args Ts own) {x y : Int32} (h : x = y) (k : W p l e R s m args below meth c H locs cells slots Q (F0 m pc ls (.int y :: rest))) : W p l e R s m args below meth c H locs cells slots Q (F0 m pc ls (.int x :: rest)) := by rw [h]; exact k
theorem lv_asl (K : CallFix p m c cc nL s args Ts own) {x y : Int64} (h : x = y) (k : W p l e R s m args below meth c H locs cells slots Q (F0 m pc ls (.long y :: rest))) : W p l e R s m args below meth c H locs cells slots Q (F0 m pc ls (.long x :: rest)) := by rw [h]; exact k
-- compares with 0, of two numbers; forks that meet again with one value
theorem nv_if_eq (K : CallFix p m c cc nL s args Ts own) {off : Int} {tgt : Nat} {a : Nat} (ha : a < 2 ^ 31) (hd : decode cc pc = .ok (.ifCond .eq off, 3)) (ht : (pc : Int) + off = (tgt : Int)) (kt : a = 0 → W p l e R s m args below meth c H locs cells slots Q (F0 m tgt ls rest)) (kf : ¬ a = 0 → W p l e R s m args below meth c H locs cells slots Q (F0 m (pc + 3) ls rest)) : W p l e R s m args below meth c H locs cells slots Q (F0 m pc ls (.int (nI a) :: rest)) := lv_if_eq K.1 K.2.1 hd ht (fun h => kt ((nz_eq0 ha).mp h)) (fun h => kf (fun q => h ((nz_eq0 ha).mpr q)))
theorem nv_if_ne (K : CallFix p m c cc nL s args Ts own) {off : Int} {tgt : Nat} {a : Nat} (ha : a < 2 ^ 31) (hd : decode cc pc = .ok (.ifCond .ne off, 3)) (ht : (pc : Int) + off = (tgt : Int)) (kt : ¬ a = 0 → W p l e R s m args below meth c H locs cells slots Q (F0 m tgt ls rest)) (kf : a = 0 → W p l e R s m args below meth c H locs cells slots Q (F0 m (pc + 3) ls rest)) : W p l e R s m args below meth c H locs cells slots Q (F0 m pc ls (.int (nI a) :: rest)) := lv_if_ne K.1 K.2.1 hd ht (fun h => kt (fun q => h ((nz_eq0 ha).mpr q))) (fun h => kf ((nz_eq0 ha).mp h))
theorem nv_if_le (K : CallFix p m c cc nL s args Ts own) {off : Int} {tgt : Nat} {a : Nat} (ha : a < 2 ^ 31) (hd : decode cc pc = .ok (.ifCond .le off, 3)) (ht : (pc : Int) + off = (tgt : Int)) (kt : a = 0 → W p l e R s m args below meth c H locs cells slots Q (F0 m tgt ls rest)) (kf : ¬ a = 0 → W p l e R s m args below meth c H locs cells slots Q (F0 m (pc + 3) ls rest)) : W p l e R s m args below meth c H locs cells slots Q (F0 m pc ls (.int (nI a) :: rest)) := lv_if_le K.1 K.2.1 hd ht (fun h => kt ((nz_le0 ha).mp h)) (fun h => kf (fun q => h ((nz_le0 ha).mpr q)))
theorem nv_if_lt (K : CallFix p m c cc nL s args Ts own) {off : Int} {tgt a : Nat} (ha : a < 2 ^ 31) (hd : decode cc pc = .ok (.ifCond .lt off, 3)) (ht : (pc : Int) + off = (tgt : Int)) (k : W p l e R s m args below meth c H locs cells slots Q (F0 m (pc + 3) ls rest)) : W p l e R s m args below meth c H locs cells slots Q (F0 m pc ls (.int (nI a) :: rest)) := lv_if_lt K.1 K.2.1 hd ht (fun h => absurd h (nz_lt0 ha)) (fun _ => k)
theorem nv_icmp_eq (K : CallFix p m c cc nL s args Ts own) {off : Int} {tgt : Nat} {a b : Nat} (ha : a < 2 ^ 31) (hb : b < 2 ^ 31) (hd : decode cc pc = .ok (.if_icmp .eq off, 3)) (ht : (pc : Int) + off = (tgt : Int)) (kt : a = b → W p l e R s m args below meth c H locs cells slots Q (F0 m tgt ls rest)) (kf : ¬ a = b → W p l e R s m args below meth c H locs cells slots Q (F0 m (pc + 3) ls rest)) : W p l e R s m args below meth c H locs cells slots Q (F0 m pc ls (.int (nI b) :: .int (nI a) :: rest)) := lv_icmp_eq K.1 K.2.1 hd ht (fun h => kt ((nI_eq ha hb).mp h)) (fun h => kf (fun q => h ((nI_eq ha hb).mpr q)))
theorem nv_icmp_ne (K : CallFix p m c cc nL s args Ts own) {off : Int} {tgt : Nat} {a b : Nat} (ha : a < 2 ^ 31) (hb : b < 2 ^ 31) (hd : decode cc pc = .ok (.if_icmp .ne off, 3)) (ht : (pc : Int) + off = (tgt : Int)) (kt : ¬ a = b → W p l e R s m args below meth c H locs cells slots Q (F0 m tgt ls rest)) (kf : a = b → W p l e R s m args below meth c H locs cells slots Q (F0 m (pc + 3) ls rest)) : W p l e R s m args below meth c H locs cells slots Q (F0 m pc ls (.int (nI b) :: .int (nI a) :: rest)) := lv_icmp_ne K.1 K.2.1 hd ht (fun h => kt (fun q => h ((nI_eq ha hb).mpr q))) (fun h => kf ((nI_eq ha hb).mp h))
theorem nv_icmp_lt (K : CallFix p m c cc nL s args Ts own) {off : Int} {tgt : Nat} {a b : Nat} (ha : a < 2 ^ 31) (hb : b < 2 ^ 31) (hd : decode cc pc = .ok (.if_icmp .lt off, 3)) (ht : (pc : Int) + off = (tgt : Int)) (kt : a < b → W p l e R s m args below meth c H locs cells slots Q (F0 m tgt ls rest)) (kf : ¬ a < b → W p l e R s m args below meth c H locs cells slots Q (F0 m (pc + 3) ls rest)) : W p l e R s m args below meth c H locs cells slots Q (F0 m pc ls (.int (nI b) :: .int (nI a) :: rest)) := lv_icmp_lt K.1 K.2.1 hd ht (fun h => kt ((nI_ltI ha hb).mp h)) (fun h => kf (fun q => h ((nI_ltI ha hb).mpr q)))
theorem nv_icmp_le (K : CallFix p m c cc nL s args Ts own) {off : Int} {tgt : Nat} {a b : Nat} (ha : a < 2 ^ 31) (hb : b < 2 ^ 31) (hd : decode cc pc = .ok (.if_icmp .le off, 3)) (ht : (pc : Int) + off = (tgt : Int)) (kt : a ≤ b → W p l e R s m args below meth c H locs cells slots Q (F0 m tgt ls rest)) (kf : ¬ a ≤ b → W p l e R s m args below meth c H locs cells slots Q (F0 m (pc + 3) ls rest)) : W p l e R s m args below meth c H locs cells slots Q (F0 m pc ls (.int (nI b) :: .int (nI a) :: rest)) := lv_icmp_le K.1 K.2.1 hd ht (fun h => kt ((nI_leI ha hb).mp h)) (fun h => kf (fun q => h ((nI_leI ha hb).mpr q)))
theorem nv_icmp_gt (K : CallFix p m c cc nL s args Ts own) {off : Int} {tgt : Nat} {a b : Nat} (ha : a < 2 ^ 31) (hb : b < 2 ^ 31) (hd : decode cc pc = .ok (.if_icmp .gt off, 3)) (ht : (pc : Int) + off = (tgt : Int)) (kt : b < a → W p l e R s m args below meth c H locs cells slots Q (F0 m tgt ls rest)) (kf : ¬ b < a → W p l e R s m args below meth c H locs cells slots Q (F0 m (pc + 3) ls rest)) : W p l e R s m args below meth c H locs cells slots Q (F0 m pc ls (.int (nI b) :: .int (nI a) :: rest)) := lv_icmp_gt K.1 K.2.1 hd ht (fun h => kt ((nI_ltI hb ha).mp h)) (fun h => kf (fun q => h ((nI_ltI hb ha).mpr q)))
theorem nv_icmp_ge (K : CallFix p m c cc nL s args Ts own) {off : Int} {tgt : Nat} {a b : Nat} (ha : a < 2 ^ 31) (hb : b < 2 ^ 31) (hd : decode cc pc = .ok (.if_icmp .ge off, 3)) (ht : (pc : Int) + off = (tgt : Int)) (kt : b ≤ a → W p l e R s m args below meth c H locs cells slots Q (F0 m tgt ls rest)) (kf : ¬ b ≤ a → W p l e R s m args below meth c H locs cells slots Q (F0 m (pc + 3) ls rest)) : W p l e R s m args below meth c H locs cells slots Q (F0 m pc ls (.int (nI b) :: .int (nI a) :: rest)) := lv_icmp_ge K.1 K.2.1 hd ht (fun h => kt ((nI_leI hb ha).mp h)) (fun h => kf (fun q => h ((nI_leI hb ha).mpr q)))
theorem nf_if_eq (K : CallFix p m c cc nL s args Ts own) {off : Int} {tgt Y u v : Nat} {a : Nat} (ha : a < 2 ^ 31) (hd : decode cc pc = .ok (.ifCond .eq off, 3)) (ht : (pc : Int) + off = (tgt : Int)) (kt : a = 0 → W p l e R s m args below meth c H locs cells slots Q (F0 m Y ls (.int (nI u) :: rest)) → W p l e R s m args below meth c H locs cells slots Q (F0 m tgt ls rest)) (kf : ¬ a = 0 → W p l e R s m args below meth c H locs cells slots Q (F0 m Y ls (.int (nI v) :: rest)) → W p l e R s m args below meth c H locs cells slots Q (F0 m (pc + 3) ls rest)) (k : W p l e R s m args below meth c H locs cells slots Q (F0 m Y ls (.int (nI (if a = 0 then u else v)) :: rest))) : W p l e R s m args below meth c H locs cells slots Q (F0 m pc ls (.int (nI a) :: rest)) :=
  nv_if_eq K ha hd ht (fun h => kt h (by rw [if_pos h] at k; exact k)) (fun h => kf h (by rw [if_neg h] at k; exact k))
theorem nf_if_ne (K : CallFix p m c cc nL s args Ts own) {off : Int} {tgt Y u v : Nat} {a : Nat} (ha : a < 2 ^ 31) (hd : decode cc pc = .ok (.ifCond .ne off, 3)) (ht : (pc : Int) + off = (tgt : Int)) (kt : ¬ a = 0 → W p l e R s m args below meth c H locs cells slots Q (F0 m Y ls (.int (nI u) :: rest)) → W p l e R s m args below meth c H locs cells slots Q (F0 m tgt ls rest)) (kf : a = 0 → W p l e R s m args below meth c H locs cells slots Q (F0 m Y ls (.int (nI v) :: rest)) → W p l e R s m args below meth c H locs cells slots Q (F0 m (pc + 3) ls rest)) (k : W p l e R s m args below meth c H locs cells slots Q (F0 m Y ls (.int (nI (if a = 0 then v else u)) :: rest))) : W p l e R s m args below meth c H locs cells slots Q (F0 m pc ls (.int (nI a) :: rest)) :=
  nv_if_ne K ha hd ht (fun h => kt h (by rw [if_neg h] at k; exact k)) (fun h => kf h (by rw [if_pos h] at k; exact k))
theorem nf_icmp_eq (K : CallFix p m c cc nL s args Ts own) {off : Int} {tgt Y u v : Nat} {a b : Nat} (ha : a < 2 ^ 31) (hb : b < 2 ^ 31) (hd : decode cc pc = .ok (.if_icmp .eq off, 3)) (ht : (pc : Int) + off = (tgt : Int)) (kt : a = b → W p l e R s m args below meth c H locs cells slots Q (F0 m Y ls (.int (nI u) :: rest)) → W p l e R s m args below meth c H locs cells slots Q (F0 m tgt ls rest)) (kf : ¬ a = b → W p l e R s m args below meth c H locs cells slots Q (F0 m Y ls (.int (nI v) :: rest)) → W p l e R s m args below meth c H locs cells slots Q (F0 m (pc + 3) ls rest)) (k : W p l e R s m args below meth c H locs cells slots Q (F0 m Y ls (.int (nI (if a = b then u else v)) :: rest))) : W p l e R s m args below meth c H locs cells slots Q (F0 m pc ls (.int (nI b) :: .int (nI a) :: rest)) :=
  nv_icmp_eq K ha hb hd ht (fun h => kt h (by rw [if_pos h] at k; exact k)) (fun h => kf h (by rw [if_neg h] at k; exact k))
theorem nf_icmp_ne (K : CallFix p m c cc nL s args Ts own) {off : Int} {tgt Y u v : Nat} {a b : Nat} (ha : a < 2 ^ 31) (hb : b < 2 ^ 31) (hd : decode cc pc = .ok (.if_icmp .ne off, 3)) (ht : (pc : Int) + off = (tgt : Int)) (kt : ¬ a = b → W p l e R s m args below meth c H locs cells slots Q (F0 m Y ls (.int (nI u) :: rest)) → W p l e R s m args below meth c H locs cells slots Q (F0 m tgt ls rest)) (kf : a = b → W p l e R s m args below meth c H locs cells slots Q (F0 m Y ls (.int (nI v) :: rest)) → W p l e R s m args below meth c H locs cells slots Q (F0 m (pc + 3) ls rest)) (k : W p l e R s m args below meth c H locs cells slots Q (F0 m Y ls (.int (nI (if a = b then v else u)) :: rest))) : W p l e R s m args below meth c H locs cells slots Q (F0 m pc ls (.int (nI b) :: .int (nI a) :: rest)) :=
  nv_icmp_ne K ha hb hd ht (fun h => kt h (by rw [if_neg h] at k; exact k)) (fun h => kf h (by rw [if_pos h] at k; exact k))
theorem nf_icmp_lt (K : CallFix p m c cc nL s args Ts own) {off : Int} {tgt Y u v : Nat} {a b : Nat} (ha : a < 2 ^ 31) (hb : b < 2 ^ 31) (hd : decode cc pc = .ok (.if_icmp .lt off, 3)) (ht : (pc : Int) + off = (tgt : Int)) (kt : a < b → W p l e R s m args below meth c H locs cells slots Q (F0 m Y ls (.int (nI u) :: rest)) → W p l e R s m args below meth c H locs cells slots Q (F0 m tgt ls rest)) (kf : ¬ a < b → W p l e R s m args below meth c H locs cells slots Q (F0 m Y ls (.int (nI v) :: rest)) → W p l e R s m args below meth c H locs cells slots Q (F0 m (pc + 3) ls rest)) (k : W p l e R s m args below meth c H locs cells slots Q (F0 m Y ls (.int (nI (if a < b then u else v)) :: rest))) : W p l e R s m args below meth c H locs cells slots Q (F0 m pc ls (.int (nI b) :: .int (nI a) :: rest)) :=
  nv_icmp_lt K ha hb hd ht (fun h => kt h (by rw [if_pos h] at k; exact k)) (fun h => kf h (by rw [if_neg h] at k; exact k))
theorem nf_icmp_le (K : CallFix p m c cc nL s args Ts own) {off : Int} {tgt Y u v : Nat} {a b : Nat} (ha : a < 2 ^ 31) (hb : b < 2 ^ 31) (hd : decode cc pc = .ok (.if_icmp .le off, 3)) (ht : (pc : Int) + off = (tgt : Int)) (kt : a ≤ b → W p l e R s m args below meth c H locs cells slots Q (F0 m Y ls (.int (nI u) :: rest)) → W p l e R s m args below meth c H locs cells slots Q (F0 m tgt ls rest)) (kf : ¬ a ≤ b → W p l e R s m args below meth c H locs cells slots Q (F0 m Y ls (.int (nI v) :: rest)) → W p l e R s m args below meth c H locs cells slots Q (F0 m (pc + 3) ls rest)) (k : W p l e R s m args below meth c H locs cells slots Q (F0 m Y ls (.int (nI (if a ≤ b then u else v)) :: rest))) : W p l e R s m args below meth c H locs cells slots Q (F0 m pc ls (.int (nI b) :: .int (nI a) :: rest)) :=
  nv_icmp_le K ha hb hd ht (fun h => kt h (by rw [if_pos h] at k; exact k)) (fun h => kf h (by rw [if_neg h] at k; exact k))
theorem nf_icmp_gt (K : CallFix p m c cc nL s args Ts own) {off : Int} {tgt Y u v : Nat} {a b : Nat} (ha : a < 2 ^ 31) (hb : b < 2 ^ 31) (hd : decode cc pc = .ok (.if_icmp .gt off, 3)) (ht : (pc : Int) + off = (tgt : Int)) (kt : b < a → W p l e R s m args below meth c H locs cells slots Q (F0 m Y ls (.int (nI u) :: rest)) → W p l e R s m args below meth c H locs cells slots Q (F0 m tgt ls rest)) (kf : ¬ b < a → W p l e R s m args below meth c H locs cells slots Q (F0 m Y ls (.int (nI v) :: rest)) → W p l e R s m args below meth c H locs cells slots Q (F0 m (pc + 3) ls rest)) (k : W p l e R s m args below meth c H locs cells slots Q (F0 m Y ls (.int (nI (if b < a then u else v)) :: rest))) : W p l e R s m args below meth c H locs cells slots Q (F0 m pc ls (.int (nI b) :: .int (nI a) :: rest)) :=
  nv_icmp_gt K ha hb hd ht (fun h => kt h (by rw [if_pos h] at k; exact k)) (fun h => kf h (by rw [if_neg h] at k; exact k))
theorem nf_icmp_ge (K : CallFix p m c cc nL s args Ts own) {off : Int} {tgt Y u v : Nat} {a b : Nat} (ha : a < 2 ^ 31) (hb : b < 2 ^ 31) (hd : decode cc pc = .ok (.if_icmp .ge off, 3)) (ht : (pc : Int) + off = (tgt : Int)) (kt : b ≤ a → W p l e R s m args below meth c H locs cells slots Q (F0 m Y ls (.int (nI u) :: rest)) → W p l e R s m args below meth c H locs cells slots Q (F0 m tgt ls rest)) (kf : ¬ b ≤ a → W p l e R s m args below meth c H locs cells slots Q (F0 m Y ls (.int (nI v) :: rest)) → W p l e R s m args below meth c H locs cells slots Q (F0 m (pc + 3) ls rest)) (k : W p l e R s m args below meth c H locs cells slots Q (F0 m Y ls (.int (nI (if b ≤ a then u else v)) :: rest))) : W p l e R s m args below meth c H locs cells slots Q (F0 m pc ls (.int (nI b) :: .int (nI a) :: rest)) :=
  nv_icmp_ge K ha hb hd ht (fun h => kt h (by rw [if_pos h] at k; exact k)) (fun h => kf h (by rw [if_neg h] at k; exact k))
theorem nv_wa (K : CallFix p m c cc nL s args Ts own) {off : Int} {tgt w : Nat} (hw : w < 2 ^ 31) (hd : decode cc pc = .ok (.if_icmp .eq off, 3)) (ht : (pc : Int) + off = (tgt : Int)) (kt : w = 0 → W p l e R s m args below meth c H locs cells slots Q (F0 m tgt ls rest)) (kf : ¬ w = 0 → W p l e R s m args below meth c H locs cells slots Q (F0 m (pc + 3) ls rest)) : W p l e R s m args below meth c H locs cells slots Q (F0 m pc ls (.int (-1) :: .int (nI w - 1) :: rest)) := lv_icmp_eq K.1 K.2.1 hd ht (fun h => kt ((nz_wam hw).mp h)) (fun h => kf (fun q => h ((nz_wam hw).mpr q)))
theorem nf_wa (K : CallFix p m c cc nL s args Ts own) {off : Int} {tgt Y u v : Nat} {w : Nat} (hw : w < 2 ^ 31) (hd : decode cc pc = .ok (.if_icmp .eq off, 3)) (ht : (pc : Int) + off = (tgt : Int)) (kt : w = 0 → W p l e R s m args below meth c H locs cells slots Q (F0 m Y ls (.int (nI u) :: rest)) → W p l e R s m args below meth c H locs cells slots Q (F0 m tgt ls rest)) (kf : ¬ w = 0 → W p l e R s m args below meth c H locs cells slots Q (F0 m Y ls (.int (nI v) :: rest)) → W p l e R s m args below meth c H locs cells slots Q (F0 m (pc + 3) ls rest)) (k : W p l e R s m args below meth c H locs cells slots Q (F0 m Y ls (.int (nI (if w = 0 then u else v)) :: rest))) : W p l e R s m args below meth c H locs cells slots Q (F0 m pc ls (.int (-1) :: .int (nI w - 1) :: rest)) :=
  nv_wa K hw hd ht (fun h => kt h (by rw [if_pos h] at k; exact k)) (fun h => kf h (by rw [if_neg h] at k; exact k))
theorem nv_tabIn (K : CallFix p m c cc nL s args Ts own) {dflt lo hi off : Int} {offs : Array Int} {len tgt a : Nat} (hd : decode cc pc = .ok (.tableswitch dflt lo hi offs, len)) (ha : a < 2 ^ 31) (h1 : ¬ (a : Int) < lo) (h2 : ¬ hi < (a : Int)) (ho : offs[((a : Int) - lo).toNat]? = some off) (ht : (pc : Int) + off = (tgt : Int)) (k : W p l e R s m args below meth c H locs cells slots Q (F0 m tgt ls rest)) : W p l e R s m args below meth c H locs cells slots Q (F0 m pc ls (.int (nI a) :: rest)) := lv_tableIn K.1 K.2.1 hd (by rw [nI_toInt ha]; exact h1) (by rw [nI_toInt ha]; exact h2) (by rw [nI_toInt ha]; exact ho) ht k
theorem nv_tabOut (K : CallFix p m c cc nL s args Ts own) {dflt lo hi : Int} {offs : Array Int} {len tgt a : Nat} (hd : decode cc pc = .ok (.tableswitch dflt lo hi offs, len)) (ha : a < 2 ^ 31) (h1 : (a : Int) < lo ∨ hi < (a : Int)) (ht : (pc : Int) + dflt = (tgt : Int)) (k : W p l e R s m args below meth c H locs cells slots Q (F0 m tgt ls rest)) : W p l e R s m args below meth c H locs cells slots Q (F0 m pc ls (.int (nI a) :: rest)) := lv_tableOut K.1 K.2.1 hd (by rw [nI_toInt ha]; exact h1) ht k
theorem nv_lookup (K : CallFix p m c cc nL s args Ts own) {dflt off : Int} {z_ps : Array (Int × Int)} {len tgt a : Nat} (hd : decode cc pc = .ok (.lookupswitch dflt z_ps, len)) (ha : a < 2 ^ 31) (hp : (z_ps.toList.zip (z_ps.toList.drop 1)).all (fun (a, next) => a.1 < next.1) = true) (ho : Op.lookupswitch.offset z_ps.toList dflt (a : Int) = off) (ht : (pc : Int) + off = (tgt : Int)) (k : W p l e R s m args below meth c H locs cells slots Q (F0 m tgt ls rest)) : W p l e R s m args below meth c H locs cells slots Q (F0 m pc ls (.int (nI a) :: rest)) := lv_lookup K.1 K.2.1 hd hp (by rw [nI_toInt ha]; exact ho) ht k
end
end
section
def T0 : List Cond := lw_tbl.filter goodWord
theorem zz_in {w : Cond} (h : w ∈ lw_tbl) (g : goodWord w = true) : w ∈ T0 := List.mem_filter.mpr ⟨h, g⟩
theorem zz_all : ∀ w ∈ T0, w ∈ lw_tbl := fun _ h => (List.mem_filter.mp h).1
theorem zz_gv {c0 w0 : Cond} {own C : String} {idx : Nat} {y : MethodName} (h1 : Cond.methodLink own idx y ∈ T0) (h2 : Cond.instanceMethod y ∈ T0) (h3 : Cond.selects C y y ∈ T0) (h4 : Cond.initialized C ∈ T0) (h5 : w0 ∈ T0) : GoodIn (c0 :: T0) (wsV own idx C y (w0 :: T0)) := by
  intro w hw
  have h : w ∈ T0 := by
    unfold wsV at hw
    rcases List.mem_append.mp hw with hw | hw
    · rcases List.mem_cons.mp hw with rfl | hw
      · exact h1
      · rcases List.mem_cons.mp hw with rfl | hw
        · exact h2
        · rcases List.mem_cons.mp hw with rfl | hw
          · exact h3
          · rcases List.mem_cons.mp hw with rfl | hw
            · exact h4
            · cases hw
    · rcases List.mem_cons.mp hw with rfl | hw
      · exact h5
      · exact hw
  exact ⟨List.mem_cons_of_mem _ h, good_of_word (List.mem_filter.mp h).2⟩
theorem zz_gs {c0 w0 : Cond} {own : String} {idx : Nat} {y : MethodName} (h1 : Cond.methodLink own idx y ∈ T0) (h2 : Cond.static y ∈ T0) (h4 : Cond.initialized y.cls ∈ T0) (h5 : w0 ∈ T0) : GoodIn (c0 :: T0) (va_wsS own idx y (w0 :: T0)) := by
  intro w hw
  have h : w ∈ T0 := by
    unfold va_wsS at hw
    rcases List.mem_append.mp hw with hw | hw
    · rcases List.mem_cons.mp hw with rfl | hw
      · exact h1
      · rcases List.mem_cons.mp hw with rfl | hw
        · exact h2
        · rcases List.mem_cons.mp hw with rfl | hw
          · exact h4
          · cases hw
    · rcases List.mem_cons.mp hw with rfl | hw
      · exact h5
      · exact hw
  exact ⟨List.mem_cons_of_mem _ h, good_of_word (List.mem_filter.mp h).2⟩
def T_F : u_T := fun k => match k with
  | 0 => ("PortProcessor$Flags", "sign", "Z", false)
  | 1 => ("PortProcessor$Flags", "zero", "Z", false)
  | 2 => ("PortProcessor$Flags", "auxiliary", "Z", false)
  | 3 => ("PortProcessor$Flags", "parity", "Z", false)
  | _ => ("PortProcessor$Flags", "carry", "Z", false)
def ty_F : Nat → FieldType := fun k => match k with
  | 0 => .boolean
  | 1 => .boolean
  | 2 => .boolean
  | 3 => .boolean
  | _ => .boolean
theorem nm_F : ∀ a, a < 5 → ∀ b, b < 5 → a ≠ b → (T_F a).2.1 ≠ (T_F b).2.1 := by decide +kernel
theorem ok9_F : ∀ k, k < 5 → parseFieldDescriptor (T_F k).2.2.1 = some (ty_F k) := by decide +kernel
theorem in9_F : ∀ w ∈ u_ws "PortProcessor$Flags" T_F 5, w ∈ lw_tbl := by decide +kernel
theorem in_F : ∀ w ∈ u_ws "PortProcessor$Flags" T_F 5, w ∈ T0 := fun w h => zz_in (in9_F w h) (List.all_eq_true.mp (by decide +kernel : (u_ws "PortProcessor$Flags" T_F 5).all goodWord = true) w h)
def T_M : u_T := fun k => match k with
  | _ => ("PortProcessor$Memory", "cells", "[I", true)
def ty_M : Nat → FieldType := fun k => match k with
  | _ => .array .int
theorem nm_M : ∀ a, a < 1 → ∀ b, b < 1 → a ≠ b → (T_M a).2.1 ≠ (T_M b).2.1 := by decide +kernel
theorem ok9_M : ∀ k, k < 1 → parseFieldDescriptor (T_M k).2.2.1 = some (ty_M k) := by decide +kernel
theorem in9_M : ∀ w ∈ u_ws "PortProcessor$Memory" T_M 1, w ∈ lw_tbl := by decide +kernel
theorem in_M : ∀ w ∈ u_ws "PortProcessor$Memory" T_M 1, w ∈ T0 := fun w h => zz_in (in9_M w h) (List.all_eq_true.mp (by decide +kernel : (u_ws "PortProcessor$Memory" T_M 1).all goodWord = true) w h)
def T_P : u_T := fun k => match k with
  | 0 => ("PortProcessor", "memory", "LPortProcessor$Memory;", true)
  | 1 => ("PortProcessor", "flags", "LPortProcessor$Flags;", true)
  | 2 => ("PortProcessor", "registers", "[I", true)
  | 3 => ("PortProcessor", "broughtIn", "[I", true)
  | 4 => ("PortProcessor", "putOut", "[I", true)
  | 5 => ("PortProcessor", "stackPointer", "I", false)
  | 6 => ("PortProcessor", "programCounter", "I", false)
  | 7 => ("PortProcessor", "halted", "Z", false)
  | 8 => ("PortProcessor", "interruptsOn", "Z", false)
  | 9 => ("PortProcessor", "lastLetInterruptsIn", "Z", false)
  | 10 => ("PortProcessor", "waitingInterrupt", "I", false)
  | _ => ("PortProcessor", "stateCount", "J", false)
def ty_P : Nat → FieldType := fun k => match k with
  | 0 => .object "PortProcessor$Memory"
  | 1 => .object "PortProcessor$Flags"
  | 2 => .array .int
  | 3 => .array .int
  | 4 => .array .int
  | 5 => .int
  | 6 => .int
  | 7 => .boolean
  | 8 => .boolean
  | 9 => .boolean
  | 10 => .int
  | _ => .long
theorem nm_P : ∀ a, a < 12 → ∀ b, b < 12 → a ≠ b → (T_P a).2.1 ≠ (T_P b).2.1 := by decide +kernel
theorem ok9_P : ∀ k, k < 12 → parseFieldDescriptor (T_P k).2.2.1 = some (ty_P k) := by decide +kernel
theorem in9_P : ∀ w ∈ u_ws "PortProcessor" T_P 12, w ∈ lw_tbl := by decide +kernel
theorem in_P : ∀ w ∈ u_ws "PortProcessor" T_P 12, w ∈ T0 := fun w h => zz_in (in9_P w h) (List.all_eq_true.mp (by decide +kernel : (u_ws "PortProcessor" T_P 12).all goodWord = true) w h)
def T_R : u_T := fun k => match k with
  | 0 => ("PortProcessorModel", "thrown", "I", false)
  | 1 => ("PortProcessorModel", "memory", "[I", true)
  | 2 => ("PortProcessorModel", "reg", "[I", true)
  | 3 => ("PortProcessorModel", "s", "I", false)
  | 4 => ("PortProcessorModel", "z", "I", false)
  | 5 => ("PortProcessorModel", "half", "I", false)
  | 6 => ("PortProcessorModel", "p", "I", false)
  | 7 => ("PortProcessorModel", "c", "I", false)
  | 8 => ("PortProcessorModel", "sp", "I", false)
  | 9 => ("PortProcessorModel", "pc", "I", false)
  | 10 => ("PortProcessorModel", "halted", "Z", false)
  | 11 => ("PortProcessorModel", "lets", "Z", false)
  | 12 => ("PortProcessorModel", "late", "Z", false)
  | 13 => ("PortProcessorModel", "waiting", "I", false)
  | 14 => ("PortProcessorModel", "states", "J", false)
  | 15 => ("PortProcessorModel", "in", "[I", true)
  | _ => ("PortProcessorModel", "put", "[I", true)
def ty_R : Nat → FieldType := fun k => match k with
  | 0 => .int
  | 1 => .array .int
  | 2 => .array .int
  | 3 => .int
  | 4 => .int
  | 5 => .int
  | 6 => .int
  | 7 => .int
  | 8 => .int
  | 9 => .int
  | 10 => .boolean
  | 11 => .boolean
  | 12 => .boolean
  | 13 => .int
  | 14 => .long
  | 15 => .array .int
  | _ => .array .int
theorem nm_R : ∀ a, a < 17 → ∀ b, b < 17 → a ≠ b → (T_R a).2.1 ≠ (T_R b).2.1 := by decide +kernel
theorem ok9_R : ∀ k, k < 17 → parseFieldDescriptor (T_R k).2.2.1 = some (ty_R k) := by decide +kernel
theorem in9_R : ∀ w ∈ u_ws "PortProcessorModel" T_R 17, w ∈ lw_tbl := by decide +kernel
theorem in_R : ∀ w ∈ u_ws "PortProcessorModel" T_R 17, w ∈ T0 := fun w h => zz_in (in9_R w h) (List.all_eq_true.mp (by decide +kernel : (u_ws "PortProcessorModel" T_R 17).all goodWord = true) w h)
abbrev vwCl : List vw_C := [("PortProcessor", T_P, 12), ("PortProcessor$Memory", T_M, 1), ("PortProcessor$Flags", T_F, 5), ("PortProcessorModel", T_R, 17)]
abbrev b_P_init : ByteArray := prog_1_method_1_code
def y_P_init : MethodName := ⟨"PortProcessor", "<init>", "()V"⟩
def w_P_init : List Cond := .code y_P_init b_P_init 2 none :: T0
theorem m_code_P_init : Cond.code y_P_init b_P_init 2 none ∈ T0 := zz_in (List.mem_append_right _ (List.mem_of_getElem? (i := 14) rfl)) rfl
abbrev b_P_load : ByteArray := prog_1_method_2_code
def y_P_load : MethodName := ⟨"PortProcessor", "load", "(IJI)V"⟩
def w_P_load : List Cond := .code y_P_load b_P_load 6 none :: T0
theorem m_code_P_load : Cond.code y_P_load b_P_load 6 none ∈ T0 := zz_in (List.mem_append_right _ (List.mem_of_getElem? (i := 99) rfl)) rfl
abbrev b_P_peek : ByteArray := prog_1_method_3_code
def y_P_peek : MethodName := ⟨"PortProcessor", "peek", "(I)I"⟩
def w_P_peek : List Cond := .code y_P_peek b_P_peek 2 (some .int) :: T0
theorem m_code_P_peek : Cond.code y_P_peek b_P_peek 2 (some .int) ∈ T0 := zz_in (List.mem_append_right _ (List.mem_of_getElem? (i := 177) rfl)) rfl
abbrev b_P_start : ByteArray := prog_1_method_4_code
def y_P_start : MethodName := ⟨"PortProcessor", "start", "(I)V"⟩
def w_P_start : List Cond := .code y_P_start b_P_start 2 none :: T0
theorem m_code_P_start : Cond.code y_P_start b_P_start 2 none ∈ T0 := zz_in (List.mem_append_right _ (List.mem_of_getElem? (i := 189) rfl)) rfl
abbrev b_P_run : ByteArray := prog_1_method_5_code
def y_P_run : MethodName := ⟨"PortProcessor", "run", "(I)I"⟩
def w_P_run : List Cond := .code y_P_run b_P_run 4 (some .int) :: T0
theorem m_code_P_run : Cond.code y_P_run b_P_run 4 (some .int) ∈ T0 := zz_in (List.mem_append_right _ (List.mem_of_getElem? (i := 198) rfl)) rfl
abbrev b_P_interrupt : ByteArray := prog_1_method_6_code
def y_P_interrupt : MethodName := ⟨"PortProcessor", "interrupt", "(I)V"⟩
def w_P_interrupt : List Cond := .code y_P_interrupt b_P_interrupt 2 none :: T0
theorem m_code_P_interrupt : Cond.code y_P_interrupt b_P_interrupt 2 none ∈ T0 := zz_in (List.mem_append_right _ (List.mem_of_getElem? (i := 429) rfl)) rfl
abbrev b_P_bring : ByteArray := prog_1_method_7_code
def y_P_bring : MethodName := ⟨"PortProcessor", "bring", "(II)V"⟩
def w_P_bring : List Cond := .code y_P_bring b_P_bring 3 none :: T0
theorem m_code_P_bring : Cond.code y_P_bring b_P_bring 3 none ∈ T0 := zz_in (List.mem_append_right _ (List.mem_of_getElem? (i := 437) rfl)) rfl
abbrev b_P_out : ByteArray := prog_1_method_8_code
def y_P_out : MethodName := ⟨"PortProcessor", "out", "(I)I"⟩
def w_P_out : List Cond := .code y_P_out b_P_out 2 (some .int) :: T0
theorem m_code_P_out : Cond.code y_P_out b_P_out 2 (some .int) ∈ T0 := zz_in (List.mem_append_right _ (List.mem_of_getElem? (i := 449) rfl)) rfl
abbrev b_P_register : ByteArray := prog_1_method_9_code
def y_P_register : MethodName := ⟨"PortProcessor", "register", "(I)I"⟩
def w_P_register : List Cond := .code y_P_register b_P_register 2 (some .int) :: T0
theorem m_code_P_register : Cond.code y_P_register b_P_register 2 (some .int) ∈ T0 := zz_in (List.mem_append_right _ (List.mem_of_getElem? (i := 456) rfl)) rfl
abbrev b_P_set : ByteArray := prog_1_method_10_code
def y_P_set : MethodName := ⟨"PortProcessor", "set", "(II)V"⟩
def w_P_set : List Cond := .code y_P_set b_P_set 4 none :: T0
theorem m_code_P_set : Cond.code y_P_set b_P_set 4 none ∈ T0 := zz_in (List.mem_append_right _ (List.mem_of_getElem? (i := 464) rfl)) rfl
abbrev b_P_is : ByteArray := prog_1_method_11_code
def y_P_is : MethodName := ⟨"PortProcessor", "is", "(I)Z"⟩
def w_P_is : List Cond := .code y_P_is b_P_is 2 (some .boolean) :: T0
theorem m_code_P_is : Cond.code y_P_is b_P_is 2 (some .boolean) ∈ T0 := zz_in (List.mem_append_right _ (List.mem_of_getElem? (i := 473) rfl)) rfl
abbrev b_P_states : ByteArray := prog_1_method_12_code
def y_P_states : MethodName := ⟨"PortProcessor", "states", "()J"⟩
def w_P_states : List Cond := .code y_P_states b_P_states 1 (some .long) :: T0
theorem m_code_P_states : Cond.code y_P_states b_P_states 1 (some .long) ∈ T0 := zz_in (List.mem_append_right _ (List.mem_of_getElem? (i := 91) rfl)) rfl
abbrev b_P_isByte : ByteArray := prog_1_method_13_code
def y_P_isByte : MethodName := ⟨"PortProcessor", "isByte", "(I)Z"⟩
def w_P_isByte : List Cond := .code y_P_isByte b_P_isByte 1 (some .boolean) :: T0
theorem m_code_P_isByte : Cond.code y_P_isByte b_P_isByte 1 (some .boolean) ∈ T0 := zz_in (List.mem_append_right _ (List.mem_of_getElem? (i := 440) rfl)) rfl
abbrev b_P_step : ByteArray := prog_1_method_14_code
def y_P_step : MethodName := ⟨"PortProcessor", "step", "()Z"⟩
def w_P_step : List Cond := .code y_P_step b_P_step 2 (some .boolean) :: T0
theorem m_code_P_step : Cond.code y_P_step b_P_step 2 (some .boolean) ∈ T0 := zz_in (List.mem_append_right _ (List.mem_of_getElem? (i := 203) rfl)) rfl
abbrev b_P_letInterruptIn : ByteArray := prog_1_method_15_code
def y_P_letInterruptIn : MethodName := ⟨"PortProcessor", "letInterruptIn", "()V"⟩
def w_P_letInterruptIn : List Cond := .code y_P_letInterruptIn b_P_letInterruptIn 1 none :: T0
theorem m_code_P_letInterruptIn : Cond.code y_P_letInterruptIn b_P_letInterruptIn 1 none ∈ T0 := zz_in (List.mem_append_right _ (List.mem_of_getElem? (i := 207) rfl)) rfl
abbrev b_P_doFirstQuarter : ByteArray := prog_1_method_16_code
def y_P_doFirstQuarter : MethodName := ⟨"PortProcessor", "doFirstQuarter", "(I)I"⟩
def w_P_doFirstQuarter : List Cond := .code y_P_doFirstQuarter b_P_doFirstQuarter 2 (some .int) :: T0
theorem m_code_P_doFirstQuarter : Cond.code y_P_doFirstQuarter b_P_doFirstQuarter 2 (some .int) ∈ T0 := zz_in (List.mem_append_right _ (List.mem_of_getElem? (i := 225) rfl)) rfl
abbrev b_P_doLastQuarter : ByteArray := prog_1_method_17_code
def y_P_doLastQuarter : MethodName := ⟨"PortProcessor", "doLastQuarter", "(I)I"⟩
def w_P_doLastQuarter : List Cond := .code y_P_doLastQuarter b_P_doLastQuarter 2 (some .int) :: T0
theorem m_code_P_doLastQuarter : Cond.code y_P_doLastQuarter b_P_doLastQuarter 2 (some .int) ∈ T0 := zz_in (List.mem_append_right _ (List.mem_of_getElem? (i := 358) rfl)) rfl
abbrev b_P_fillPair : ByteArray := prog_1_method_18_code
def y_P_fillPair : MethodName := ⟨"PortProcessor", "fillPair", "(I)I"⟩
def w_P_fillPair : List Cond := .code y_P_fillPair b_P_fillPair 2 (some .int) :: T0
theorem m_code_P_fillPair : Cond.code y_P_fillPair b_P_fillPair 2 (some .int) ∈ T0 := zz_in (List.mem_append_right _ (List.mem_of_getElem? (i := 229) rfl)) rfl
abbrev b_P_addPair : ByteArray := prog_1_method_19_code
def y_P_addPair : MethodName := ⟨"PortProcessor", "addPair", "(I)I"⟩
def w_P_addPair : List Cond := .code y_P_addPair b_P_addPair 3 (some .int) :: T0
theorem m_code_P_addPair : Cond.code y_P_addPair b_P_addPair 3 (some .int) ∈ T0 := zz_in (List.mem_append_right _ (List.mem_of_getElem? (i := 244) rfl)) rfl
abbrev b_P_countPair : ByteArray := prog_1_method_20_code
def y_P_countPair : MethodName := ⟨"PortProcessor", "countPair", "(I)I"⟩
def w_P_countPair : List Cond := .code y_P_countPair b_P_countPair 3 (some .int) :: T0
theorem m_code_P_countPair : Cond.code y_P_countPair b_P_countPair 3 (some .int) ∈ T0 := zz_in (List.mem_append_right _ (List.mem_of_getElem? (i := 268) rfl)) rfl
abbrev b_P_storeOrFetch : ByteArray := prog_1_method_21_code
def y_P_storeOrFetch : MethodName := ⟨"PortProcessor", "storeOrFetch", "(I)I"⟩
def w_P_storeOrFetch : List Cond := .code y_P_storeOrFetch b_P_storeOrFetch 2 (some .int) :: T0
theorem m_code_P_storeOrFetch : Cond.code y_P_storeOrFetch b_P_storeOrFetch 2 (some .int) ∈ T0 := zz_in (List.mem_append_right _ (List.mem_of_getElem? (i := 256) rfl)) rfl
abbrev b_P_storeHl : ByteArray := prog_1_method_22_code
def y_P_storeHl : MethodName := ⟨"PortProcessor", "storeHl", "(I)I"⟩
def w_P_storeHl : List Cond := .code y_P_storeHl b_P_storeHl 2 (some .int) :: T0
theorem m_code_P_storeHl : Cond.code y_P_storeHl b_P_storeHl 2 (some .int) ∈ T0 := zz_in (List.mem_append_right _ (List.mem_of_getElem? (i := 260) rfl)) rfl
abbrev b_P_fetchHl : ByteArray := prog_1_method_23_code
def y_P_fetchHl : MethodName := ⟨"PortProcessor", "fetchHl", "(I)I"⟩
def w_P_fetchHl : List Cond := .code y_P_fetchHl b_P_fetchHl 2 (some .int) :: T0
theorem m_code_P_fetchHl : Cond.code y_P_fetchHl b_P_fetchHl 2 (some .int) ∈ T0 := zz_in (List.mem_append_right _ (List.mem_of_getElem? (i := 264) rfl)) rfl
abbrev b_P_raise : ByteArray := prog_1_method_24_code
def y_P_raise : MethodName := ⟨"PortProcessor", "raise", "(I)I"⟩
def w_P_raise : List Cond := .code y_P_raise b_P_raise 3 (some .int) :: T0
theorem m_code_P_raise : Cond.code y_P_raise b_P_raise 3 (some .int) ∈ T0 := zz_in (List.mem_append_right _ (List.mem_of_getElem? (i := 272) rfl)) rfl
abbrev b_P_lower : ByteArray := prog_1_method_25_code
def y_P_lower : MethodName := ⟨"PortProcessor", "lower", "(I)I"⟩
def w_P_lower : List Cond := .code y_P_lower b_P_lower 3 (some .int) :: T0
theorem m_code_P_lower : Cond.code y_P_lower b_P_lower 3 (some .int) ∈ T0 := zz_in (List.mem_append_right _ (List.mem_of_getElem? (i := 301) rfl)) rfl
abbrev b_P_fillRegister : ByteArray := prog_1_method_26_code
def y_P_fillRegister : MethodName := ⟨"PortProcessor", "fillRegister", "(I)I"⟩
def w_P_fillRegister : List Cond := .code y_P_fillRegister b_P_fillRegister 3 (some .int) :: T0
theorem m_code_P_fillRegister : Cond.code y_P_fillRegister b_P_fillRegister 3 (some .int) ∈ T0 := zz_in (List.mem_append_right _ (List.mem_of_getElem? (i := 309) rfl)) rfl
abbrev b_P_workOnA : ByteArray := prog_1_method_27_code
def y_P_workOnA : MethodName := ⟨"PortProcessor", "workOnA", "(I)I"⟩
def w_P_workOnA : List Cond := .code y_P_workOnA b_P_workOnA 3 (some .int) :: T0
theorem m_code_P_workOnA : Cond.code y_P_workOnA b_P_workOnA 3 (some .int) ∈ T0 := zz_in (List.mem_append_right _ (List.mem_of_getElem? (i := 313) rfl)) rfl
abbrev b_P_move : ByteArray := prog_1_method_28_code
def y_P_move : MethodName := ⟨"PortProcessor", "move", "(I)I"⟩
def w_P_move : List Cond := .code y_P_move b_P_move 4 (some .int) :: T0
theorem m_code_P_move : Cond.code y_P_move b_P_move 4 (some .int) ∈ T0 := zz_in (List.mem_append_right _ (List.mem_of_getElem? (i := 333) rfl)) rfl
abbrev b_P_combineWithRegister : ByteArray := prog_1_method_29_code
def y_P_combineWithRegister : MethodName := ⟨"PortProcessor", "combineWithRegister", "(I)I"⟩
def w_P_combineWithRegister : List Cond := .code y_P_combineWithRegister b_P_combineWithRegister 3 (some .int) :: T0
theorem m_code_P_combineWithRegister : Cond.code y_P_combineWithRegister b_P_combineWithRegister 3 (some .int) ∈ T0 := zz_in (List.mem_append_right _ (List.mem_of_getElem? (i := 337) rfl)) rfl
abbrev b_P_combineWithNext : ByteArray := prog_1_method_30_code
def y_P_combineWithNext : MethodName := ⟨"PortProcessor", "combineWithNext", "(I)I"⟩
def w_P_combineWithNext : List Cond := .code y_P_combineWithNext b_P_combineWithNext 2 (some .int) :: T0
theorem m_code_P_combineWithNext : Cond.code y_P_combineWithNext b_P_combineWithNext 2 (some .int) ∈ T0 := zz_in (List.mem_append_right _ (List.mem_of_getElem? (i := 422) rfl)) rfl
abbrev b_P_jumpOnCondition : ByteArray := prog_1_method_31_code
def y_P_jumpOnCondition : MethodName := ⟨"PortProcessor", "jumpOnCondition", "(I)I"⟩
def w_P_jumpOnCondition : List Cond := .code y_P_jumpOnCondition b_P_jumpOnCondition 3 (some .int) :: T0
theorem m_code_P_jumpOnCondition : Cond.code y_P_jumpOnCondition b_P_jumpOnCondition 3 (some .int) ∈ T0 := zz_in (List.mem_append_right _ (List.mem_of_getElem? (i := 390) rfl)) rfl
abbrev b_P_callOnCondition : ByteArray := prog_1_method_32_code
def y_P_callOnCondition : MethodName := ⟨"PortProcessor", "callOnCondition", "(I)I"⟩
def w_P_callOnCondition : List Cond := .code y_P_callOnCondition b_P_callOnCondition 3 (some .int) :: T0
theorem m_code_P_callOnCondition : Cond.code y_P_callOnCondition b_P_callOnCondition 3 (some .int) ∈ T0 := zz_in (List.mem_append_right _ (List.mem_of_getElem? (i := 406) rfl)) rfl
abbrev b_P_callAlways : ByteArray := prog_1_method_33_code
def y_P_callAlways : MethodName := ⟨"PortProcessor", "callAlways", "()I"⟩
def w_P_callAlways : List Cond := .code y_P_callAlways b_P_callAlways 1 (some .int) :: T0
theorem m_code_P_callAlways : Cond.code y_P_callAlways b_P_callAlways 1 (some .int) ∈ T0 := zz_in (List.mem_append_right _ (List.mem_of_getElem? (i := 418) rfl)) rfl
abbrev b_P_returnOnCondition : ByteArray := prog_1_method_34_code
def y_P_returnOnCondition : MethodName := ⟨"PortProcessor", "returnOnCondition", "(I)I"⟩
def w_P_returnOnCondition : List Cond := .code y_P_returnOnCondition b_P_returnOnCondition 2 (some .int) :: T0
theorem m_code_P_returnOnCondition : Cond.code y_P_returnOnCondition b_P_returnOnCondition 2 (some .int) ∈ T0 := zz_in (List.mem_append_right _ (List.mem_of_getElem? (i := 362) rfl)) rfl
abbrev b_P_returnOrCopyHl : ByteArray := prog_1_method_35_code
def y_P_returnOrCopyHl : MethodName := ⟨"PortProcessor", "returnOrCopyHl", "(I)I"⟩
def w_P_returnOrCopyHl : List Cond := .code y_P_returnOrCopyHl b_P_returnOrCopyHl 2 (some .int) :: T0
theorem m_code_P_returnOrCopyHl : Cond.code y_P_returnOrCopyHl b_P_returnOrCopyHl 2 (some .int) ∈ T0 := zz_in (List.mem_append_right _ (List.mem_of_getElem? (i := 386) rfl)) rfl
abbrev b_P_popPair : ByteArray := prog_1_method_36_code
def y_P_popPair : MethodName := ⟨"PortProcessor", "popPair", "(I)I"⟩
def w_P_popPair : List Cond := .code y_P_popPair b_P_popPair 4 (some .int) :: T0
theorem m_code_P_popPair : Cond.code y_P_popPair b_P_popPair 4 (some .int) ∈ T0 := zz_in (List.mem_append_right _ (List.mem_of_getElem? (i := 378) rfl)) rfl
abbrev b_P_pushPair : ByteArray := prog_1_method_37_code
def y_P_pushPair : MethodName := ⟨"PortProcessor", "pushPair", "(I)I"⟩
def w_P_pushPair : List Cond := .code y_P_pushPair b_P_pushPair 3 (some .int) :: T0
theorem m_code_P_pushPair : Cond.code y_P_pushPair b_P_pushPair 3 (some .int) ∈ T0 := zz_in (List.mem_append_right _ (List.mem_of_getElem? (i := 410) rfl)) rfl
abbrev b_P_jumpExchangeOrSwitch : ByteArray := prog_1_method_38_code
def y_P_jumpExchangeOrSwitch : MethodName := ⟨"PortProcessor", "jumpExchangeOrSwitch", "(I)I"⟩
def w_P_jumpExchangeOrSwitch : List Cond := .code y_P_jumpExchangeOrSwitch b_P_jumpExchangeOrSwitch 2 (some .int) :: T0
theorem m_code_P_jumpExchangeOrSwitch : Cond.code y_P_jumpExchangeOrSwitch b_P_jumpExchangeOrSwitch 2 (some .int) ∈ T0 := zz_in (List.mem_append_right _ (List.mem_of_getElem? (i := 394) rfl)) rfl
abbrev b_P_exchangeHlWithStack : ByteArray := prog_1_method_39_code
def y_P_exchangeHlWithStack : MethodName := ⟨"PortProcessor", "exchangeHlWithStack", "()I"⟩
def w_P_exchangeHlWithStack : List Cond := .code y_P_exchangeHlWithStack b_P_exchangeHlWithStack 4 (some .int) :: T0
theorem m_code_P_exchangeHlWithStack : Cond.code y_P_exchangeHlWithStack b_P_exchangeHlWithStack 4 (some .int) ∈ T0 := zz_in (List.mem_append_right _ (List.mem_of_getElem? (i := 398) rfl)) rfl
abbrev b_P_exchangeHlWithDe : ByteArray := prog_1_method_40_code
def y_P_exchangeHlWithDe : MethodName := ⟨"PortProcessor", "exchangeHlWithDe", "()I"⟩
def w_P_exchangeHlWithDe : List Cond := .code y_P_exchangeHlWithDe b_P_exchangeHlWithDe 2 (some .int) :: T0
theorem m_code_P_exchangeHlWithDe : Cond.code y_P_exchangeHlWithDe b_P_exchangeHlWithDe 2 (some .int) ∈ T0 := zz_in (List.mem_append_right _ (List.mem_of_getElem? (i := 402) rfl)) rfl
abbrev b_P_targetOf : ByteArray := prog_1_method_41_code
def y_P_targetOf : MethodName := ⟨"PortProcessor", "targetOf", "(I)I"⟩
def w_P_targetOf : List Cond := .code y_P_targetOf b_P_targetOf 1 (some .int) :: T0
theorem m_code_P_targetOf : Cond.code y_P_targetOf b_P_targetOf 1 (some .int) ∈ T0 := zz_in (List.mem_append_right _ (List.mem_of_getElem? (i := 275) rfl)) rfl
abbrev b_P_pairOf : ByteArray := prog_1_method_42_code
def y_P_pairOf : MethodName := ⟨"PortProcessor", "pairOf", "(I)I"⟩
def w_P_pairOf : List Cond := .code y_P_pairOf b_P_pairOf 1 (some .int) :: T0
theorem m_code_P_pairOf : Cond.code y_P_pairOf b_P_pairOf 1 (some .int) ∈ T0 := zz_in (List.mem_append_right _ (List.mem_of_getElem? (i := 232) rfl)) rfl
abbrev b_P_nextByte : ByteArray := prog_1_method_43_code
def y_P_nextByte : MethodName := ⟨"PortProcessor", "nextByte", "()I"⟩
def w_P_nextByte : List Cond := .code y_P_nextByte b_P_nextByte 2 (some .int) :: T0
theorem m_code_P_nextByte : Cond.code y_P_nextByte b_P_nextByte 2 (some .int) ∈ T0 := zz_in (List.mem_append_right _ (List.mem_of_getElem? (i := 221) rfl)) rfl
abbrev b_P_nextTwoBytes : ByteArray := prog_1_method_44_code
def y_P_nextTwoBytes : MethodName := ⟨"PortProcessor", "nextTwoBytes", "()I"⟩
def w_P_nextTwoBytes : List Cond := .code y_P_nextTwoBytes b_P_nextTwoBytes 2 (some .int) :: T0
theorem m_code_P_nextTwoBytes : Cond.code y_P_nextTwoBytes b_P_nextTwoBytes 2 (some .int) ∈ T0 := zz_in (List.mem_append_right _ (List.mem_of_getElem? (i := 236) rfl)) rfl
abbrev b_P_callTo : ByteArray := prog_1_method_45_code
def y_P_callTo : MethodName := ⟨"PortProcessor", "callTo", "(I)V"⟩
def w_P_callTo : List Cond := .code y_P_callTo b_P_callTo 2 none :: T0
theorem m_code_P_callTo : Cond.code y_P_callTo b_P_callTo 2 none ∈ T0 := zz_in (List.mem_append_right _ (List.mem_of_getElem? (i := 211) rfl)) rfl
abbrev b_P_push : ByteArray := prog_1_method_46_code
def y_P_push : MethodName := ⟨"PortProcessor", "push", "(I)V"⟩
def w_P_push : List Cond := .code y_P_push b_P_push 2 none :: T0
theorem m_code_P_push : Cond.code y_P_push b_P_push 2 none ∈ T0 := zz_in (List.mem_append_right _ (List.mem_of_getElem? (i := 215) rfl)) rfl
abbrev b_P_pop : ByteArray := prog_1_method_47_code
def y_P_pop : MethodName := ⟨"PortProcessor", "pop", "()I"⟩
def w_P_pop : List Cond := .code y_P_pop b_P_pop 3 (some .int) :: T0
theorem m_code_P_pop : Cond.code y_P_pop b_P_pop 3 (some .int) ∈ T0 := zz_in (List.mem_append_right _ (List.mem_of_getElem? (i := 374) rfl)) rfl
abbrev b_P_readRegister : ByteArray := prog_1_method_48_code
def y_P_readRegister : MethodName := ⟨"PortProcessor", "readRegister", "(I)I"⟩
def w_P_readRegister : List Cond := .code y_P_readRegister b_P_readRegister 2 (some .int) :: T0
theorem m_code_P_readRegister : Cond.code y_P_readRegister b_P_readRegister 2 (some .int) ∈ T0 := zz_in (List.mem_append_right _ (List.mem_of_getElem? (i := 279) rfl)) rfl
abbrev b_P_writeRegister : ByteArray := prog_1_method_49_code
def y_P_writeRegister : MethodName := ⟨"PortProcessor", "writeRegister", "(II)V"⟩
def w_P_writeRegister : List Cond := .code y_P_writeRegister b_P_writeRegister 3 none :: T0
theorem m_code_P_writeRegister : Cond.code y_P_writeRegister b_P_writeRegister 3 none ∈ T0 := zz_in (List.mem_append_right _ (List.mem_of_getElem? (i := 297) rfl)) rfl
abbrev b_P_readPair : ByteArray := prog_1_method_50_code
def y_P_readPair : MethodName := ⟨"PortProcessor", "readPair", "(I)I"⟩
def w_P_readPair : List Cond := .code y_P_readPair b_P_readPair 2 (some .int) :: T0
theorem m_code_P_readPair : Cond.code y_P_readPair b_P_readPair 2 (some .int) ∈ T0 := zz_in (List.mem_append_right _ (List.mem_of_getElem? (i := 248) rfl)) rfl
abbrev b_P_writePair : ByteArray := prog_1_method_51_code
def y_P_writePair : MethodName := ⟨"PortProcessor", "writePair", "(II)V"⟩
def w_P_writePair : List Cond := .code y_P_writePair b_P_writePair 3 none :: T0
theorem m_code_P_writePair : Cond.code y_P_writePair b_P_writePair 3 none ∈ T0 := zz_in (List.mem_append_right _ (List.mem_of_getElem? (i := 240) rfl)) rfl
abbrev b_F_init : ByteArray := prog_2_method_1_code
def y_F_init : MethodName := ⟨"PortProcessor$Flags", "<init>", "()V"⟩
def w_F_init : List Cond := .code y_F_init b_F_init 1 none :: T0
theorem m_code_F_init : Cond.code y_F_init b_F_init 1 none ∈ T0 := zz_in (List.mem_append_right _ (List.mem_of_getElem? (i := 33) rfl)) rfl
abbrev b_F_asByte : ByteArray := prog_2_method_2_code
def y_F_asByte : MethodName := ⟨"PortProcessor$Flags", "asByte", "()I"⟩
def w_F_asByte : List Cond := .code y_F_asByte b_F_asByte 1 (some .int) :: T0
theorem m_code_F_asByte : Cond.code y_F_asByte b_F_asByte 1 (some .int) ∈ T0 := zz_in (List.mem_append_right _ (List.mem_of_getElem? (i := 414) rfl)) rfl
abbrev b_F_takeByte : ByteArray := prog_2_method_3_code
def y_F_takeByte : MethodName := ⟨"PortProcessor$Flags", "takeByte", "(I)V"⟩
def w_F_takeByte : List Cond := .code y_F_takeByte b_F_takeByte 2 none :: T0
theorem m_code_F_takeByte : Cond.code y_F_takeByte b_F_takeByte 2 none ∈ T0 := zz_in (List.mem_append_right _ (List.mem_of_getElem? (i := 382) rfl)) rfl
abbrev b_F_carryBit : ByteArray := prog_2_method_4_code
def y_F_carryBit : MethodName := ⟨"PortProcessor$Flags", "carryBit", "()I"⟩
def w_F_carryBit : List Cond := .code y_F_carryBit b_F_carryBit 1 (some .int) :: T0
theorem m_code_F_carryBit : Cond.code y_F_carryBit b_F_carryBit 1 (some .int) ∈ T0 := zz_in (List.mem_append_right _ (List.mem_of_getElem? (i := 325) rfl)) rfl
abbrev b_F_takeCarry : ByteArray := prog_2_method_5_code
def y_F_takeCarry : MethodName := ⟨"PortProcessor$Flags", "takeCarry", "(Z)V"⟩
def w_F_takeCarry : List Cond := .code y_F_takeCarry b_F_takeCarry 2 none :: T0
theorem m_code_F_takeCarry : Cond.code y_F_takeCarry b_F_takeCarry 2 none ∈ T0 := zz_in (List.mem_append_right _ (List.mem_of_getElem? (i := 252) rfl)) rfl
abbrev b_F_meet : ByteArray := prog_2_method_6_code
def y_F_meet : MethodName := ⟨"PortProcessor$Flags", "meet", "(I)Z"⟩
def w_F_meet : List Cond := .code y_F_meet b_F_meet 2 (some .boolean) :: T0
theorem m_code_F_meet : Cond.code y_F_meet b_F_meet 2 (some .boolean) ∈ T0 := zz_in (List.mem_append_right _ (List.mem_of_getElem? (i := 366) rfl)) rfl
abbrev b_F_flagOfCondition : ByteArray := prog_2_method_7_code
def y_F_flagOfCondition : MethodName := ⟨"PortProcessor$Flags", "flagOfCondition", "(I)Z"⟩
def w_F_flagOfCondition : List Cond := .code y_F_flagOfCondition b_F_flagOfCondition 2 (some .boolean) :: T0
theorem m_code_F_flagOfCondition : Cond.code y_F_flagOfCondition b_F_flagOfCondition 2 (some .boolean) ∈ T0 := zz_in (List.mem_append_right _ (List.mem_of_getElem? (i := 370) rfl)) rfl
abbrev b_F_combined : ByteArray := prog_2_method_8_code
def y_F_combined : MethodName := ⟨"PortProcessor$Flags", "combined", "(III)I"⟩
def w_F_combined : List Cond := .code y_F_combined b_F_combined 5 (some .int) :: T0
theorem m_code_F_combined : Cond.code y_F_combined b_F_combined 5 (some .int) ∈ T0 := zz_in (List.mem_append_right _ (List.mem_of_getElem? (i := 341) rfl)) rfl
abbrev b_F_sum : ByteArray := prog_2_method_9_code
def y_F_sum : MethodName := ⟨"PortProcessor$Flags", "sum", "(III)I"⟩
def w_F_sum : List Cond := .code y_F_sum b_F_sum 5 (some .int) :: T0
theorem m_code_F_sum : Cond.code y_F_sum b_F_sum 5 (some .int) ∈ T0 := zz_in (List.mem_append_right _ (List.mem_of_getElem? (i := 345) rfl)) rfl
abbrev b_F_difference : ByteArray := prog_2_method_10_code
def y_F_difference : MethodName := ⟨"PortProcessor$Flags", "difference", "(III)I"⟩
def w_F_difference : List Cond := .code y_F_difference b_F_difference 5 (some .int) :: T0
theorem m_code_F_difference : Cond.code y_F_difference b_F_difference 5 (some .int) ∈ T0 := zz_in (List.mem_append_right _ (List.mem_of_getElem? (i := 350) rfl)) rfl
abbrev b_F_logical : ByteArray := prog_2_method_11_code
def y_F_logical : MethodName := ⟨"PortProcessor$Flags", "logical", "(IZ)I"⟩
def w_F_logical : List Cond := .code y_F_logical b_F_logical 3 (some .int) :: T0
theorem m_code_F_logical : Cond.code y_F_logical b_F_logical 3 (some .int) ∈ T0 := zz_in (List.mem_append_right _ (List.mem_of_getElem? (i := 354) rfl)) rfl
abbrev b_F_raised : ByteArray := prog_2_method_12_code
def y_F_raised : MethodName := ⟨"PortProcessor$Flags", "raised", "(I)I"⟩
def w_F_raised : List Cond := .code y_F_raised b_F_raised 3 (some .int) :: T0
theorem m_code_F_raised : Cond.code y_F_raised b_F_raised 3 (some .int) ∈ T0 := zz_in (List.mem_append_right _ (List.mem_of_getElem? (i := 283) rfl)) rfl
abbrev b_F_lowered : ByteArray := prog_2_method_13_code
def y_F_lowered : MethodName := ⟨"PortProcessor$Flags", "lowered", "(I)I"⟩
def w_F_lowered : List Cond := .code y_F_lowered b_F_lowered 3 (some .int) :: T0
theorem m_code_F_lowered : Cond.code y_F_lowered b_F_lowered 3 (some .int) ∈ T0 := zz_in (List.mem_append_right _ (List.mem_of_getElem? (i := 305) rfl)) rfl
abbrev b_F_turnedLeft : ByteArray := prog_2_method_14_code
def y_F_turnedLeft : MethodName := ⟨"PortProcessor$Flags", "turnedLeft", "(II)I"⟩
def w_F_turnedLeft : List Cond := .code y_F_turnedLeft b_F_turnedLeft 3 (some .int) :: T0
theorem m_code_F_turnedLeft : Cond.code y_F_turnedLeft b_F_turnedLeft 3 (some .int) ∈ T0 := zz_in (List.mem_append_right _ (List.mem_of_getElem? (i := 317) rfl)) rfl
abbrev b_F_turnedRight : ByteArray := prog_2_method_15_code
def y_F_turnedRight : MethodName := ⟨"PortProcessor$Flags", "turnedRight", "(II)I"⟩
def w_F_turnedRight : List Cond := .code y_F_turnedRight b_F_turnedRight 3 (some .int) :: T0
theorem m_code_F_turnedRight : Cond.code y_F_turnedRight b_F_turnedRight 3 (some .int) ∈ T0 := zz_in (List.mem_append_right _ (List.mem_of_getElem? (i := 321) rfl)) rfl
abbrev b_F_decimalOf : ByteArray := prog_2_method_16_code
def y_F_decimalOf : MethodName := ⟨"PortProcessor$Flags", "decimalOf", "(I)I"⟩
def w_F_decimalOf : List Cond := .code y_F_decimalOf b_F_decimalOf 5 (some .int) :: T0
theorem m_code_F_decimalOf : Cond.code y_F_decimalOf b_F_decimalOf 5 (some .int) ∈ T0 := zz_in (List.mem_append_right _ (List.mem_of_getElem? (i := 329) rfl)) rfl
abbrev b_F_judge : ByteArray := prog_2_method_17_code
def y_F_judge : MethodName := ⟨"PortProcessor$Flags", "judge", "(I)V"⟩
def w_F_judge : List Cond := .code y_F_judge b_F_judge 2 none :: T0
theorem m_code_F_judge : Cond.code y_F_judge b_F_judge 2 none ∈ T0 := zz_in (List.mem_append_right _ (List.mem_of_getElem? (i := 287) rfl)) rfl
abbrev b_M_init : ByteArray := prog_3_method_1_code
def y_M_init : MethodName := ⟨"PortProcessor$Memory", "<init>", "()V"⟩
def w_M_init : List Cond := .code y_M_init b_M_init 1 none :: T0
theorem m_code_M_init : Cond.code y_M_init b_M_init 1 none ∈ T0 := zz_in (List.mem_append_right _ (List.mem_of_getElem? (i := 22) rfl)) rfl
abbrev b_M_read : ByteArray := prog_3_method_2_code
def y_M_read : MethodName := ⟨"PortProcessor$Memory", "read", "(I)I"⟩
def w_M_read : List Cond := .code y_M_read b_M_read 2 (some .int) :: T0
theorem m_code_M_read : Cond.code y_M_read b_M_read 2 (some .int) ∈ T0 := zz_in (List.mem_append_right _ (List.mem_of_getElem? (i := 182) rfl)) rfl
abbrev b_M_write : ByteArray := prog_3_method_3_code
def y_M_write : MethodName := ⟨"PortProcessor$Memory", "write", "(II)V"⟩
def w_M_write : List Cond := .code y_M_write b_M_write 3 none :: T0
theorem m_code_M_write : Cond.code y_M_write b_M_write 3 none ∈ T0 := zz_in (List.mem_append_right _ (List.mem_of_getElem? (i := 170) rfl)) rfl
abbrev b_I_bitCount : ByteArray := prog_8_method_49_code
def y_I_bitCount : MethodName := ⟨"java/lang/Integer", "bitCount", "(I)I"⟩
def w_I_bitCount : List Cond := .code y_I_bitCount b_I_bitCount 1 (some .int) :: T0
theorem m_code_I_bitCount : Cond.code y_I_bitCount b_I_bitCount 1 (some .int) ∈ T0 := zz_in (List.mem_append_right _ (List.mem_of_getElem? (i := 290) rfl)) rfl
theorem m_methodLink_PortProcessor_199_P_readPair : Cond.methodLink "PortProcessor" 199 y_P_readPair ∈ T0 := zz_in (List.mem_append_right _ (List.mem_of_getElem? (i := 245) rfl)) rfl
theorem m_instanceMethod_P_readPair : Cond.instanceMethod y_P_readPair ∈ T0 := zz_in (List.mem_append_right _ (List.mem_of_getElem? (i := 247) rfl)) rfl
theorem m_selects_P_readPair : Cond.selects "PortProcessor" y_P_readPair y_P_readPair ∈ T0 := zz_in (List.mem_append_left _ (List.mem_of_getElem? (i := 11) rfl)) rfl
theorem m_initialized_PortProcessor : Cond.initialized "PortProcessor" ∈ T0 := zz_in (List.mem_append_right _ (List.mem_of_getElem? (i := 1) rfl)) rfl
theorem cw_P_199 {p : Program} {m : MethodId} {c : Code} {cc : ByteArray} {nL : Nat} {s : State} {args : Array Value} {c0 : Cond} {R : Room} (K : CallFix p m c cc nL s args (c0 :: T0) "PortProcessor") (h1 : 0 + 1 ≤ R.frames) (h2 : 8 + (2 + 11) + 0 ≤ R.locals) : CallW R s args "PortProcessor" "PortProcessor" 199 y_P_readPair b_P_readPair 2 (some .int) w_P_readPair (rmz 0 0) 0 0 1 := cwV 1 K.2.2.2.2 (zz_gv m_methodLink_PortProcessor_199_P_readPair m_instanceMethod_P_readPair m_selects_P_readPair m_initialized_PortProcessor m_code_P_readPair) rfl rfl rfl ⟨rfl, by decide, by decide, by decide +kernel⟩ ⟨h1, h2⟩
theorem m_methodLink_PortProcessor_52_M_read : Cond.methodLink "PortProcessor" 52 y_M_read ∈ T0 := zz_in (List.mem_append_right _ (List.mem_of_getElem? (i := 179) rfl)) rfl
theorem m_instanceMethod_M_read : Cond.instanceMethod y_M_read ∈ T0 := zz_in (List.mem_append_right _ (List.mem_of_getElem? (i := 180) rfl)) rfl
theorem m_selects_M_read : Cond.selects "PortProcessor$Memory" y_M_read y_M_read ∈ T0 := zz_in (List.mem_append_right _ (List.mem_of_getElem? (i := 181) rfl)) rfl
theorem m_initialized_PortProcessor_Memory : Cond.initialized "PortProcessor$Memory" ∈ T0 := zz_in (List.mem_append_right _ (List.mem_of_getElem? (i := 2) rfl)) rfl
theorem cw_P_52 {p : Program} {m : MethodId} {c : Code} {cc : ByteArray} {nL : Nat} {s : State} {args : Array Value} {c0 : Cond} {R : Room} (K : CallFix p m c cc nL s args (c0 :: T0) "PortProcessor") (h1 : 0 + 1 ≤ R.frames) (h2 : 8 + (2 + 11) + 0 ≤ R.locals) : CallW R s args "PortProcessor" "PortProcessor$Memory" 52 y_M_read b_M_read 2 (some .int) w_M_read (rmz 0 0) 0 0 1 := cwV 1 K.2.2.2.2 (zz_gv m_methodLink_PortProcessor_52_M_read m_instanceMethod_M_read m_selects_M_read m_initialized_PortProcessor_Memory m_code_M_read) rfl rfl rfl ⟨rfl, by decide, by decide, by decide +kernel⟩ ⟨h1, h2⟩
theorem m_methodLink_PortProcessor_46_M_write : Cond.methodLink "PortProcessor" 46 y_M_write ∈ T0 := zz_in (List.mem_append_right _ (List.mem_of_getElem? (i := 167) rfl)) rfl
theorem m_instanceMethod_M_write : Cond.instanceMethod y_M_write ∈ T0 := zz_in (List.mem_append_right _ (List.mem_of_getElem? (i := 168) rfl)) rfl
theorem m_selects_M_write : Cond.selects "PortProcessor$Memory" y_M_write y_M_write ∈ T0 := zz_in (List.mem_append_right _ (List.mem_of_getElem? (i := 169) rfl)) rfl
theorem cw_P_46 {p : Program} {m : MethodId} {c : Code} {cc : ByteArray} {nL : Nat} {s : State} {args : Array Value} {c0 : Cond} {R : Room} (K : CallFix p m c cc nL s args (c0 :: T0) "PortProcessor") (h1 : 0 + 1 ≤ R.frames) (h2 : 8 + (3 + 11) + 0 ≤ R.locals) : CallW R s args "PortProcessor" "PortProcessor$Memory" 46 y_M_write b_M_write 3 none w_M_write (rmz 0 0) 0 0 2 := cwV 2 K.2.2.2.2 (zz_gv m_methodLink_PortProcessor_46_M_write m_instanceMethod_M_write m_selects_M_write m_initialized_PortProcessor_Memory m_code_M_write) rfl rfl rfl ⟨rfl, by decide, by decide, by decide +kernel⟩ ⟨h1, h2⟩
theorem m_constant_PortProcessor_56_65535 : Cond.constant "PortProcessor" 56 (nI 65535) ∈ T0 := zz_in (List.mem_append_right _ (List.mem_of_getElem? (i := 190) rfl)) rfl
theorem m_methodLink_PortProcessor_121_P_nextByte : Cond.methodLink "PortProcessor" 121 y_P_nextByte ∈ T0 := zz_in (List.mem_append_right _ (List.mem_of_getElem? (i := 218) rfl)) rfl
theorem m_instanceMethod_P_nextByte : Cond.instanceMethod y_P_nextByte ∈ T0 := zz_in (List.mem_append_right _ (List.mem_of_getElem? (i := 220) rfl)) rfl
theorem m_selects_P_nextByte : Cond.selects "PortProcessor" y_P_nextByte y_P_nextByte ∈ T0 := zz_in (List.mem_append_left _ (List.mem_of_getElem? (i := 5) rfl)) rfl
theorem cw_P_121 {p : Program} {m : MethodId} {c : Code} {cc : ByteArray} {nL : Nat} {s : State} {args : Array Value} {c0 : Cond} {R : Room} (K : CallFix p m c cc nL s args (c0 :: T0) "PortProcessor") (h1 : 1 + 1 ≤ R.frames) (h2 : 8 + (2 + 11) + 21 ≤ R.locals) : CallW R s args "PortProcessor" "PortProcessor" 121 y_P_nextByte b_P_nextByte 2 (some .int) w_P_nextByte (rmz 1 21) 0 0 0 := cwV 0 K.2.2.2.2 (zz_gv m_methodLink_PortProcessor_121_P_nextByte m_instanceMethod_P_nextByte m_selects_P_nextByte m_initialized_PortProcessor m_code_P_nextByte) rfl rfl rfl ⟨rfl, by decide, by decide, by decide +kernel⟩ ⟨h1, h2⟩
theorem m_methodLink_PortProcessor_247_P_push : Cond.methodLink "PortProcessor" 247 y_P_push ∈ T0 := zz_in (List.mem_append_right _ (List.mem_of_getElem? (i := 212) rfl)) rfl
theorem m_instanceMethod_P_push : Cond.instanceMethod y_P_push ∈ T0 := zz_in (List.mem_append_right _ (List.mem_of_getElem? (i := 214) rfl)) rfl
theorem m_selects_P_push : Cond.selects "PortProcessor" y_P_push y_P_push ∈ T0 := zz_in (List.mem_append_left _ (List.mem_of_getElem? (i := 4) rfl)) rfl
theorem cw_P_247 {p : Program} {m : MethodId} {c : Code} {cc : ByteArray} {nL : Nat} {s : State} {args : Array Value} {c0 : Cond} {R : Room} (K : CallFix p m c cc nL s args (c0 :: T0) "PortProcessor") (h1 : 1 + 1 ≤ R.frames) (h2 : 8 + (2 + 11) + 22 ≤ R.locals) : CallW R s args "PortProcessor" "PortProcessor" 247 y_P_push b_P_push 2 none w_P_push (rmz 1 22) 0 0 1 := cwV 1 K.2.2.2.2 (zz_gv m_methodLink_PortProcessor_247_P_push m_instanceMethod_P_push m_selects_P_push m_initialized_PortProcessor m_code_P_push) rfl rfl rfl ⟨rfl, by decide, by decide, by decide +kernel⟩ ⟨h1, h2⟩
theorem m_methodLink_PortProcessor_Flags_27_F_flagOfCondition : Cond.methodLink "PortProcessor$Flags" 27 y_F_flagOfCondition ∈ T0 := zz_in (List.mem_append_right _ (List.mem_of_getElem? (i := 367) rfl)) rfl
theorem m_instanceMethod_F_flagOfCondition : Cond.instanceMethod y_F_flagOfCondition ∈ T0 := zz_in (List.mem_append_right _ (List.mem_of_getElem? (i := 369) rfl)) rfl
theorem m_selects_F_flagOfCondition : Cond.selects "PortProcessor$Flags" y_F_flagOfCondition y_F_flagOfCondition ∈ T0 := zz_in (List.mem_append_left _ (List.mem_of_getElem? (i := 30) rfl)) rfl
theorem m_initialized_PortProcessor_Flags : Cond.initialized "PortProcessor$Flags" ∈ T0 := zz_in (List.mem_append_right _ (List.mem_of_getElem? (i := 3) rfl)) rfl
theorem cw_F_27 {p : Program} {m : MethodId} {c : Code} {cc : ByteArray} {nL : Nat} {s : State} {args : Array Value} {c0 : Cond} {R : Room} (K : CallFix p m c cc nL s args (c0 :: T0) "PortProcessor$Flags") (h1 : 0 + 1 ≤ R.frames) (h2 : 8 + (2 + 11) + 0 ≤ R.locals) : CallW R s args "PortProcessor$Flags" "PortProcessor$Flags" 27 y_F_flagOfCondition b_F_flagOfCondition 2 (some .boolean) w_F_flagOfCondition (rmz 0 0) 0 0 1 := cwV 1 K.2.2.2.2 (zz_gv m_methodLink_PortProcessor_Flags_27_F_flagOfCondition m_instanceMethod_F_flagOfCondition m_selects_F_flagOfCondition m_initialized_PortProcessor_Flags m_code_F_flagOfCondition) rfl rfl rfl ⟨rfl, by decide, by decide, by decide +kernel⟩ ⟨h1, h2⟩
theorem m_methodLink_PortProcessor_Flags_50_I_bitCount : Cond.methodLink "PortProcessor$Flags" 50 y_I_bitCount ∈ T0 := zz_in (List.mem_append_right _ (List.mem_of_getElem? (i := 288) rfl)) rfl
theorem m_static_I_bitCount : Cond.static y_I_bitCount ∈ T0 := zz_in (List.mem_append_right _ (List.mem_of_getElem? (i := 289) rfl)) rfl
theorem m_initialized_java_lang_Integer : Cond.initialized "java/lang/Integer" ∈ T0 := zz_in (List.mem_append_right _ (List.mem_of_getElem? (i := 9) rfl)) rfl
theorem cw_F_50 {p : Program} {m : MethodId} {c : Code} {cc : ByteArray} {nL : Nat} {s : State} {args : Array Value} {c0 : Cond} {R : Room} (K : CallFix p m c cc nL s args (c0 :: T0) "PortProcessor$Flags") (h1 : 0 + 1 ≤ R.frames) (h2 : 8 + (1 + 11) + 0 ≤ R.locals) : CallB R s args "PortProcessor$Flags" 50 y_I_bitCount b_I_bitCount 1 (some .int) w_I_bitCount (rmz 0 0) 0 0 1 ∧ (Cond.static y_I_bitCount).before args s = true := va_cwS 1 K.2.2.2.2 (zz_gs m_methodLink_PortProcessor_Flags_50_I_bitCount m_static_I_bitCount m_initialized_java_lang_Integer m_code_I_bitCount) rfl rfl rfl ⟨by decide, by decide, by decide +kernel⟩ ⟨h1, h2⟩
theorem m_methodLink_PortProcessor_Flags_31_F_sum : Cond.methodLink "PortProcessor$Flags" 31 y_F_sum ∈ T0 := zz_in (List.mem_append_right _ (List.mem_of_getElem? (i := 342) rfl)) rfl
theorem m_instanceMethod_F_sum : Cond.instanceMethod y_F_sum ∈ T0 := zz_in (List.mem_append_right _ (List.mem_of_getElem? (i := 344) rfl)) rfl
theorem m_selects_F_sum : Cond.selects "PortProcessor$Flags" y_F_sum y_F_sum ∈ T0 := zz_in (List.mem_append_left _ (List.mem_of_getElem? (i := 25) rfl)) rfl
theorem cw_F_31 {p : Program} {m : MethodId} {c : Code} {cc : ByteArray} {nL : Nat} {s : State} {args : Array Value} {c0 : Cond} {R : Room} (K : CallFix p m c cc nL s args (c0 :: T0) "PortProcessor$Flags") (h1 : 0 + 1 ≤ R.frames) (h2 : 8 + (5 + 11) + 0 ≤ R.locals) : CallW R s args "PortProcessor$Flags" "PortProcessor$Flags" 31 y_F_sum b_F_sum 5 (some .int) w_F_sum (rmz 0 0) 0 0 3 := cwV 3 K.2.2.2.2 (zz_gv m_methodLink_PortProcessor_Flags_31_F_sum m_instanceMethod_F_sum m_selects_F_sum m_initialized_PortProcessor_Flags m_code_F_sum) rfl rfl rfl ⟨rfl, by decide, by decide, by decide +kernel⟩ ⟨h1, h2⟩
theorem m_methodLink_PortProcessor_Flags_46_F_judge : Cond.methodLink "PortProcessor$Flags" 46 y_F_judge ∈ T0 := zz_in (List.mem_append_right _ (List.mem_of_getElem? (i := 284) rfl)) rfl
theorem m_instanceMethod_F_judge : Cond.instanceMethod y_F_judge ∈ T0 := zz_in (List.mem_append_right _ (List.mem_of_getElem? (i := 286) rfl)) rfl
theorem m_selects_F_judge : Cond.selects "PortProcessor$Flags" y_F_judge y_F_judge ∈ T0 := zz_in (List.mem_append_left _ (List.mem_of_getElem? (i := 18) rfl)) rfl
theorem cw_F_46 {p : Program} {m : MethodId} {c : Code} {cc : ByteArray} {nL : Nat} {s : State} {args : Array Value} {c0 : Cond} {R : Room} (K : CallFix p m c cc nL s args (c0 :: T0) "PortProcessor$Flags") (h1 : 1 + 1 ≤ R.frames) (h2 : 8 + (2 + 11) + 20 ≤ R.locals) : CallW R s args "PortProcessor$Flags" "PortProcessor$Flags" 46 y_F_judge b_F_judge 2 none w_F_judge (rmz 1 20) 0 0 1 := cwV 1 K.2.2.2.2 (zz_gv m_methodLink_PortProcessor_Flags_46_F_judge m_instanceMethod_F_judge m_selects_F_judge m_initialized_PortProcessor_Flags m_code_F_judge) rfl rfl rfl ⟨rfl, by decide, by decide, by decide +kernel⟩ ⟨h1, h2⟩
theorem m_methodLink_PortProcessor_Flags_35_F_carryBit : Cond.methodLink "PortProcessor$Flags" 35 y_F_carryBit ∈ T0 := zz_in (List.mem_append_right _ (List.mem_of_getElem? (i := 346) rfl)) rfl
theorem m_instanceMethod_F_carryBit : Cond.instanceMethod y_F_carryBit ∈ T0 := zz_in (List.mem_append_right _ (List.mem_of_getElem? (i := 323) rfl)) rfl
theorem m_selects_F_carryBit : Cond.selects "PortProcessor$Flags" y_F_carryBit y_F_carryBit ∈ T0 := zz_in (List.mem_append_right _ (List.mem_of_getElem? (i := 324) rfl)) rfl
theorem cw_F_35 {p : Program} {m : MethodId} {c : Code} {cc : ByteArray} {nL : Nat} {s : State} {args : Array Value} {c0 : Cond} {R : Room} (K : CallFix p m c cc nL s args (c0 :: T0) "PortProcessor$Flags") (h1 : 0 + 1 ≤ R.frames) (h2 : 8 + (1 + 11) + 0 ≤ R.locals) : CallW R s args "PortProcessor$Flags" "PortProcessor$Flags" 35 y_F_carryBit b_F_carryBit 1 (some .int) w_F_carryBit (rmz 0 0) 0 0 0 := cwV 0 K.2.2.2.2 (zz_gv m_methodLink_PortProcessor_Flags_35_F_carryBit m_instanceMethod_F_carryBit m_selects_F_carryBit m_initialized_PortProcessor_Flags m_code_F_carryBit) rfl rfl rfl ⟨rfl, by decide, by decide, by decide +kernel⟩ ⟨h1, h2⟩
theorem m_methodLink_PortProcessor_Flags_39_F_difference : Cond.methodLink "PortProcessor$Flags" 39 y_F_difference ∈ T0 := zz_in (List.mem_append_right _ (List.mem_of_getElem? (i := 347) rfl)) rfl
theorem m_instanceMethod_F_difference : Cond.instanceMethod y_F_difference ∈ T0 := zz_in (List.mem_append_right _ (List.mem_of_getElem? (i := 349) rfl)) rfl
theorem m_selects_F_difference : Cond.selects "PortProcessor$Flags" y_F_difference y_F_difference ∈ T0 := zz_in (List.mem_append_left _ (List.mem_of_getElem? (i := 26) rfl)) rfl
theorem cw_F_39 {p : Program} {m : MethodId} {c : Code} {cc : ByteArray} {nL : Nat} {s : State} {args : Array Value} {c0 : Cond} {R : Room} (K : CallFix p m c cc nL s args (c0 :: T0) "PortProcessor$Flags") (h1 : 1 + 1 ≤ R.frames) (h2 : 8 + (5 + 11) + 24 ≤ R.locals) : CallW R s args "PortProcessor$Flags" "PortProcessor$Flags" 39 y_F_difference b_F_difference 5 (some .int) w_F_difference (rmz 1 24) 0 0 3 := cwV 3 K.2.2.2.2 (zz_gv m_methodLink_PortProcessor_Flags_39_F_difference m_instanceMethod_F_difference m_selects_F_difference m_initialized_PortProcessor_Flags m_code_F_difference) rfl rfl rfl ⟨rfl, by decide, by decide, by decide +kernel⟩ ⟨h1, h2⟩
theorem m_methodLink_PortProcessor_Flags_42_F_logical : Cond.methodLink "PortProcessor$Flags" 42 y_F_logical ∈ T0 := zz_in (List.mem_append_right _ (List.mem_of_getElem? (i := 351) rfl)) rfl
theorem m_instanceMethod_F_logical : Cond.instanceMethod y_F_logical ∈ T0 := zz_in (List.mem_append_right _ (List.mem_of_getElem? (i := 353) rfl)) rfl
theorem m_selects_F_logical : Cond.selects "PortProcessor$Flags" y_F_logical y_F_logical ∈ T0 := zz_in (List.mem_append_left _ (List.mem_of_getElem? (i := 27) rfl)) rfl
theorem cw_F_42 {p : Program} {m : MethodId} {c : Code} {cc : ByteArray} {nL : Nat} {s : State} {args : Array Value} {c0 : Cond} {R : Room} (K : CallFix p m c cc nL s args (c0 :: T0) "PortProcessor$Flags") (h1 : 0 + 1 ≤ R.frames) (h2 : 8 + (3 + 11) + 0 ≤ R.locals) : CallW R s args "PortProcessor$Flags" "PortProcessor$Flags" 42 y_F_logical b_F_logical 3 (some .int) w_F_logical (rmz 0 0) 0 0 2 := cwV 2 K.2.2.2.2 (zz_gv m_methodLink_PortProcessor_Flags_42_F_logical m_instanceMethod_F_logical m_selects_F_logical m_initialized_PortProcessor_Flags m_code_F_logical) rfl rfl rfl ⟨rfl, by decide, by decide, by decide +kernel⟩ ⟨h1, h2⟩
theorem m_methodLink_PortProcessor_190_P_pairOf : Cond.methodLink "PortProcessor" 190 y_P_pairOf ∈ T0 := zz_in (List.mem_append_right _ (List.mem_of_getElem? (i := 230) rfl)) rfl
theorem m_static_P_pairOf : Cond.static y_P_pairOf ∈ T0 := zz_in (List.mem_append_right _ (List.mem_of_getElem? (i := 231) rfl)) rfl
theorem cw_P_190 {p : Program} {m : MethodId} {c : Code} {cc : ByteArray} {nL : Nat} {s : State} {args : Array Value} {c0 : Cond} {R : Room} (K : CallFix p m c cc nL s args (c0 :: T0) "PortProcessor") (h1 : 0 + 1 ≤ R.frames) (h2 : 8 + (1 + 11) + 0 ≤ R.locals) : CallB R s args "PortProcessor" 190 y_P_pairOf b_P_pairOf 1 (some .int) w_P_pairOf (rmz 0 0) 0 0 1 ∧ (Cond.static y_P_pairOf).before args s = true := va_cwS 1 K.2.2.2.2 (zz_gs m_methodLink_PortProcessor_190_P_pairOf m_static_P_pairOf m_initialized_PortProcessor m_code_P_pairOf) rfl rfl rfl ⟨by decide, by decide, by decide +kernel⟩ ⟨h1, h2⟩
theorem m_methodLink_PortProcessor_193_P_nextTwoBytes : Cond.methodLink "PortProcessor" 193 y_P_nextTwoBytes ∈ T0 := zz_in (List.mem_append_right _ (List.mem_of_getElem? (i := 233) rfl)) rfl
theorem m_instanceMethod_P_nextTwoBytes : Cond.instanceMethod y_P_nextTwoBytes ∈ T0 := zz_in (List.mem_append_right _ (List.mem_of_getElem? (i := 235) rfl)) rfl
theorem m_selects_P_nextTwoBytes : Cond.selects "PortProcessor" y_P_nextTwoBytes y_P_nextTwoBytes ∈ T0 := zz_in (List.mem_append_left _ (List.mem_of_getElem? (i := 8) rfl)) rfl
theorem cw_P_193 {p : Program} {m : MethodId} {c : Code} {cc : ByteArray} {nL : Nat} {s : State} {args : Array Value} {c0 : Cond} {R : Room} (K : CallFix p m c cc nL s args (c0 :: T0) "PortProcessor") (h1 : 2 + 1 ≤ R.frames) (h2 : 8 + (2 + 11) + 42 ≤ R.locals) : CallW R s args "PortProcessor" "PortProcessor" 193 y_P_nextTwoBytes b_P_nextTwoBytes 2 (some .int) w_P_nextTwoBytes (rmz 2 42) 0 0 0 := cwV 0 K.2.2.2.2 (zz_gv m_methodLink_PortProcessor_193_P_nextTwoBytes m_instanceMethod_P_nextTwoBytes m_selects_P_nextTwoBytes m_initialized_PortProcessor m_code_P_nextTwoBytes) rfl rfl rfl ⟨rfl, by decide, by decide, by decide +kernel⟩ ⟨h1, h2⟩
theorem m_methodLink_PortProcessor_196_P_writePair : Cond.methodLink "PortProcessor" 196 y_P_writePair ∈ T0 := zz_in (List.mem_append_right _ (List.mem_of_getElem? (i := 237) rfl)) rfl
theorem m_instanceMethod_P_writePair : Cond.instanceMethod y_P_writePair ∈ T0 := zz_in (List.mem_append_right _ (List.mem_of_getElem? (i := 239) rfl)) rfl
theorem m_selects_P_writePair : Cond.selects "PortProcessor" y_P_writePair y_P_writePair ∈ T0 := zz_in (List.mem_append_left _ (List.mem_of_getElem? (i := 9) rfl)) rfl
theorem cw_P_196 {p : Program} {m : MethodId} {c : Code} {cc : ByteArray} {nL : Nat} {s : State} {args : Array Value} {c0 : Cond} {R : Room} (K : CallFix p m c cc nL s args (c0 :: T0) "PortProcessor") (h1 : 0 + 1 ≤ R.frames) (h2 : 8 + (3 + 11) + 0 ≤ R.locals) : CallW R s args "PortProcessor" "PortProcessor" 196 y_P_writePair b_P_writePair 3 none w_P_writePair (rmz 0 0) 0 0 2 := cwV 2 K.2.2.2.2 (zz_gv m_methodLink_PortProcessor_196_P_writePair m_instanceMethod_P_writePair m_selects_P_writePair m_initialized_PortProcessor m_code_P_writePair) rfl rfl rfl ⟨rfl, by decide, by decide, by decide +kernel⟩ ⟨h1, h2⟩
theorem m_methodLink_PortProcessor_202_F_takeCarry : Cond.methodLink "PortProcessor" 202 y_F_takeCarry ∈ T0 := zz_in (List.mem_append_right _ (List.mem_of_getElem? (i := 249) rfl)) rfl
theorem m_instanceMethod_F_takeCarry : Cond.instanceMethod y_F_takeCarry ∈ T0 := zz_in (List.mem_append_right _ (List.mem_of_getElem? (i := 250) rfl)) rfl
theorem m_selects_F_takeCarry : Cond.selects "PortProcessor$Flags" y_F_takeCarry y_F_takeCarry ∈ T0 := zz_in (List.mem_append_right _ (List.mem_of_getElem? (i := 251) rfl)) rfl
theorem cw_P_202 {p : Program} {m : MethodId} {c : Code} {cc : ByteArray} {nL : Nat} {s : State} {args : Array Value} {c0 : Cond} {R : Room} (K : CallFix p m c cc nL s args (c0 :: T0) "PortProcessor") (h1 : 0 + 1 ≤ R.frames) (h2 : 8 + (2 + 11) + 0 ≤ R.locals) : CallW R s args "PortProcessor" "PortProcessor$Flags" 202 y_F_takeCarry b_F_takeCarry 2 none w_F_takeCarry (rmz 0 0) 0 0 1 := cwV 1 K.2.2.2.2 (zz_gv m_methodLink_PortProcessor_202_F_takeCarry m_instanceMethod_F_takeCarry m_selects_F_takeCarry m_initialized_PortProcessor_Flags m_code_F_takeCarry) rfl rfl rfl ⟨rfl, by decide, by decide, by decide +kernel⟩ ⟨h1, h2⟩
theorem m_methodLink_PortProcessor_206_P_storeHl : Cond.methodLink "PortProcessor" 206 y_P_storeHl ∈ T0 := zz_in (List.mem_append_right _ (List.mem_of_getElem? (i := 257) rfl)) rfl
theorem m_instanceMethod_P_storeHl : Cond.instanceMethod y_P_storeHl ∈ T0 := zz_in (List.mem_append_right _ (List.mem_of_getElem? (i := 259) rfl)) rfl
theorem m_selects_P_storeHl : Cond.selects "PortProcessor" y_P_storeHl y_P_storeHl ∈ T0 := zz_in (List.mem_append_left _ (List.mem_of_getElem? (i := 13) rfl)) rfl
theorem cw_P_206 {p : Program} {m : MethodId} {c : Code} {cc : ByteArray} {nL : Nat} {s : State} {args : Array Value} {c0 : Cond} {R : Room} (K : CallFix p m c cc nL s args (c0 :: T0) "PortProcessor") (h1 : 1 + 1 ≤ R.frames) (h2 : 8 + (2 + 11) + 22 ≤ R.locals) : CallW R s args "PortProcessor" "PortProcessor" 206 y_P_storeHl b_P_storeHl 2 (some .int) w_P_storeHl (rmz 1 22) 0 0 1 := cwV 1 K.2.2.2.2 (zz_gv m_methodLink_PortProcessor_206_P_storeHl m_instanceMethod_P_storeHl m_selects_P_storeHl m_initialized_PortProcessor m_code_P_storeHl) rfl rfl rfl ⟨rfl, by decide, by decide, by decide +kernel⟩ ⟨h1, h2⟩
theorem m_methodLink_PortProcessor_209_P_fetchHl : Cond.methodLink "PortProcessor" 209 y_P_fetchHl ∈ T0 := zz_in (List.mem_append_right _ (List.mem_of_getElem? (i := 261) rfl)) rfl
theorem m_instanceMethod_P_fetchHl : Cond.instanceMethod y_P_fetchHl ∈ T0 := zz_in (List.mem_append_right _ (List.mem_of_getElem? (i := 263) rfl)) rfl
theorem m_selects_P_fetchHl : Cond.selects "PortProcessor" y_P_fetchHl y_P_fetchHl ∈ T0 := zz_in (List.mem_append_left _ (List.mem_of_getElem? (i := 14) rfl)) rfl
theorem cw_P_209 {p : Program} {m : MethodId} {c : Code} {cc : ByteArray} {nL : Nat} {s : State} {args : Array Value} {c0 : Cond} {R : Room} (K : CallFix p m c cc nL s args (c0 :: T0) "PortProcessor") (h1 : 1 + 1 ≤ R.frames) (h2 : 8 + (2 + 11) + 21 ≤ R.locals) : CallW R s args "PortProcessor" "PortProcessor" 209 y_P_fetchHl b_P_fetchHl 2 (some .int) w_P_fetchHl (rmz 1 21) 0 0 1 := cwV 1 K.2.2.2.2 (zz_gv m_methodLink_PortProcessor_209_P_fetchHl m_instanceMethod_P_fetchHl m_selects_P_fetchHl m_initialized_PortProcessor m_code_P_fetchHl) rfl rfl rfl ⟨rfl, by decide, by decide, by decide +kernel⟩ ⟨h1, h2⟩
theorem m_methodLink_PortProcessor_212_P_targetOf : Cond.methodLink "PortProcessor" 212 y_P_targetOf ∈ T0 := zz_in (List.mem_append_right _ (List.mem_of_getElem? (i := 273) rfl)) rfl
theorem m_static_P_targetOf : Cond.static y_P_targetOf ∈ T0 := zz_in (List.mem_append_right _ (List.mem_of_getElem? (i := 274) rfl)) rfl
theorem cw_P_212 {p : Program} {m : MethodId} {c : Code} {cc : ByteArray} {nL : Nat} {s : State} {args : Array Value} {c0 : Cond} {R : Room} (K : CallFix p m c cc nL s args (c0 :: T0) "PortProcessor") (h1 : 0 + 1 ≤ R.frames) (h2 : 8 + (1 + 11) + 0 ≤ R.locals) : CallB R s args "PortProcessor" 212 y_P_targetOf b_P_targetOf 1 (some .int) w_P_targetOf (rmz 0 0) 0 0 1 ∧ (Cond.static y_P_targetOf).before args s = true := va_cwS 1 K.2.2.2.2 (zz_gs m_methodLink_PortProcessor_212_P_targetOf m_static_P_targetOf m_initialized_PortProcessor m_code_P_targetOf) rfl rfl rfl ⟨by decide, by decide, by decide +kernel⟩ ⟨h1, h2⟩
theorem m_methodLink_PortProcessor_91_P_readRegister : Cond.methodLink "PortProcessor" 91 y_P_readRegister ∈ T0 := zz_in (List.mem_append_right _ (List.mem_of_getElem? (i := 276) rfl)) rfl
theorem m_instanceMethod_P_readRegister : Cond.instanceMethod y_P_readRegister ∈ T0 := zz_in (List.mem_append_right _ (List.mem_of_getElem? (i := 278) rfl)) rfl
theorem m_selects_P_readRegister : Cond.selects "PortProcessor" y_P_readRegister y_P_readRegister ∈ T0 := zz_in (List.mem_append_left _ (List.mem_of_getElem? (i := 17) rfl)) rfl
theorem cw_P_91 {p : Program} {m : MethodId} {c : Code} {cc : ByteArray} {nL : Nat} {s : State} {args : Array Value} {c0 : Cond} {R : Room} (K : CallFix p m c cc nL s args (c0 :: T0) "PortProcessor") (h1 : 1 + 1 ≤ R.frames) (h2 : 8 + (2 + 11) + 21 ≤ R.locals) : CallW R s args "PortProcessor" "PortProcessor" 91 y_P_readRegister b_P_readRegister 2 (some .int) w_P_readRegister (rmz 1 21) 0 0 1 := cwV 1 K.2.2.2.2 (zz_gv m_methodLink_PortProcessor_91_P_readRegister m_instanceMethod_P_readRegister m_selects_P_readRegister m_initialized_PortProcessor m_code_P_readRegister) rfl rfl rfl ⟨rfl, by decide, by decide, by decide +kernel⟩ ⟨h1, h2⟩
theorem m_methodLink_PortProcessor_215_F_raised : Cond.methodLink "PortProcessor" 215 y_F_raised ∈ T0 := zz_in (List.mem_append_right _ (List.mem_of_getElem? (i := 280) rfl)) rfl
theorem m_instanceMethod_F_raised : Cond.instanceMethod y_F_raised ∈ T0 := zz_in (List.mem_append_right _ (List.mem_of_getElem? (i := 281) rfl)) rfl
theorem m_selects_F_raised : Cond.selects "PortProcessor$Flags" y_F_raised y_F_raised ∈ T0 := zz_in (List.mem_append_right _ (List.mem_of_getElem? (i := 282) rfl)) rfl
theorem cw_P_215 {p : Program} {m : MethodId} {c : Code} {cc : ByteArray} {nL : Nat} {s : State} {args : Array Value} {c0 : Cond} {R : Room} (K : CallFix p m c cc nL s args (c0 :: T0) "PortProcessor") (h1 : 2 + 1 ≤ R.frames) (h2 : 8 + (3 + 11) + 41 ≤ R.locals) : CallW R s args "PortProcessor" "PortProcessor$Flags" 215 y_F_raised b_F_raised 3 (some .int) w_F_raised (rmz 2 41) 0 0 1 := cwV 1 K.2.2.2.2 (zz_gv m_methodLink_PortProcessor_215_F_raised m_instanceMethod_F_raised m_selects_F_raised m_initialized_PortProcessor_Flags m_code_F_raised) rfl rfl rfl ⟨rfl, by decide, by decide, by decide +kernel⟩ ⟨h1, h2⟩
theorem m_methodLink_PortProcessor_218_P_writeRegister : Cond.methodLink "PortProcessor" 218 y_P_writeRegister ∈ T0 := zz_in (List.mem_append_right _ (List.mem_of_getElem? (i := 294) rfl)) rfl
theorem m_instanceMethod_P_writeRegister : Cond.instanceMethod y_P_writeRegister ∈ T0 := zz_in (List.mem_append_right _ (List.mem_of_getElem? (i := 296) rfl)) rfl
theorem m_selects_P_writeRegister : Cond.selects "PortProcessor" y_P_writeRegister y_P_writeRegister ∈ T0 := zz_in (List.mem_append_left _ (List.mem_of_getElem? (i := 19) rfl)) rfl
theorem cw_P_218 {p : Program} {m : MethodId} {c : Code} {cc : ByteArray} {nL : Nat} {s : State} {args : Array Value} {c0 : Cond} {R : Room} (K : CallFix p m c cc nL s args (c0 :: T0) "PortProcessor") (h1 : 1 + 1 ≤ R.frames) (h2 : 8 + (3 + 11) + 22 ≤ R.locals) : CallW R s args "PortProcessor" "PortProcessor" 218 y_P_writeRegister b_P_writeRegister 3 none w_P_writeRegister (rmz 1 22) 0 0 2 := cwV 2 K.2.2.2.2 (zz_gv m_methodLink_PortProcessor_218_P_writeRegister m_instanceMethod_P_writeRegister m_selects_P_writeRegister m_initialized_PortProcessor m_code_P_writeRegister) rfl rfl rfl ⟨rfl, by decide, by decide, by decide +kernel⟩ ⟨h1, h2⟩
theorem m_methodLink_PortProcessor_221_F_lowered : Cond.methodLink "PortProcessor" 221 y_F_lowered ∈ T0 := zz_in (List.mem_append_right _ (List.mem_of_getElem? (i := 302) rfl)) rfl
theorem m_instanceMethod_F_lowered : Cond.instanceMethod y_F_lowered ∈ T0 := zz_in (List.mem_append_right _ (List.mem_of_getElem? (i := 303) rfl)) rfl
theorem m_selects_F_lowered : Cond.selects "PortProcessor$Flags" y_F_lowered y_F_lowered ∈ T0 := zz_in (List.mem_append_right _ (List.mem_of_getElem? (i := 304) rfl)) rfl
theorem cw_P_221 {p : Program} {m : MethodId} {c : Code} {cc : ByteArray} {nL : Nat} {s : State} {args : Array Value} {c0 : Cond} {R : Room} (K : CallFix p m c cc nL s args (c0 :: T0) "PortProcessor") (h1 : 2 + 1 ≤ R.frames) (h2 : 8 + (3 + 11) + 41 ≤ R.locals) : CallW R s args "PortProcessor" "PortProcessor$Flags" 221 y_F_lowered b_F_lowered 3 (some .int) w_F_lowered (rmz 2 41) 0 0 1 := cwV 1 K.2.2.2.2 (zz_gv m_methodLink_PortProcessor_221_F_lowered m_instanceMethod_F_lowered m_selects_F_lowered m_initialized_PortProcessor_Flags m_code_F_lowered) rfl rfl rfl ⟨rfl, by decide, by decide, by decide +kernel⟩ ⟨h1, h2⟩
theorem m_methodLink_PortProcessor_224_F_turnedLeft : Cond.methodLink "PortProcessor" 224 y_F_turnedLeft ∈ T0 := zz_in (List.mem_append_right _ (List.mem_of_getElem? (i := 314) rfl)) rfl
theorem m_instanceMethod_F_turnedLeft : Cond.instanceMethod y_F_turnedLeft ∈ T0 := zz_in (List.mem_append_right _ (List.mem_of_getElem? (i := 315) rfl)) rfl
theorem m_selects_F_turnedLeft : Cond.selects "PortProcessor$Flags" y_F_turnedLeft y_F_turnedLeft ∈ T0 := zz_in (List.mem_append_right _ (List.mem_of_getElem? (i := 316) rfl)) rfl
theorem cw_P_224 {p : Program} {m : MethodId} {c : Code} {cc : ByteArray} {nL : Nat} {s : State} {args : Array Value} {c0 : Cond} {R : Room} (K : CallFix p m c cc nL s args (c0 :: T0) "PortProcessor") (h1 : 0 + 1 ≤ R.frames) (h2 : 8 + (3 + 11) + 0 ≤ R.locals) : CallW R s args "PortProcessor" "PortProcessor$Flags" 224 y_F_turnedLeft b_F_turnedLeft 3 (some .int) w_F_turnedLeft (rmz 0 0) 0 0 2 := cwV 2 K.2.2.2.2 (zz_gv m_methodLink_PortProcessor_224_F_turnedLeft m_instanceMethod_F_turnedLeft m_selects_F_turnedLeft m_initialized_PortProcessor_Flags m_code_F_turnedLeft) rfl rfl rfl ⟨rfl, by decide, by decide, by decide +kernel⟩ ⟨h1, h2⟩
theorem m_methodLink_PortProcessor_228_F_turnedRight : Cond.methodLink "PortProcessor" 228 y_F_turnedRight ∈ T0 := zz_in (List.mem_append_right _ (List.mem_of_getElem? (i := 318) rfl)) rfl
theorem m_instanceMethod_F_turnedRight : Cond.instanceMethod y_F_turnedRight ∈ T0 := zz_in (List.mem_append_right _ (List.mem_of_getElem? (i := 319) rfl)) rfl
theorem m_selects_F_turnedRight : Cond.selects "PortProcessor$Flags" y_F_turnedRight y_F_turnedRight ∈ T0 := zz_in (List.mem_append_right _ (List.mem_of_getElem? (i := 320) rfl)) rfl
theorem cw_P_228 {p : Program} {m : MethodId} {c : Code} {cc : ByteArray} {nL : Nat} {s : State} {args : Array Value} {c0 : Cond} {R : Room} (K : CallFix p m c cc nL s args (c0 :: T0) "PortProcessor") (h1 : 0 + 1 ≤ R.frames) (h2 : 8 + (3 + 11) + 0 ≤ R.locals) : CallW R s args "PortProcessor" "PortProcessor$Flags" 228 y_F_turnedRight b_F_turnedRight 3 (some .int) w_F_turnedRight (rmz 0 0) 0 0 2 := cwV 2 K.2.2.2.2 (zz_gv m_methodLink_PortProcessor_228_F_turnedRight m_instanceMethod_F_turnedRight m_selects_F_turnedRight m_initialized_PortProcessor_Flags m_code_F_turnedRight) rfl rfl rfl ⟨rfl, by decide, by decide, by decide +kernel⟩ ⟨h1, h2⟩
theorem m_methodLink_PortProcessor_231_F_carryBit : Cond.methodLink "PortProcessor" 231 y_F_carryBit ∈ T0 := zz_in (List.mem_append_right _ (List.mem_of_getElem? (i := 322) rfl)) rfl
theorem cw_P_231 {p : Program} {m : MethodId} {c : Code} {cc : ByteArray} {nL : Nat} {s : State} {args : Array Value} {c0 : Cond} {R : Room} (K : CallFix p m c cc nL s args (c0 :: T0) "PortProcessor") (h1 : 0 + 1 ≤ R.frames) (h2 : 8 + (1 + 11) + 0 ≤ R.locals) : CallW R s args "PortProcessor" "PortProcessor$Flags" 231 y_F_carryBit b_F_carryBit 1 (some .int) w_F_carryBit (rmz 0 0) 0 0 0 := cwV 0 K.2.2.2.2 (zz_gv m_methodLink_PortProcessor_231_F_carryBit m_instanceMethod_F_carryBit m_selects_F_carryBit m_initialized_PortProcessor_Flags m_code_F_carryBit) rfl rfl rfl ⟨rfl, by decide, by decide, by decide +kernel⟩ ⟨h1, h2⟩
theorem m_methodLink_PortProcessor_234_F_decimalOf : Cond.methodLink "PortProcessor" 234 y_F_decimalOf ∈ T0 := zz_in (List.mem_append_right _ (List.mem_of_getElem? (i := 326) rfl)) rfl
theorem m_instanceMethod_F_decimalOf : Cond.instanceMethod y_F_decimalOf ∈ T0 := zz_in (List.mem_append_right _ (List.mem_of_getElem? (i := 327) rfl)) rfl
theorem m_selects_F_decimalOf : Cond.selects "PortProcessor$Flags" y_F_decimalOf y_F_decimalOf ∈ T0 := zz_in (List.mem_append_right _ (List.mem_of_getElem? (i := 328) rfl)) rfl
theorem cw_P_234 {p : Program} {m : MethodId} {c : Code} {cc : ByteArray} {nL : Nat} {s : State} {args : Array Value} {c0 : Cond} {R : Room} (K : CallFix p m c cc nL s args (c0 :: T0) "PortProcessor") (h1 : 2 + 1 ≤ R.frames) (h2 : 8 + (5 + 11) + 41 ≤ R.locals) : CallW R s args "PortProcessor" "PortProcessor$Flags" 234 y_F_decimalOf b_F_decimalOf 5 (some .int) w_F_decimalOf (rmz 2 41) 0 0 1 := cwV 1 K.2.2.2.2 (zz_gv m_methodLink_PortProcessor_234_F_decimalOf m_instanceMethod_F_decimalOf m_selects_F_decimalOf m_initialized_PortProcessor_Flags m_code_F_decimalOf) rfl rfl rfl ⟨rfl, by decide, by decide, by decide +kernel⟩ ⟨h1, h2⟩
theorem m_methodLink_PortProcessor_237_F_combined : Cond.methodLink "PortProcessor" 237 y_F_combined ∈ T0 := zz_in (List.mem_append_right _ (List.mem_of_getElem? (i := 338) rfl)) rfl
theorem m_instanceMethod_F_combined : Cond.instanceMethod y_F_combined ∈ T0 := zz_in (List.mem_append_right _ (List.mem_of_getElem? (i := 339) rfl)) rfl
theorem m_selects_F_combined : Cond.selects "PortProcessor$Flags" y_F_combined y_F_combined ∈ T0 := zz_in (List.mem_append_right _ (List.mem_of_getElem? (i := 340) rfl)) rfl
theorem cw_P_237 {p : Program} {m : MethodId} {c : Code} {cc : ByteArray} {nL : Nat} {s : State} {args : Array Value} {c0 : Cond} {R : Room} (K : CallFix p m c cc nL s args (c0 :: T0) "PortProcessor") (h1 : 2 + 1 ≤ R.frames) (h2 : 8 + (5 + 11) + 48 ≤ R.locals) : CallW R s args "PortProcessor" "PortProcessor$Flags" 237 y_F_combined b_F_combined 5 (some .int) w_F_combined (rmz 2 48) 0 0 3 := cwV 3 K.2.2.2.2 (zz_gv m_methodLink_PortProcessor_237_F_combined m_instanceMethod_F_combined m_selects_F_combined m_initialized_PortProcessor_Flags m_code_F_combined) rfl rfl rfl ⟨rfl, by decide, by decide, by decide +kernel⟩ ⟨h1, h2⟩
theorem m_methodLink_PortProcessor_241_F_meet : Cond.methodLink "PortProcessor" 241 y_F_meet ∈ T0 := zz_in (List.mem_append_right _ (List.mem_of_getElem? (i := 363) rfl)) rfl
theorem m_instanceMethod_F_meet : Cond.instanceMethod y_F_meet ∈ T0 := zz_in (List.mem_append_right _ (List.mem_of_getElem? (i := 364) rfl)) rfl
theorem m_selects_F_meet : Cond.selects "PortProcessor$Flags" y_F_meet y_F_meet ∈ T0 := zz_in (List.mem_append_right _ (List.mem_of_getElem? (i := 365) rfl)) rfl
theorem cw_P_241 {p : Program} {m : MethodId} {c : Code} {cc : ByteArray} {nL : Nat} {s : State} {args : Array Value} {c0 : Cond} {R : Room} (K : CallFix p m c cc nL s args (c0 :: T0) "PortProcessor") (h1 : 1 + 1 ≤ R.frames) (h2 : 8 + (2 + 11) + 21 ≤ R.locals) : CallW R s args "PortProcessor" "PortProcessor$Flags" 241 y_F_meet b_F_meet 2 (some .boolean) w_F_meet (rmz 1 21) 0 0 1 := cwV 1 K.2.2.2.2 (zz_gv m_methodLink_PortProcessor_241_F_meet m_instanceMethod_F_meet m_selects_F_meet m_initialized_PortProcessor_Flags m_code_F_meet) rfl rfl rfl ⟨rfl, by decide, by decide, by decide +kernel⟩ ⟨h1, h2⟩
theorem m_methodLink_PortProcessor_136_P_callTo : Cond.methodLink "PortProcessor" 136 y_P_callTo ∈ T0 := zz_in (List.mem_append_right _ (List.mem_of_getElem? (i := 208) rfl)) rfl
theorem m_instanceMethod_P_callTo : Cond.instanceMethod y_P_callTo ∈ T0 := zz_in (List.mem_append_right _ (List.mem_of_getElem? (i := 210) rfl)) rfl
theorem m_selects_P_callTo : Cond.selects "PortProcessor" y_P_callTo y_P_callTo ∈ T0 := zz_in (List.mem_append_left _ (List.mem_of_getElem? (i := 3) rfl)) rfl
theorem cw_P_136 {p : Program} {m : MethodId} {c : Code} {cc : ByteArray} {nL : Nat} {s : State} {args : Array Value} {c0 : Cond} {R : Room} (K : CallFix p m c cc nL s args (c0 :: T0) "PortProcessor") (h1 : 2 + 1 ≤ R.frames) (h2 : 8 + (2 + 11) + 43 ≤ R.locals) : CallW R s args "PortProcessor" "PortProcessor" 136 y_P_callTo b_P_callTo 2 none w_P_callTo (rmz 2 43) 0 0 1 := cwV 1 K.2.2.2.2 (zz_gv m_methodLink_PortProcessor_136_P_callTo m_instanceMethod_P_callTo m_selects_P_callTo m_initialized_PortProcessor m_code_P_callTo) rfl rfl rfl ⟨rfl, by decide, by decide, by decide +kernel⟩ ⟨h1, h2⟩
theorem m_methodLink_PortProcessor_244_P_pop : Cond.methodLink "PortProcessor" 244 y_P_pop ∈ T0 := zz_in (List.mem_append_right _ (List.mem_of_getElem? (i := 371) rfl)) rfl
theorem m_instanceMethod_P_pop : Cond.instanceMethod y_P_pop ∈ T0 := zz_in (List.mem_append_right _ (List.mem_of_getElem? (i := 373) rfl)) rfl
theorem m_selects_P_pop : Cond.selects "PortProcessor" y_P_pop y_P_pop ∈ T0 := zz_in (List.mem_append_left _ (List.mem_of_getElem? (i := 31) rfl)) rfl
theorem cw_P_244 {p : Program} {m : MethodId} {c : Code} {cc : ByteArray} {nL : Nat} {s : State} {args : Array Value} {c0 : Cond} {R : Room} (K : CallFix p m c cc nL s args (c0 :: T0) "PortProcessor") (h1 : 1 + 1 ≤ R.frames) (h2 : 8 + (3 + 11) + 21 ≤ R.locals) : CallW R s args "PortProcessor" "PortProcessor" 244 y_P_pop b_P_pop 3 (some .int) w_P_pop (rmz 1 21) 0 0 0 := cwV 0 K.2.2.2.2 (zz_gv m_methodLink_PortProcessor_244_P_pop m_instanceMethod_P_pop m_selects_P_pop m_initialized_PortProcessor m_code_P_pop) rfl rfl rfl ⟨rfl, by decide, by decide, by decide +kernel⟩ ⟨h1, h2⟩
theorem m_methodLink_PortProcessor_98_F_takeByte : Cond.methodLink "PortProcessor" 98 y_F_takeByte ∈ T0 := zz_in (List.mem_append_right _ (List.mem_of_getElem? (i := 379) rfl)) rfl
theorem m_instanceMethod_F_takeByte : Cond.instanceMethod y_F_takeByte ∈ T0 := zz_in (List.mem_append_right _ (List.mem_of_getElem? (i := 380) rfl)) rfl
theorem m_selects_F_takeByte : Cond.selects "PortProcessor$Flags" y_F_takeByte y_F_takeByte ∈ T0 := zz_in (List.mem_append_right _ (List.mem_of_getElem? (i := 381) rfl)) rfl
theorem cw_P_98 {p : Program} {m : MethodId} {c : Code} {cc : ByteArray} {nL : Nat} {s : State} {args : Array Value} {c0 : Cond} {R : Room} (K : CallFix p m c cc nL s args (c0 :: T0) "PortProcessor") (h1 : 0 + 1 ≤ R.frames) (h2 : 8 + (2 + 11) + 0 ≤ R.locals) : CallW R s args "PortProcessor" "PortProcessor$Flags" 98 y_F_takeByte b_F_takeByte 2 none w_F_takeByte (rmz 0 0) 0 0 1 := cwV 1 K.2.2.2.2 (zz_gv m_methodLink_PortProcessor_98_F_takeByte m_instanceMethod_F_takeByte m_selects_F_takeByte m_initialized_PortProcessor_Flags m_code_F_takeByte) rfl rfl rfl ⟨rfl, by decide, by decide, by decide +kernel⟩ ⟨h1, h2⟩
theorem m_methodLink_PortProcessor_84_F_asByte : Cond.methodLink "PortProcessor" 84 y_F_asByte ∈ T0 := zz_in (List.mem_append_right _ (List.mem_of_getElem? (i := 411) rfl)) rfl
theorem m_instanceMethod_F_asByte : Cond.instanceMethod y_F_asByte ∈ T0 := zz_in (List.mem_append_right _ (List.mem_of_getElem? (i := 412) rfl)) rfl
theorem m_selects_F_asByte : Cond.selects "PortProcessor$Flags" y_F_asByte y_F_asByte ∈ T0 := zz_in (List.mem_append_right _ (List.mem_of_getElem? (i := 413) rfl)) rfl
theorem cw_P_84 {p : Program} {m : MethodId} {c : Code} {cc : ByteArray} {nL : Nat} {s : State} {args : Array Value} {c0 : Cond} {R : Room} (K : CallFix p m c cc nL s args (c0 :: T0) "PortProcessor") (h1 : 0 + 1 ≤ R.frames) (h2 : 8 + (1 + 11) + 0 ≤ R.locals) : CallW R s args "PortProcessor" "PortProcessor$Flags" 84 y_F_asByte b_F_asByte 1 (some .int) w_F_asByte (rmz 0 0) 0 0 0 := cwV 0 K.2.2.2.2 (zz_gv m_methodLink_PortProcessor_84_F_asByte m_instanceMethod_F_asByte m_selects_F_asByte m_initialized_PortProcessor_Flags m_code_F_asByte) rfl rfl rfl ⟨rfl, by decide, by decide, by decide +kernel⟩ ⟨h1, h2⟩
theorem m_methodLink_PortProcessor_250_P_exchangeHlWithStack : Cond.methodLink "PortProcessor" 250 y_P_exchangeHlWithStack ∈ T0 := zz_in (List.mem_append_right _ (List.mem_of_getElem? (i := 395) rfl)) rfl
theorem m_instanceMethod_P_exchangeHlWithStack : Cond.instanceMethod y_P_exchangeHlWithStack ∈ T0 := zz_in (List.mem_append_right _ (List.mem_of_getElem? (i := 397) rfl)) rfl
theorem m_selects_P_exchangeHlWithStack : Cond.selects "PortProcessor" y_P_exchangeHlWithStack y_P_exchangeHlWithStack ∈ T0 := zz_in (List.mem_append_left _ (List.mem_of_getElem? (i := 36) rfl)) rfl
theorem cw_P_250 {p : Program} {m : MethodId} {c : Code} {cc : ByteArray} {nL : Nat} {s : State} {args : Array Value} {c0 : Cond} {R : Room} (K : CallFix p m c cc nL s args (c0 :: T0) "PortProcessor") (h1 : 1 + 1 ≤ R.frames) (h2 : 8 + (4 + 11) + 22 ≤ R.locals) : CallW R s args "PortProcessor" "PortProcessor" 250 y_P_exchangeHlWithStack b_P_exchangeHlWithStack 4 (some .int) w_P_exchangeHlWithStack (rmz 1 22) 0 0 0 := cwV 0 K.2.2.2.2 (zz_gv m_methodLink_PortProcessor_250_P_exchangeHlWithStack m_instanceMethod_P_exchangeHlWithStack m_selects_P_exchangeHlWithStack m_initialized_PortProcessor m_code_P_exchangeHlWithStack) rfl rfl rfl ⟨rfl, by decide, by decide, by decide +kernel⟩ ⟨h1, h2⟩
theorem m_methodLink_PortProcessor_253_P_exchangeHlWithDe : Cond.methodLink "PortProcessor" 253 y_P_exchangeHlWithDe ∈ T0 := zz_in (List.mem_append_right _ (List.mem_of_getElem? (i := 399) rfl)) rfl
theorem m_instanceMethod_P_exchangeHlWithDe : Cond.instanceMethod y_P_exchangeHlWithDe ∈ T0 := zz_in (List.mem_append_right _ (List.mem_of_getElem? (i := 401) rfl)) rfl
theorem m_selects_P_exchangeHlWithDe : Cond.selects "PortProcessor" y_P_exchangeHlWithDe y_P_exchangeHlWithDe ∈ T0 := zz_in (List.mem_append_left _ (List.mem_of_getElem? (i := 37) rfl)) rfl
theorem cw_P_253 {p : Program} {m : MethodId} {c : Code} {cc : ByteArray} {nL : Nat} {s : State} {args : Array Value} {c0 : Cond} {R : Room} (K : CallFix p m c cc nL s args (c0 :: T0) "PortProcessor") (h1 : 1 + 1 ≤ R.frames) (h2 : 8 + (2 + 11) + 22 ≤ R.locals) : CallW R s args "PortProcessor" "PortProcessor" 253 y_P_exchangeHlWithDe b_P_exchangeHlWithDe 2 (some .int) w_P_exchangeHlWithDe (rmz 1 22) 0 0 0 := cwV 0 K.2.2.2.2 (zz_gv m_methodLink_PortProcessor_253_P_exchangeHlWithDe m_instanceMethod_P_exchangeHlWithDe m_selects_P_exchangeHlWithDe m_initialized_PortProcessor m_code_P_exchangeHlWithDe) rfl rfl rfl ⟨rfl, by decide, by decide, by decide +kernel⟩ ⟨h1, h2⟩
theorem m_methodLink_PortProcessor_142_P_addPair : Cond.methodLink "PortProcessor" 142 y_P_addPair ∈ T0 := zz_in (List.mem_append_right _ (List.mem_of_getElem? (i := 241) rfl)) rfl
theorem m_instanceMethod_P_addPair : Cond.instanceMethod y_P_addPair ∈ T0 := zz_in (List.mem_append_right _ (List.mem_of_getElem? (i := 243) rfl)) rfl
theorem m_selects_P_addPair : Cond.selects "PortProcessor" y_P_addPair y_P_addPair ∈ T0 := zz_in (List.mem_append_left _ (List.mem_of_getElem? (i := 10) rfl)) rfl
theorem cw_P_142 {p : Program} {m : MethodId} {c : Code} {cc : ByteArray} {nL : Nat} {s : State} {args : Array Value} {c0 : Cond} {R : Room} (K : CallFix p m c cc nL s args (c0 :: T0) "PortProcessor") (h1 : 1 + 1 ≤ R.frames) (h2 : 8 + (3 + 11) + 22 ≤ R.locals) : CallW R s args "PortProcessor" "PortProcessor" 142 y_P_addPair b_P_addPair 3 (some .int) w_P_addPair (rmz 1 22) 0 0 1 := cwV 1 K.2.2.2.2 (zz_gv m_methodLink_PortProcessor_142_P_addPair m_instanceMethod_P_addPair m_selects_P_addPair m_initialized_PortProcessor m_code_P_addPair) rfl rfl rfl ⟨rfl, by decide, by decide, by decide +kernel⟩ ⟨h1, h2⟩
theorem m_methodLink_PortProcessor_139_P_fillPair : Cond.methodLink "PortProcessor" 139 y_P_fillPair ∈ T0 := zz_in (List.mem_append_right _ (List.mem_of_getElem? (i := 226) rfl)) rfl
theorem m_instanceMethod_P_fillPair : Cond.instanceMethod y_P_fillPair ∈ T0 := zz_in (List.mem_append_right _ (List.mem_of_getElem? (i := 228) rfl)) rfl
theorem m_selects_P_fillPair : Cond.selects "PortProcessor" y_P_fillPair y_P_fillPair ∈ T0 := zz_in (List.mem_append_left _ (List.mem_of_getElem? (i := 7) rfl)) rfl
theorem cw_P_139 {p : Program} {m : MethodId} {c : Code} {cc : ByteArray} {nL : Nat} {s : State} {args : Array Value} {c0 : Cond} {R : Room} (K : CallFix p m c cc nL s args (c0 :: T0) "PortProcessor") (h1 : 3 + 1 ≤ R.frames) (h2 : 8 + (2 + 11) + 63 ≤ R.locals) : CallW R s args "PortProcessor" "PortProcessor" 139 y_P_fillPair b_P_fillPair 2 (some .int) w_P_fillPair (rmz 3 63) 0 0 1 := cwV 1 K.2.2.2.2 (zz_gv m_methodLink_PortProcessor_139_P_fillPair m_instanceMethod_P_fillPair m_selects_P_fillPair m_initialized_PortProcessor m_code_P_fillPair) rfl rfl rfl ⟨rfl, by decide, by decide, by decide +kernel⟩ ⟨h1, h2⟩
theorem m_methodLink_PortProcessor_145_P_storeOrFetch : Cond.methodLink "PortProcessor" 145 y_P_storeOrFetch ∈ T0 := zz_in (List.mem_append_right _ (List.mem_of_getElem? (i := 253) rfl)) rfl
theorem m_instanceMethod_P_storeOrFetch : Cond.instanceMethod y_P_storeOrFetch ∈ T0 := zz_in (List.mem_append_right _ (List.mem_of_getElem? (i := 255) rfl)) rfl
theorem m_selects_P_storeOrFetch : Cond.selects "PortProcessor" y_P_storeOrFetch y_P_storeOrFetch ∈ T0 := zz_in (List.mem_append_left _ (List.mem_of_getElem? (i := 12) rfl)) rfl
theorem cw_P_145 {p : Program} {m : MethodId} {c : Code} {cc : ByteArray} {nL : Nat} {s : State} {args : Array Value} {c0 : Cond} {R : Room} (K : CallFix p m c cc nL s args (c0 :: T0) "PortProcessor") (h1 : 3 + 1 ≤ R.frames) (h2 : 8 + (2 + 11) + 63 ≤ R.locals) : CallW R s args "PortProcessor" "PortProcessor" 145 y_P_storeOrFetch b_P_storeOrFetch 2 (some .int) w_P_storeOrFetch (rmz 3 63) 0 0 1 := cwV 1 K.2.2.2.2 (zz_gv m_methodLink_PortProcessor_145_P_storeOrFetch m_instanceMethod_P_storeOrFetch m_selects_P_storeOrFetch m_initialized_PortProcessor m_code_P_storeOrFetch) rfl rfl rfl ⟨rfl, by decide, by decide, by decide +kernel⟩ ⟨h1, h2⟩
theorem m_methodLink_PortProcessor_148_P_countPair : Cond.methodLink "PortProcessor" 148 y_P_countPair ∈ T0 := zz_in (List.mem_append_right _ (List.mem_of_getElem? (i := 265) rfl)) rfl
theorem m_instanceMethod_P_countPair : Cond.instanceMethod y_P_countPair ∈ T0 := zz_in (List.mem_append_right _ (List.mem_of_getElem? (i := 267) rfl)) rfl
theorem m_selects_P_countPair : Cond.selects "PortProcessor" y_P_countPair y_P_countPair ∈ T0 := zz_in (List.mem_append_left _ (List.mem_of_getElem? (i := 15) rfl)) rfl
theorem cw_P_148 {p : Program} {m : MethodId} {c : Code} {cc : ByteArray} {nL : Nat} {s : State} {args : Array Value} {c0 : Cond} {R : Room} (K : CallFix p m c cc nL s args (c0 :: T0) "PortProcessor") (h1 : 1 + 1 ≤ R.frames) (h2 : 8 + (3 + 11) + 22 ≤ R.locals) : CallW R s args "PortProcessor" "PortProcessor" 148 y_P_countPair b_P_countPair 3 (some .int) w_P_countPair (rmz 1 22) 0 0 1 := cwV 1 K.2.2.2.2 (zz_gv m_methodLink_PortProcessor_148_P_countPair m_instanceMethod_P_countPair m_selects_P_countPair m_initialized_PortProcessor m_code_P_countPair) rfl rfl rfl ⟨rfl, by decide, by decide, by decide +kernel⟩ ⟨h1, h2⟩
theorem m_methodLink_PortProcessor_151_P_raise : Cond.methodLink "PortProcessor" 151 y_P_raise ∈ T0 := zz_in (List.mem_append_right _ (List.mem_of_getElem? (i := 269) rfl)) rfl
theorem m_instanceMethod_P_raise : Cond.instanceMethod y_P_raise ∈ T0 := zz_in (List.mem_append_right _ (List.mem_of_getElem? (i := 271) rfl)) rfl
theorem m_selects_P_raise : Cond.selects "PortProcessor" y_P_raise y_P_raise ∈ T0 := zz_in (List.mem_append_left _ (List.mem_of_getElem? (i := 16) rfl)) rfl
theorem cw_P_151 {p : Program} {m : MethodId} {c : Code} {cc : ByteArray} {nL : Nat} {s : State} {args : Array Value} {c0 : Cond} {R : Room} (K : CallFix p m c cc nL s args (c0 :: T0) "PortProcessor") (h1 : 3 + 1 ≤ R.frames) (h2 : 8 + (3 + 11) + 63 ≤ R.locals) : CallW R s args "PortProcessor" "PortProcessor" 151 y_P_raise b_P_raise 3 (some .int) w_P_raise (rmz 3 63) 0 0 1 := cwV 1 K.2.2.2.2 (zz_gv m_methodLink_PortProcessor_151_P_raise m_instanceMethod_P_raise m_selects_P_raise m_initialized_PortProcessor m_code_P_raise) rfl rfl rfl ⟨rfl, by decide, by decide, by decide +kernel⟩ ⟨h1, h2⟩
theorem m_methodLink_PortProcessor_154_P_lower : Cond.methodLink "PortProcessor" 154 y_P_lower ∈ T0 := zz_in (List.mem_append_right _ (List.mem_of_getElem? (i := 298) rfl)) rfl
theorem m_instanceMethod_P_lower : Cond.instanceMethod y_P_lower ∈ T0 := zz_in (List.mem_append_right _ (List.mem_of_getElem? (i := 300) rfl)) rfl
theorem m_selects_P_lower : Cond.selects "PortProcessor" y_P_lower y_P_lower ∈ T0 := zz_in (List.mem_append_left _ (List.mem_of_getElem? (i := 20) rfl)) rfl
theorem cw_P_154 {p : Program} {m : MethodId} {c : Code} {cc : ByteArray} {nL : Nat} {s : State} {args : Array Value} {c0 : Cond} {R : Room} (K : CallFix p m c cc nL s args (c0 :: T0) "PortProcessor") (h1 : 3 + 1 ≤ R.frames) (h2 : 8 + (3 + 11) + 63 ≤ R.locals) : CallW R s args "PortProcessor" "PortProcessor" 154 y_P_lower b_P_lower 3 (some .int) w_P_lower (rmz 3 63) 0 0 1 := cwV 1 K.2.2.2.2 (zz_gv m_methodLink_PortProcessor_154_P_lower m_instanceMethod_P_lower m_selects_P_lower m_initialized_PortProcessor m_code_P_lower) rfl rfl rfl ⟨rfl, by decide, by decide, by decide +kernel⟩ ⟨h1, h2⟩
theorem m_methodLink_PortProcessor_157_P_fillRegister : Cond.methodLink "PortProcessor" 157 y_P_fillRegister ∈ T0 := zz_in (List.mem_append_right _ (List.mem_of_getElem? (i := 306) rfl)) rfl
theorem m_instanceMethod_P_fillRegister : Cond.instanceMethod y_P_fillRegister ∈ T0 := zz_in (List.mem_append_right _ (List.mem_of_getElem? (i := 308) rfl)) rfl
theorem m_selects_P_fillRegister : Cond.selects "PortProcessor" y_P_fillRegister y_P_fillRegister ∈ T0 := zz_in (List.mem_append_left _ (List.mem_of_getElem? (i := 21) rfl)) rfl
theorem cw_P_157 {p : Program} {m : MethodId} {c : Code} {cc : ByteArray} {nL : Nat} {s : State} {args : Array Value} {c0 : Cond} {R : Room} (K : CallFix p m c cc nL s args (c0 :: T0) "PortProcessor") (h1 : 2 + 1 ≤ R.frames) (h2 : 8 + (3 + 11) + 44 ≤ R.locals) : CallW R s args "PortProcessor" "PortProcessor" 157 y_P_fillRegister b_P_fillRegister 3 (some .int) w_P_fillRegister (rmz 2 44) 0 0 1 := cwV 1 K.2.2.2.2 (zz_gv m_methodLink_PortProcessor_157_P_fillRegister m_instanceMethod_P_fillRegister m_selects_P_fillRegister m_initialized_PortProcessor m_code_P_fillRegister) rfl rfl rfl ⟨rfl, by decide, by decide, by decide +kernel⟩ ⟨h1, h2⟩
theorem m_methodLink_PortProcessor_160_P_workOnA : Cond.methodLink "PortProcessor" 160 y_P_workOnA ∈ T0 := zz_in (List.mem_append_right _ (List.mem_of_getElem? (i := 310) rfl)) rfl
theorem m_instanceMethod_P_workOnA : Cond.instanceMethod y_P_workOnA ∈ T0 := zz_in (List.mem_append_right _ (List.mem_of_getElem? (i := 312) rfl)) rfl
theorem m_selects_P_workOnA : Cond.selects "PortProcessor" y_P_workOnA y_P_workOnA ∈ T0 := zz_in (List.mem_append_left _ (List.mem_of_getElem? (i := 22) rfl)) rfl
theorem cw_P_160 {p : Program} {m : MethodId} {c : Code} {cc : ByteArray} {nL : Nat} {s : State} {args : Array Value} {c0 : Cond} {R : Room} (K : CallFix p m c cc nL s args (c0 :: T0) "PortProcessor") (h1 : 3 + 1 ≤ R.frames) (h2 : 8 + (3 + 11) + 65 ≤ R.locals) : CallW R s args "PortProcessor" "PortProcessor" 160 y_P_workOnA b_P_workOnA 3 (some .int) w_P_workOnA (rmz 3 65) 0 0 1 := cwV 1 K.2.2.2.2 (zz_gv m_methodLink_PortProcessor_160_P_workOnA m_instanceMethod_P_workOnA m_selects_P_workOnA m_initialized_PortProcessor m_code_P_workOnA) rfl rfl rfl ⟨rfl, by decide, by decide, by decide +kernel⟩ ⟨h1, h2⟩
theorem m_methodLink_PortProcessor_163_P_returnOnCondition : Cond.methodLink "PortProcessor" 163 y_P_returnOnCondition ∈ T0 := zz_in (List.mem_append_right _ (List.mem_of_getElem? (i := 359) rfl)) rfl
theorem m_instanceMethod_P_returnOnCondition : Cond.instanceMethod y_P_returnOnCondition ∈ T0 := zz_in (List.mem_append_right _ (List.mem_of_getElem? (i := 361) rfl)) rfl
theorem m_selects_P_returnOnCondition : Cond.selects "PortProcessor" y_P_returnOnCondition y_P_returnOnCondition ∈ T0 := zz_in (List.mem_append_left _ (List.mem_of_getElem? (i := 29) rfl)) rfl
theorem cw_P_163 {p : Program} {m : MethodId} {c : Code} {cc : ByteArray} {nL : Nat} {s : State} {args : Array Value} {c0 : Cond} {R : Room} (K : CallFix p m c cc nL s args (c0 :: T0) "PortProcessor") (h1 : 2 + 1 ≤ R.frames) (h2 : 8 + (2 + 11) + 43 ≤ R.locals) : CallW R s args "PortProcessor" "PortProcessor" 163 y_P_returnOnCondition b_P_returnOnCondition 2 (some .int) w_P_returnOnCondition (rmz 2 43) 0 0 1 := cwV 1 K.2.2.2.2 (zz_gv m_methodLink_PortProcessor_163_P_returnOnCondition m_instanceMethod_P_returnOnCondition m_selects_P_returnOnCondition m_initialized_PortProcessor m_code_P_returnOnCondition) rfl rfl rfl ⟨rfl, by decide, by decide, by decide +kernel⟩ ⟨h1, h2⟩
theorem m_methodLink_PortProcessor_169_P_returnOrCopyHl : Cond.methodLink "PortProcessor" 169 y_P_returnOrCopyHl ∈ T0 := zz_in (List.mem_append_right _ (List.mem_of_getElem? (i := 383) rfl)) rfl
theorem m_instanceMethod_P_returnOrCopyHl : Cond.instanceMethod y_P_returnOrCopyHl ∈ T0 := zz_in (List.mem_append_right _ (List.mem_of_getElem? (i := 385) rfl)) rfl
theorem m_selects_P_returnOrCopyHl : Cond.selects "PortProcessor" y_P_returnOrCopyHl y_P_returnOrCopyHl ∈ T0 := zz_in (List.mem_append_left _ (List.mem_of_getElem? (i := 33) rfl)) rfl
theorem cw_P_169 {p : Program} {m : MethodId} {c : Code} {cc : ByteArray} {nL : Nat} {s : State} {args : Array Value} {c0 : Cond} {R : Room} (K : CallFix p m c cc nL s args (c0 :: T0) "PortProcessor") (h1 : 2 + 1 ≤ R.frames) (h2 : 8 + (2 + 11) + 43 ≤ R.locals) : CallW R s args "PortProcessor" "PortProcessor" 169 y_P_returnOrCopyHl b_P_returnOrCopyHl 2 (some .int) w_P_returnOrCopyHl (rmz 2 43) 0 0 1 := cwV 1 K.2.2.2.2 (zz_gv m_methodLink_PortProcessor_169_P_returnOrCopyHl m_instanceMethod_P_returnOrCopyHl m_selects_P_returnOrCopyHl m_initialized_PortProcessor m_code_P_returnOrCopyHl) rfl rfl rfl ⟨rfl, by decide, by decide, by decide +kernel⟩ ⟨h1, h2⟩
theorem m_methodLink_PortProcessor_166_P_popPair : Cond.methodLink "PortProcessor" 166 y_P_popPair ∈ T0 := zz_in (List.mem_append_right _ (List.mem_of_getElem? (i := 375) rfl)) rfl
theorem m_instanceMethod_P_popPair : Cond.instanceMethod y_P_popPair ∈ T0 := zz_in (List.mem_append_right _ (List.mem_of_getElem? (i := 377) rfl)) rfl
theorem m_selects_P_popPair : Cond.selects "PortProcessor" y_P_popPair y_P_popPair ∈ T0 := zz_in (List.mem_append_left _ (List.mem_of_getElem? (i := 32) rfl)) rfl
theorem cw_P_166 {p : Program} {m : MethodId} {c : Code} {cc : ByteArray} {nL : Nat} {s : State} {args : Array Value} {c0 : Cond} {R : Room} (K : CallFix p m c cc nL s args (c0 :: T0) "PortProcessor") (h1 : 2 + 1 ≤ R.frames) (h2 : 8 + (4 + 11) + 43 ≤ R.locals) : CallW R s args "PortProcessor" "PortProcessor" 166 y_P_popPair b_P_popPair 4 (some .int) w_P_popPair (rmz 2 43) 0 0 1 := cwV 1 K.2.2.2.2 (zz_gv m_methodLink_PortProcessor_166_P_popPair m_instanceMethod_P_popPair m_selects_P_popPair m_initialized_PortProcessor m_code_P_popPair) rfl rfl rfl ⟨rfl, by decide, by decide, by decide +kernel⟩ ⟨h1, h2⟩
theorem m_methodLink_PortProcessor_172_P_jumpOnCondition : Cond.methodLink "PortProcessor" 172 y_P_jumpOnCondition ∈ T0 := zz_in (List.mem_append_right _ (List.mem_of_getElem? (i := 387) rfl)) rfl
theorem m_instanceMethod_P_jumpOnCondition : Cond.instanceMethod y_P_jumpOnCondition ∈ T0 := zz_in (List.mem_append_right _ (List.mem_of_getElem? (i := 389) rfl)) rfl
theorem m_selects_P_jumpOnCondition : Cond.selects "PortProcessor" y_P_jumpOnCondition y_P_jumpOnCondition ∈ T0 := zz_in (List.mem_append_left _ (List.mem_of_getElem? (i := 34) rfl)) rfl
theorem cw_P_172 {p : Program} {m : MethodId} {c : Code} {cc : ByteArray} {nL : Nat} {s : State} {args : Array Value} {c0 : Cond} {R : Room} (K : CallFix p m c cc nL s args (c0 :: T0) "PortProcessor") (h1 : 3 + 1 ≤ R.frames) (h2 : 8 + (3 + 11) + 63 ≤ R.locals) : CallW R s args "PortProcessor" "PortProcessor" 172 y_P_jumpOnCondition b_P_jumpOnCondition 3 (some .int) w_P_jumpOnCondition (rmz 3 63) 0 0 1 := cwV 1 K.2.2.2.2 (zz_gv m_methodLink_PortProcessor_172_P_jumpOnCondition m_instanceMethod_P_jumpOnCondition m_selects_P_jumpOnCondition m_initialized_PortProcessor m_code_P_jumpOnCondition) rfl rfl rfl ⟨rfl, by decide, by decide, by decide +kernel⟩ ⟨h1, h2⟩
theorem m_methodLink_PortProcessor_175_P_jumpExchangeOrSwitch : Cond.methodLink "PortProcessor" 175 y_P_jumpExchangeOrSwitch ∈ T0 := zz_in (List.mem_append_right _ (List.mem_of_getElem? (i := 391) rfl)) rfl
theorem m_instanceMethod_P_jumpExchangeOrSwitch : Cond.instanceMethod y_P_jumpExchangeOrSwitch ∈ T0 := zz_in (List.mem_append_right _ (List.mem_of_getElem? (i := 393) rfl)) rfl
theorem m_selects_P_jumpExchangeOrSwitch : Cond.selects "PortProcessor" y_P_jumpExchangeOrSwitch y_P_jumpExchangeOrSwitch ∈ T0 := zz_in (List.mem_append_left _ (List.mem_of_getElem? (i := 35) rfl)) rfl
theorem cw_P_175 {p : Program} {m : MethodId} {c : Code} {cc : ByteArray} {nL : Nat} {s : State} {args : Array Value} {c0 : Cond} {R : Room} (K : CallFix p m c cc nL s args (c0 :: T0) "PortProcessor") (h1 : 3 + 1 ≤ R.frames) (h2 : 8 + (2 + 11) + 63 ≤ R.locals) : CallW R s args "PortProcessor" "PortProcessor" 175 y_P_jumpExchangeOrSwitch b_P_jumpExchangeOrSwitch 2 (some .int) w_P_jumpExchangeOrSwitch (rmz 3 63) 0 0 1 := cwV 1 K.2.2.2.2 (zz_gv m_methodLink_PortProcessor_175_P_jumpExchangeOrSwitch m_instanceMethod_P_jumpExchangeOrSwitch m_selects_P_jumpExchangeOrSwitch m_initialized_PortProcessor m_code_P_jumpExchangeOrSwitch) rfl rfl rfl ⟨rfl, by decide, by decide, by decide +kernel⟩ ⟨h1, h2⟩
theorem m_methodLink_PortProcessor_178_P_callOnCondition : Cond.methodLink "PortProcessor" 178 y_P_callOnCondition ∈ T0 := zz_in (List.mem_append_right _ (List.mem_of_getElem? (i := 403) rfl)) rfl
theorem m_instanceMethod_P_callOnCondition : Cond.instanceMethod y_P_callOnCondition ∈ T0 := zz_in (List.mem_append_right _ (List.mem_of_getElem? (i := 405) rfl)) rfl
theorem m_selects_P_callOnCondition : Cond.selects "PortProcessor" y_P_callOnCondition y_P_callOnCondition ∈ T0 := zz_in (List.mem_append_left _ (List.mem_of_getElem? (i := 38) rfl)) rfl
theorem cw_P_178 {p : Program} {m : MethodId} {c : Code} {cc : ByteArray} {nL : Nat} {s : State} {args : Array Value} {c0 : Cond} {R : Room} (K : CallFix p m c cc nL s args (c0 :: T0) "PortProcessor") (h1 : 3 + 1 ≤ R.frames) (h2 : 8 + (3 + 11) + 64 ≤ R.locals) : CallW R s args "PortProcessor" "PortProcessor" 178 y_P_callOnCondition b_P_callOnCondition 3 (some .int) w_P_callOnCondition (rmz 3 64) 0 0 1 := cwV 1 K.2.2.2.2 (zz_gv m_methodLink_PortProcessor_178_P_callOnCondition m_instanceMethod_P_callOnCondition m_selects_P_callOnCondition m_initialized_PortProcessor m_code_P_callOnCondition) rfl rfl rfl ⟨rfl, by decide, by decide, by decide +kernel⟩ ⟨h1, h2⟩
theorem m_methodLink_PortProcessor_184_P_callAlways : Cond.methodLink "PortProcessor" 184 y_P_callAlways ∈ T0 := zz_in (List.mem_append_right _ (List.mem_of_getElem? (i := 415) rfl)) rfl
theorem m_instanceMethod_P_callAlways : Cond.instanceMethod y_P_callAlways ∈ T0 := zz_in (List.mem_append_right _ (List.mem_of_getElem? (i := 417) rfl)) rfl
theorem m_selects_P_callAlways : Cond.selects "PortProcessor" y_P_callAlways y_P_callAlways ∈ T0 := zz_in (List.mem_append_left _ (List.mem_of_getElem? (i := 40) rfl)) rfl
theorem cw_P_184 {p : Program} {m : MethodId} {c : Code} {cc : ByteArray} {nL : Nat} {s : State} {args : Array Value} {c0 : Cond} {R : Room} (K : CallFix p m c cc nL s args (c0 :: T0) "PortProcessor") (h1 : 3 + 1 ≤ R.frames) (h2 : 8 + (1 + 11) + 64 ≤ R.locals) : CallW R s args "PortProcessor" "PortProcessor" 184 y_P_callAlways b_P_callAlways 1 (some .int) w_P_callAlways (rmz 3 64) 0 0 0 := cwV 0 K.2.2.2.2 (zz_gv m_methodLink_PortProcessor_184_P_callAlways m_instanceMethod_P_callAlways m_selects_P_callAlways m_initialized_PortProcessor m_code_P_callAlways) rfl rfl rfl ⟨rfl, by decide, by decide, by decide +kernel⟩ ⟨h1, h2⟩
theorem m_methodLink_PortProcessor_181_P_pushPair : Cond.methodLink "PortProcessor" 181 y_P_pushPair ∈ T0 := zz_in (List.mem_append_right _ (List.mem_of_getElem? (i := 407) rfl)) rfl
theorem m_instanceMethod_P_pushPair : Cond.instanceMethod y_P_pushPair ∈ T0 := zz_in (List.mem_append_right _ (List.mem_of_getElem? (i := 409) rfl)) rfl
theorem m_selects_P_pushPair : Cond.selects "PortProcessor" y_P_pushPair y_P_pushPair ∈ T0 := zz_in (List.mem_append_left _ (List.mem_of_getElem? (i := 39) rfl)) rfl
theorem cw_P_181 {p : Program} {m : MethodId} {c : Code} {cc : ByteArray} {nL : Nat} {s : State} {args : Array Value} {c0 : Cond} {R : Room} (K : CallFix p m c cc nL s args (c0 :: T0) "PortProcessor") (h1 : 2 + 1 ≤ R.frames) (h2 : 8 + (3 + 11) + 43 ≤ R.locals) : CallW R s args "PortProcessor" "PortProcessor" 181 y_P_pushPair b_P_pushPair 3 (some .int) w_P_pushPair (rmz 2 43) 0 0 1 := cwV 1 K.2.2.2.2 (zz_gv m_methodLink_PortProcessor_181_P_pushPair m_instanceMethod_P_pushPair m_selects_P_pushPair m_initialized_PortProcessor m_code_P_pushPair) rfl rfl rfl ⟨rfl, by decide, by decide, by decide +kernel⟩ ⟨h1, h2⟩
theorem m_methodLink_PortProcessor_187_P_combineWithNext : Cond.methodLink "PortProcessor" 187 y_P_combineWithNext ∈ T0 := zz_in (List.mem_append_right _ (List.mem_of_getElem? (i := 419) rfl)) rfl
theorem m_instanceMethod_P_combineWithNext : Cond.instanceMethod y_P_combineWithNext ∈ T0 := zz_in (List.mem_append_right _ (List.mem_of_getElem? (i := 421) rfl)) rfl
theorem m_selects_P_combineWithNext : Cond.selects "PortProcessor" y_P_combineWithNext y_P_combineWithNext ∈ T0 := zz_in (List.mem_append_left _ (List.mem_of_getElem? (i := 41) rfl)) rfl
theorem cw_P_187 {p : Program} {m : MethodId} {c : Code} {cc : ByteArray} {nL : Nat} {s : State} {args : Array Value} {c0 : Cond} {R : Room} (K : CallFix p m c cc nL s args (c0 :: T0) "PortProcessor") (h1 : 3 + 1 ≤ R.frames) (h2 : 8 + (2 + 11) + 72 ≤ R.locals) : CallW R s args "PortProcessor" "PortProcessor" 187 y_P_combineWithNext b_P_combineWithNext 2 (some .int) w_P_combineWithNext (rmz 3 72) 0 0 1 := cwV 1 K.2.2.2.2 (zz_gv m_methodLink_PortProcessor_187_P_combineWithNext m_instanceMethod_P_combineWithNext m_selects_P_combineWithNext m_initialized_PortProcessor m_code_P_combineWithNext) rfl rfl rfl ⟨rfl, by decide, by decide, by decide +kernel⟩ ⟨h1, h2⟩
theorem m_methodLink_PortProcessor_124_P_doFirstQuarter : Cond.methodLink "PortProcessor" 124 y_P_doFirstQuarter ∈ T0 := zz_in (List.mem_append_right _ (List.mem_of_getElem? (i := 222) rfl)) rfl
theorem m_instanceMethod_P_doFirstQuarter : Cond.instanceMethod y_P_doFirstQuarter ∈ T0 := zz_in (List.mem_append_right _ (List.mem_of_getElem? (i := 224) rfl)) rfl
theorem m_selects_P_doFirstQuarter : Cond.selects "PortProcessor" y_P_doFirstQuarter y_P_doFirstQuarter ∈ T0 := zz_in (List.mem_append_left _ (List.mem_of_getElem? (i := 6) rfl)) rfl
theorem cw_P_124 {p : Program} {m : MethodId} {c : Code} {cc : ByteArray} {nL : Nat} {s : State} {args : Array Value} {c0 : Cond} {R : Room} (K : CallFix p m c cc nL s args (c0 :: T0) "PortProcessor") (h1 : 4 + 1 ≤ R.frames) (h2 : 8 + (2 + 11) + 87 ≤ R.locals) : CallW R s args "PortProcessor" "PortProcessor" 124 y_P_doFirstQuarter b_P_doFirstQuarter 2 (some .int) w_P_doFirstQuarter (rmz 4 87) 0 0 1 := cwV 1 K.2.2.2.2 (zz_gv m_methodLink_PortProcessor_124_P_doFirstQuarter m_instanceMethod_P_doFirstQuarter m_selects_P_doFirstQuarter m_initialized_PortProcessor m_code_P_doFirstQuarter) rfl rfl rfl ⟨rfl, by decide, by decide, by decide +kernel⟩ ⟨h1, h2⟩
theorem m_methodLink_PortProcessor_127_P_move : Cond.methodLink "PortProcessor" 127 y_P_move ∈ T0 := zz_in (List.mem_append_right _ (List.mem_of_getElem? (i := 330) rfl)) rfl
theorem m_instanceMethod_P_move : Cond.instanceMethod y_P_move ∈ T0 := zz_in (List.mem_append_right _ (List.mem_of_getElem? (i := 332) rfl)) rfl
theorem m_selects_P_move : Cond.selects "PortProcessor" y_P_move y_P_move ∈ T0 := zz_in (List.mem_append_left _ (List.mem_of_getElem? (i := 23) rfl)) rfl
theorem cw_P_127 {p : Program} {m : MethodId} {c : Code} {cc : ByteArray} {nL : Nat} {s : State} {args : Array Value} {c0 : Cond} {R : Room} (K : CallFix p m c cc nL s args (c0 :: T0) "PortProcessor") (h1 : 2 + 1 ≤ R.frames) (h2 : 8 + (4 + 11) + 44 ≤ R.locals) : CallW R s args "PortProcessor" "PortProcessor" 127 y_P_move b_P_move 4 (some .int) w_P_move (rmz 2 44) 0 0 1 := cwV 1 K.2.2.2.2 (zz_gv m_methodLink_PortProcessor_127_P_move m_instanceMethod_P_move m_selects_P_move m_initialized_PortProcessor m_code_P_move) rfl rfl rfl ⟨rfl, by decide, by decide, by decide +kernel⟩ ⟨h1, h2⟩
theorem m_methodLink_PortProcessor_130_P_combineWithRegister : Cond.methodLink "PortProcessor" 130 y_P_combineWithRegister ∈ T0 := zz_in (List.mem_append_right _ (List.mem_of_getElem? (i := 334) rfl)) rfl
theorem m_instanceMethod_P_combineWithRegister : Cond.instanceMethod y_P_combineWithRegister ∈ T0 := zz_in (List.mem_append_right _ (List.mem_of_getElem? (i := 336) rfl)) rfl
theorem m_selects_P_combineWithRegister : Cond.selects "PortProcessor" y_P_combineWithRegister y_P_combineWithRegister ∈ T0 := zz_in (List.mem_append_left _ (List.mem_of_getElem? (i := 24) rfl)) rfl
theorem cw_P_130 {p : Program} {m : MethodId} {c : Code} {cc : ByteArray} {nL : Nat} {s : State} {args : Array Value} {c0 : Cond} {R : Room} (K : CallFix p m c cc nL s args (c0 :: T0) "PortProcessor") (h1 : 3 + 1 ≤ R.frames) (h2 : 8 + (3 + 11) + 72 ≤ R.locals) : CallW R s args "PortProcessor" "PortProcessor" 130 y_P_combineWithRegister b_P_combineWithRegister 3 (some .int) w_P_combineWithRegister (rmz 3 72) 0 0 1 := cwV 1 K.2.2.2.2 (zz_gv m_methodLink_PortProcessor_130_P_combineWithRegister m_instanceMethod_P_combineWithRegister m_selects_P_combineWithRegister m_initialized_PortProcessor m_code_P_combineWithRegister) rfl rfl rfl ⟨rfl, by decide, by decide, by decide +kernel⟩ ⟨h1, h2⟩
theorem m_methodLink_PortProcessor_133_P_doLastQuarter : Cond.methodLink "PortProcessor" 133 y_P_doLastQuarter ∈ T0 := zz_in (List.mem_append_right _ (List.mem_of_getElem? (i := 355) rfl)) rfl
theorem m_instanceMethod_P_doLastQuarter : Cond.instanceMethod y_P_doLastQuarter ∈ T0 := zz_in (List.mem_append_right _ (List.mem_of_getElem? (i := 357) rfl)) rfl
theorem m_selects_P_doLastQuarter : Cond.selects "PortProcessor" y_P_doLastQuarter y_P_doLastQuarter ∈ T0 := zz_in (List.mem_append_left _ (List.mem_of_getElem? (i := 28) rfl)) rfl
theorem cw_P_133 {p : Program} {m : MethodId} {c : Code} {cc : ByteArray} {nL : Nat} {s : State} {args : Array Value} {c0 : Cond} {R : Room} (K : CallFix p m c cc nL s args (c0 :: T0) "PortProcessor") (h1 : 4 + 1 ≤ R.frames) (h2 : 8 + (2 + 11) + 93 ≤ R.locals) : CallW R s args "PortProcessor" "PortProcessor" 133 y_P_doLastQuarter b_P_doLastQuarter 2 (some .int) w_P_doLastQuarter (rmz 4 93) 0 0 1 := cwV 1 K.2.2.2.2 (zz_gv m_methodLink_PortProcessor_133_P_doLastQuarter m_instanceMethod_P_doLastQuarter m_selects_P_doLastQuarter m_initialized_PortProcessor m_code_P_doLastQuarter) rfl rfl rfl ⟨rfl, by decide, by decide, by decide +kernel⟩ ⟨h1, h2⟩
theorem m_constantLong_PortProcessor_119_4 : Cond.constantLong "PortProcessor" 119 (lN 4) ∈ T0 := zz_in (List.mem_append_right _ (List.mem_of_getElem? (i := 217) rfl)) rfl
theorem m_methodLink_PortProcessor_114_P_letInterruptIn : Cond.methodLink "PortProcessor" 114 y_P_letInterruptIn ∈ T0 := zz_in (List.mem_append_right _ (List.mem_of_getElem? (i := 204) rfl)) rfl
theorem m_instanceMethod_P_letInterruptIn : Cond.instanceMethod y_P_letInterruptIn ∈ T0 := zz_in (List.mem_append_right _ (List.mem_of_getElem? (i := 206) rfl)) rfl
theorem m_selects_P_letInterruptIn : Cond.selects "PortProcessor" y_P_letInterruptIn y_P_letInterruptIn ∈ T0 := zz_in (List.mem_append_left _ (List.mem_of_getElem? (i := 2) rfl)) rfl
theorem cw_P_114 {p : Program} {m : MethodId} {c : Code} {cc : ByteArray} {nL : Nat} {s : State} {args : Array Value} {c0 : Cond} {R : Room} (K : CallFix p m c cc nL s args (c0 :: T0) "PortProcessor") (h1 : 3 + 1 ≤ R.frames) (h2 : 8 + (1 + 11) + 64 ≤ R.locals) : CallW R s args "PortProcessor" "PortProcessor" 114 y_P_letInterruptIn b_P_letInterruptIn 1 none w_P_letInterruptIn (rmz 3 64) 0 0 0 := cwV 0 K.2.2.2.2 (zz_gv m_methodLink_PortProcessor_114_P_letInterruptIn m_instanceMethod_P_letInterruptIn m_selects_P_letInterruptIn m_initialized_PortProcessor m_code_P_letInterruptIn) rfl rfl rfl ⟨rfl, by decide, by decide, by decide +kernel⟩ ⟨h1, h2⟩
theorem m_constantLong_PortProcessor_117_11 : Cond.constantLong "PortProcessor" 117 (lN 11) ∈ T0 := zz_in (List.mem_append_right _ (List.mem_of_getElem? (i := 216) rfl)) rfl
theorem m_constant_java_lang_Integer_265_1431655765 : Cond.constant "java/lang/Integer" 265 (nI 1431655765) ∈ T0 := zz_in (List.mem_append_right _ (List.mem_of_getElem? (i := 291) rfl)) rfl
theorem m_constant_java_lang_Integer_266_858993459 : Cond.constant "java/lang/Integer" 266 (nI 858993459) ∈ T0 := zz_in (List.mem_append_right _ (List.mem_of_getElem? (i := 292) rfl)) rfl
theorem m_constant_java_lang_Integer_267_252645135 : Cond.constant "java/lang/Integer" 267 (nI 252645135) ∈ T0 := zz_in (List.mem_append_right _ (List.mem_of_getElem? (i := 293) rfl)) rfl
theorem m_fieldLink_PortProcessor_10 : Cond.fieldLink "PortProcessor" 10 "PortProcessor" "memory" "LPortProcessor$Memory;" ∈ T0 := zz_in (List.mem_append_right _ (List.mem_of_getElem? (i := 51) rfl)) rfl
theorem m_fieldLink_PortProcessor_19 : Cond.fieldLink "PortProcessor" 19 "PortProcessor" "flags" "LPortProcessor$Flags;" ∈ T0 := zz_in (List.mem_append_right _ (List.mem_of_getElem? (i := 52) rfl)) rfl
theorem m_fieldLink_PortProcessor_23 : Cond.fieldLink "PortProcessor" 23 "PortProcessor" "registers" "[I" ∈ T0 := zz_in (List.mem_append_right _ (List.mem_of_getElem? (i := 53) rfl)) rfl
theorem m_fieldLink_PortProcessor_27 : Cond.fieldLink "PortProcessor" 27 "PortProcessor" "broughtIn" "[I" ∈ T0 := zz_in (List.mem_append_right _ (List.mem_of_getElem? (i := 54) rfl)) rfl
theorem m_fieldLink_PortProcessor_30 : Cond.fieldLink "PortProcessor" 30 "PortProcessor" "putOut" "[I" ∈ T0 := zz_in (List.mem_append_right _ (List.mem_of_getElem? (i := 55) rfl)) rfl
theorem m_fieldLink_PortProcessor_88 : Cond.fieldLink "PortProcessor" 88 "PortProcessor" "stackPointer" "I" ∈ T0 := zz_in (List.mem_append_right _ (List.mem_of_getElem? (i := 56) rfl)) rfl
theorem m_fieldLink_PortProcessor_59 : Cond.fieldLink "PortProcessor" 59 "PortProcessor" "programCounter" "I" ∈ T0 := zz_in (List.mem_append_right _ (List.mem_of_getElem? (i := 57) rfl)) rfl
theorem m_fieldLink_PortProcessor_62 : Cond.fieldLink "PortProcessor" 62 "PortProcessor" "halted" "Z" ∈ T0 := zz_in (List.mem_append_right _ (List.mem_of_getElem? (i := 58) rfl)) rfl
theorem m_fieldLink_PortProcessor_102 : Cond.fieldLink "PortProcessor" 102 "PortProcessor" "interruptsOn" "Z" ∈ T0 := zz_in (List.mem_append_right _ (List.mem_of_getElem? (i := 59) rfl)) rfl
theorem m_fieldLink_PortProcessor_111 : Cond.fieldLink "PortProcessor" 111 "PortProcessor" "lastLetInterruptsIn" "Z" ∈ T0 := zz_in (List.mem_append_right _ (List.mem_of_getElem? (i := 60) rfl)) rfl
theorem m_fieldLink_PortProcessor_33 : Cond.fieldLink "PortProcessor" 33 "PortProcessor" "waitingInterrupt" "I" ∈ T0 := zz_in (List.mem_append_right _ (List.mem_of_getElem? (i := 61) rfl)) rfl
theorem m_fieldLink_PortProcessor_107 : Cond.fieldLink "PortProcessor" 107 "PortProcessor" "stateCount" "J" ∈ T0 := zz_in (List.mem_append_right _ (List.mem_of_getElem? (i := 62) rfl)) rfl
theorem m_fieldLink_PortProcessor_Memory_11 : Cond.fieldLink "PortProcessor$Memory" 11 "PortProcessor$Memory" "cells" "[I" ∈ T0 := zz_in (List.mem_append_right _ (List.mem_of_getElem? (i := 24) rfl)) rfl
theorem m_fieldLink_PortProcessor_Flags_11 : Cond.fieldLink "PortProcessor$Flags" 11 "PortProcessor$Flags" "sign" "Z" ∈ T0 := zz_in (List.mem_append_right _ (List.mem_of_getElem? (i := 35) rfl)) rfl
theorem m_fieldLink_PortProcessor_Flags_15 : Cond.fieldLink "PortProcessor$Flags" 15 "PortProcessor$Flags" "zero" "Z" ∈ T0 := zz_in (List.mem_append_right _ (List.mem_of_getElem? (i := 36) rfl)) rfl
theorem m_fieldLink_PortProcessor_Flags_18 : Cond.fieldLink "PortProcessor$Flags" 18 "PortProcessor$Flags" "auxiliary" "Z" ∈ T0 := zz_in (List.mem_append_right _ (List.mem_of_getElem? (i := 37) rfl)) rfl
theorem m_fieldLink_PortProcessor_Flags_21 : Cond.fieldLink "PortProcessor$Flags" 21 "PortProcessor$Flags" "parity" "Z" ∈ T0 := zz_in (List.mem_append_right _ (List.mem_of_getElem? (i := 38) rfl)) rfl
theorem m_fieldLink_PortProcessor_Flags_24 : Cond.fieldLink "PortProcessor$Flags" 24 "PortProcessor$Flags" "carry" "Z" ∈ T0 := zz_in (List.mem_append_right _ (List.mem_of_getElem? (i := 39) rfl)) rfl
end
section
theorem d_P_init_0 : decode b_P_init 0 = .ok (.aload_n 0, 1) := by decide +kernel
theorem d_P_init_1 : decode b_P_init 1 = .ok (.invokespecial 1, 3) := by decide +kernel
theorem d_P_init_4 : decode b_P_init 4 = .ok (.aload_n 0, 1) := by decide +kernel
theorem d_P_init_5 : decode b_P_init 5 = .ok (.new 7, 3) := by decide +kernel
theorem d_P_init_8 : decode b_P_init 8 = .ok (.dup, 1) := by decide +kernel
theorem d_P_init_9 : decode b_P_init 9 = .ok (.invokespecial 9, 3) := by decide +kernel
theorem d_P_init_12 : decode b_P_init 12 = .ok (.putfield 10, 3) := by decide +kernel
theorem d_P_init_15 : decode b_P_init 15 = .ok (.aload_n 0, 1) := by decide +kernel
theorem d_P_init_16 : decode b_P_init 16 = .ok (.new 16, 3) := by decide +kernel
theorem d_P_init_19 : decode b_P_init 19 = .ok (.dup, 1) := by decide +kernel
theorem d_P_init_20 : decode b_P_init 20 = .ok (.invokespecial 18, 3) := by decide +kernel
theorem d_P_init_23 : decode b_P_init 23 = .ok (.putfield 19, 3) := by decide +kernel
theorem d_P_init_26 : decode b_P_init 26 = .ok (.aload_n 0, 1) := by decide +kernel
theorem d_P_init_27 : decode b_P_init 27 = .ok (.bipush 8, 2) := by decide +kernel
theorem d_P_init_29 : decode b_P_init 29 = .ok (.newarray .int, 2) := by decide +kernel
theorem d_P_init_31 : decode b_P_init 31 = .ok (.putfield 23, 3) := by decide +kernel
theorem d_P_init_34 : decode b_P_init 34 = .ok (.aload_n 0, 1) := by decide +kernel
theorem d_P_init_35 : decode b_P_init 35 = .ok (.sipush 256, 3) := by decide +kernel
theorem d_P_init_38 : decode b_P_init 38 = .ok (.newarray .int, 2) := by decide +kernel
theorem d_P_init_40 : decode b_P_init 40 = .ok (.putfield 27, 3) := by decide +kernel
theorem d_P_init_43 : decode b_P_init 43 = .ok (.aload_n 0, 1) := by decide +kernel
theorem d_P_init_44 : decode b_P_init 44 = .ok (.sipush 256, 3) := by decide +kernel
theorem d_P_init_47 : decode b_P_init 47 = .ok (.newarray .int, 2) := by decide +kernel
theorem d_P_init_49 : decode b_P_init 49 = .ok (.putfield 30, 3) := by decide +kernel
theorem d_P_init_52 : decode b_P_init 52 = .ok (.aload_n 0, 1) := by decide +kernel
theorem d_P_init_53 : decode b_P_init 53 = .ok (.iconst (-1), 1) := by decide +kernel
theorem d_P_init_54 : decode b_P_init 54 = .ok (.putfield 33, 3) := by decide +kernel
theorem d_P_init_57 : decode b_P_init 57 = .ok (.iconst 0, 1) := by decide +kernel
theorem d_P_init_58 : decode b_P_init 58 = .ok (.istore_n 1, 1) := by decide +kernel
theorem d_P_init_59 : decode b_P_init 59 = .ok (.iload_n 1, 1) := by decide +kernel
theorem d_P_init_60 : decode b_P_init 60 = .ok (.sipush 256, 3) := by decide +kernel
theorem d_P_init_63 : decode b_P_init 63 = .ok (.if_icmp .ge 16, 3) := by decide +kernel
theorem d_P_init_66 : decode b_P_init 66 = .ok (.aload_n 0, 1) := by decide +kernel
theorem d_P_init_67 : decode b_P_init 67 = .ok (.getfield 30, 3) := by decide +kernel
theorem d_P_init_70 : decode b_P_init 70 = .ok (.iload_n 1, 1) := by decide +kernel
theorem d_P_init_71 : decode b_P_init 71 = .ok (.iconst (-1), 1) := by decide +kernel
theorem d_P_init_72 : decode b_P_init 72 = .ok (.iastore, 1) := by decide +kernel
theorem d_P_init_73 : decode b_P_init 73 = .ok (.iinc 1 1, 3) := by decide +kernel
theorem d_P_init_76 : decode b_P_init 76 = .ok (.goto (-17), 3) := by decide +kernel
theorem d_P_init_79 : decode b_P_init 79 = .ok (.return_, 1) := by decide +kernel
theorem d_P_load_0 : decode b_P_load 0 = .ok (.iload 4, 2) := by decide +kernel
theorem d_P_load_2 : decode b_P_load 2 = .ok (.iconst 1, 1) := by decide +kernel
theorem d_P_load_3 : decode b_P_load 3 = .ok (.if_icmp .lt 10, 3) := by decide +kernel
theorem d_P_load_6 : decode b_P_load 6 = .ok (.iload 4, 2) := by decide +kernel
theorem d_P_load_8 : decode b_P_load 8 = .ok (.bipush 8, 2) := by decide +kernel
theorem d_P_load_10 : decode b_P_load 10 = .ok (.if_icmp .le 13, 3) := by decide +kernel
theorem d_P_load_13 : decode b_P_load 13 = .ok (.new 37, 3) := by decide +kernel
theorem d_P_load_16 : decode b_P_load 16 = .ok (.dup, 1) := by decide +kernel
theorem d_P_load_17 : decode b_P_load 17 = .ok (.ldc 39, 2) := by decide +kernel
theorem d_P_load_19 : decode b_P_load 19 = .ok (.invokespecial 41, 3) := by decide +kernel
theorem d_P_load_22 : decode b_P_load 22 = .ok (.athrow, 1) := by decide +kernel
theorem d_P_load_23 : decode b_P_load 23 = .ok (.iload_n 1, 1) := by decide +kernel
theorem d_P_load_24 : decode b_P_load 24 = .ok (.ifCond .lt 13, 3) := by decide +kernel
theorem d_P_load_27 : decode b_P_load 27 = .ok (.iload_n 1, 1) := by decide +kernel
theorem d_P_load_28 : decode b_P_load 28 = .ok (.sipush 1024, 3) := by decide +kernel
theorem d_P_load_31 : decode b_P_load 31 = .ok (.iload 4, 2) := by decide +kernel
theorem d_P_load_33 : decode b_P_load 33 = .ok (.isub, 1) := by decide +kernel
theorem d_P_load_34 : decode b_P_load 34 = .ok (.if_icmp .le 13, 3) := by decide +kernel
theorem d_P_load_37 : decode b_P_load 37 = .ok (.new 37, 3) := by decide +kernel
theorem d_P_load_40 : decode b_P_load 40 = .ok (.dup, 1) := by decide +kernel
theorem d_P_load_41 : decode b_P_load 41 = .ok (.ldc 44, 2) := by decide +kernel
theorem d_P_load_43 : decode b_P_load 43 = .ok (.invokespecial 41, 3) := by decide +kernel
theorem d_P_load_46 : decode b_P_load 46 = .ok (.athrow, 1) := by decide +kernel
theorem d_P_load_47 : decode b_P_load 47 = .ok (.iconst 0, 1) := by decide +kernel
theorem d_P_load_48 : decode b_P_load 48 = .ok (.istore 5, 2) := by decide +kernel
theorem d_P_load_50 : decode b_P_load 50 = .ok (.iload 5, 2) := by decide +kernel
theorem d_P_load_52 : decode b_P_load 52 = .ok (.iload 4, 2) := by decide +kernel
theorem d_P_load_54 : decode b_P_load 54 = .ok (.if_icmp .ge 37, 3) := by decide +kernel
theorem d_P_load_57 : decode b_P_load 57 = .ok (.aload_n 0, 1) := by decide +kernel
theorem d_P_load_58 : decode b_P_load 58 = .ok (.getfield 10, 3) := by decide +kernel
theorem d_P_load_61 : decode b_P_load 61 = .ok (.iload_n 1, 1) := by decide +kernel
theorem d_P_load_62 : decode b_P_load 62 = .ok (.iload 5, 2) := by decide +kernel
theorem d_P_load_64 : decode b_P_load 64 = .ok (.iadd, 1) := by decide +kernel
theorem d_P_load_65 : decode b_P_load 65 = .ok (.lload_n 2, 1) := by decide +kernel
theorem d_P_load_66 : decode b_P_load 66 = .ok (.bipush 8, 2) := by decide +kernel
theorem d_P_load_68 : decode b_P_load 68 = .ok (.iload 4, 2) := by decide +kernel
theorem d_P_load_70 : decode b_P_load 70 = .ok (.iconst 1, 1) := by decide +kernel
theorem d_P_load_71 : decode b_P_load 71 = .ok (.isub, 1) := by decide +kernel
theorem d_P_load_72 : decode b_P_load 72 = .ok (.iload 5, 2) := by decide +kernel
theorem d_P_load_74 : decode b_P_load 74 = .ok (.isub, 1) := by decide +kernel
theorem d_P_load_75 : decode b_P_load 75 = .ok (.imul, 1) := by decide +kernel
theorem d_P_load_76 : decode b_P_load 76 = .ok (.lushr, 1) := by decide +kernel
theorem d_P_load_77 : decode b_P_load 77 = .ok (.l2i, 1) := by decide +kernel
theorem d_P_load_78 : decode b_P_load 78 = .ok (.sipush 255, 3) := by decide +kernel
theorem d_P_load_81 : decode b_P_load 81 = .ok (.iand, 1) := by decide +kernel
theorem d_P_load_82 : decode b_P_load 82 = .ok (.invokevirtual 46, 3) := by decide +kernel
theorem d_P_load_85 : decode b_P_load 85 = .ok (.iinc 5 1, 3) := by decide +kernel
theorem d_P_load_88 : decode b_P_load 88 = .ok (.goto (-38), 3) := by decide +kernel
theorem d_P_load_91 : decode b_P_load 91 = .ok (.return_, 1) := by decide +kernel
theorem d_P_peek_0 : decode b_P_peek 0 = .ok (.iload_n 1, 1) := by decide +kernel
theorem d_P_peek_1 : decode b_P_peek 1 = .ok (.ifCond .lt 10, 3) := by decide +kernel
theorem d_P_peek_4 : decode b_P_peek 4 = .ok (.iload_n 1, 1) := by decide +kernel
theorem d_P_peek_5 : decode b_P_peek 5 = .ok (.sipush 1024, 3) := by decide +kernel
theorem d_P_peek_8 : decode b_P_peek 8 = .ok (.if_icmp .lt 13, 3) := by decide +kernel
theorem d_P_peek_11 : decode b_P_peek 11 = .ok (.new 37, 3) := by decide +kernel
theorem d_P_peek_14 : decode b_P_peek 14 = .ok (.dup, 1) := by decide +kernel
theorem d_P_peek_15 : decode b_P_peek 15 = .ok (.ldc 50, 2) := by decide +kernel
theorem d_P_peek_17 : decode b_P_peek 17 = .ok (.invokespecial 41, 3) := by decide +kernel
theorem d_P_peek_20 : decode b_P_peek 20 = .ok (.athrow, 1) := by decide +kernel
theorem d_P_peek_21 : decode b_P_peek 21 = .ok (.aload_n 0, 1) := by decide +kernel
theorem d_P_peek_22 : decode b_P_peek 22 = .ok (.getfield 10, 3) := by decide +kernel
theorem d_P_peek_25 : decode b_P_peek 25 = .ok (.iload_n 1, 1) := by decide +kernel
theorem d_P_peek_26 : decode b_P_peek 26 = .ok (.invokevirtual 52, 3) := by decide +kernel
theorem d_P_peek_29 : decode b_P_peek 29 = .ok (.ireturn, 1) := by decide +kernel
theorem d_P_start_0 : decode b_P_start 0 = .ok (.iload_n 1, 1) := by decide +kernel
theorem d_P_start_1 : decode b_P_start 1 = .ok (.ifCond .lt 9, 3) := by decide +kernel
theorem d_P_start_4 : decode b_P_start 4 = .ok (.iload_n 1, 1) := by decide +kernel
theorem d_P_start_5 : decode b_P_start 5 = .ok (.ldc 56, 2) := by decide +kernel
theorem d_P_start_7 : decode b_P_start 7 = .ok (.if_icmp .le 13, 3) := by decide +kernel
theorem d_P_start_10 : decode b_P_start 10 = .ok (.new 37, 3) := by decide +kernel
theorem d_P_start_13 : decode b_P_start 13 = .ok (.dup, 1) := by decide +kernel
theorem d_P_start_14 : decode b_P_start 14 = .ok (.ldc 57, 2) := by decide +kernel
theorem d_P_start_16 : decode b_P_start 16 = .ok (.invokespecial 41, 3) := by decide +kernel
theorem d_P_start_19 : decode b_P_start 19 = .ok (.athrow, 1) := by decide +kernel
theorem d_P_start_20 : decode b_P_start 20 = .ok (.aload_n 0, 1) := by decide +kernel
theorem d_P_start_21 : decode b_P_start 21 = .ok (.iload_n 1, 1) := by decide +kernel
theorem d_P_start_22 : decode b_P_start 22 = .ok (.putfield 59, 3) := by decide +kernel
theorem d_P_start_25 : decode b_P_start 25 = .ok (.aload_n 0, 1) := by decide +kernel
theorem d_P_start_26 : decode b_P_start 26 = .ok (.iconst 0, 1) := by decide +kernel
theorem d_P_start_27 : decode b_P_start 27 = .ok (.putfield 62, 3) := by decide +kernel
theorem d_P_start_30 : decode b_P_start 30 = .ok (.return_, 1) := by decide +kernel
theorem d_P_run_0 : decode b_P_run 0 = .ok (.iload_n 1, 1) := by decide +kernel
theorem d_P_run_1 : decode b_P_run 1 = .ok (.iconst 1, 1) := by decide +kernel
theorem d_P_run_2 : decode b_P_run 2 = .ok (.if_icmp .lt 10, 3) := by decide +kernel
theorem d_P_run_5 : decode b_P_run 5 = .ok (.iload_n 1, 1) := by decide +kernel
theorem d_P_run_6 : decode b_P_run 6 = .ok (.sipush 500, 3) := by decide +kernel
theorem d_P_run_9 : decode b_P_run 9 = .ok (.if_icmp .le 13, 3) := by decide +kernel
theorem d_P_run_12 : decode b_P_run 12 = .ok (.new 37, 3) := by decide +kernel
theorem d_P_run_15 : decode b_P_run 15 = .ok (.dup, 1) := by decide +kernel
theorem d_P_run_16 : decode b_P_run 16 = .ok (.ldc 66, 2) := by decide +kernel
theorem d_P_run_18 : decode b_P_run 18 = .ok (.invokespecial 41, 3) := by decide +kernel
theorem d_P_run_21 : decode b_P_run 21 = .ok (.athrow, 1) := by decide +kernel
theorem d_P_run_22 : decode b_P_run 22 = .ok (.iconst 0, 1) := by decide +kernel
theorem d_P_run_23 : decode b_P_run 23 = .ok (.istore_n 2, 1) := by decide +kernel
theorem d_P_run_24 : decode b_P_run 24 = .ok (.iconst 0, 1) := by decide +kernel
theorem d_P_run_25 : decode b_P_run 25 = .ok (.istore_n 3, 1) := by decide +kernel
theorem d_P_run_26 : decode b_P_run 26 = .ok (.iload_n 3, 1) := by decide +kernel
theorem d_P_run_27 : decode b_P_run 27 = .ok (.iload_n 1, 1) := by decide +kernel
theorem d_P_run_28 : decode b_P_run 28 = .ok (.if_icmp .ge 19, 3) := by decide +kernel
theorem d_P_run_31 : decode b_P_run 31 = .ok (.aload_n 0, 1) := by decide +kernel
theorem d_P_run_32 : decode b_P_run 32 = .ok (.invokevirtual 68, 3) := by decide +kernel
theorem d_P_run_35 : decode b_P_run 35 = .ok (.ifCond .eq 6, 3) := by decide +kernel
theorem d_P_run_38 : decode b_P_run 38 = .ok (.iinc 2 1, 3) := by decide +kernel
theorem d_P_run_41 : decode b_P_run 41 = .ok (.iinc 3 1, 3) := by decide +kernel
theorem d_P_run_44 : decode b_P_run 44 = .ok (.goto (-18), 3) := by decide +kernel
theorem d_P_run_47 : decode b_P_run 47 = .ok (.iload_n 2, 1) := by decide +kernel
theorem d_P_run_48 : decode b_P_run 48 = .ok (.ireturn, 1) := by decide +kernel
theorem d_P_interrupt_0 : decode b_P_interrupt 0 = .ok (.iload_n 1, 1) := by decide +kernel
theorem d_P_interrupt_1 : decode b_P_interrupt 1 = .ok (.ifCond .lt 9, 3) := by decide +kernel
theorem d_P_interrupt_4 : decode b_P_interrupt 4 = .ok (.iload_n 1, 1) := by decide +kernel
theorem d_P_interrupt_5 : decode b_P_interrupt 5 = .ok (.bipush 7, 2) := by decide +kernel
theorem d_P_interrupt_7 : decode b_P_interrupt 7 = .ok (.if_icmp .le 13, 3) := by decide +kernel
theorem d_P_interrupt_10 : decode b_P_interrupt 10 = .ok (.new 37, 3) := by decide +kernel
theorem d_P_interrupt_13 : decode b_P_interrupt 13 = .ok (.dup, 1) := by decide +kernel
theorem d_P_interrupt_14 : decode b_P_interrupt 14 = .ok (.ldc 72, 2) := by decide +kernel
theorem d_P_interrupt_16 : decode b_P_interrupt 16 = .ok (.invokespecial 41, 3) := by decide +kernel
theorem d_P_interrupt_19 : decode b_P_interrupt 19 = .ok (.athrow, 1) := by decide +kernel
theorem d_P_interrupt_20 : decode b_P_interrupt 20 = .ok (.aload_n 0, 1) := by decide +kernel
theorem d_P_interrupt_21 : decode b_P_interrupt 21 = .ok (.iload_n 1, 1) := by decide +kernel
theorem d_P_interrupt_22 : decode b_P_interrupt 22 = .ok (.putfield 33, 3) := by decide +kernel
theorem d_P_interrupt_25 : decode b_P_interrupt 25 = .ok (.return_, 1) := by decide +kernel
theorem d_P_bring_0 : decode b_P_bring 0 = .ok (.iload_n 1, 1) := by decide +kernel
theorem d_P_bring_1 : decode b_P_bring 1 = .ok (.invokestatic 74, 3) := by decide +kernel
theorem d_P_bring_4 : decode b_P_bring 4 = .ok (.ifCond .ne 13, 3) := by decide +kernel
theorem d_P_bring_7 : decode b_P_bring 7 = .ok (.new 37, 3) := by decide +kernel
theorem d_P_bring_10 : decode b_P_bring 10 = .ok (.dup, 1) := by decide +kernel
theorem d_P_bring_11 : decode b_P_bring 11 = .ok (.ldc 78, 2) := by decide +kernel
theorem d_P_bring_13 : decode b_P_bring 13 = .ok (.invokespecial 41, 3) := by decide +kernel
theorem d_P_bring_16 : decode b_P_bring 16 = .ok (.athrow, 1) := by decide +kernel
theorem d_P_bring_17 : decode b_P_bring 17 = .ok (.iload_n 2, 1) := by decide +kernel
theorem d_P_bring_18 : decode b_P_bring 18 = .ok (.invokestatic 74, 3) := by decide +kernel
theorem d_P_bring_21 : decode b_P_bring 21 = .ok (.ifCond .ne 13, 3) := by decide +kernel
theorem d_P_bring_24 : decode b_P_bring 24 = .ok (.new 37, 3) := by decide +kernel
theorem d_P_bring_27 : decode b_P_bring 27 = .ok (.dup, 1) := by decide +kernel
theorem d_P_bring_28 : decode b_P_bring 28 = .ok (.ldc 80, 2) := by decide +kernel
theorem d_P_bring_30 : decode b_P_bring 30 = .ok (.invokespecial 41, 3) := by decide +kernel
theorem d_P_bring_33 : decode b_P_bring 33 = .ok (.athrow, 1) := by decide +kernel
theorem d_P_bring_34 : decode b_P_bring 34 = .ok (.aload_n 0, 1) := by decide +kernel
theorem d_P_bring_35 : decode b_P_bring 35 = .ok (.getfield 27, 3) := by decide +kernel
theorem d_P_bring_38 : decode b_P_bring 38 = .ok (.iload_n 1, 1) := by decide +kernel
theorem d_P_bring_39 : decode b_P_bring 39 = .ok (.iload_n 2, 1) := by decide +kernel
theorem d_P_bring_40 : decode b_P_bring 40 = .ok (.iastore, 1) := by decide +kernel
theorem d_P_bring_41 : decode b_P_bring 41 = .ok (.return_, 1) := by decide +kernel
theorem d_P_out_0 : decode b_P_out 0 = .ok (.iload_n 1, 1) := by decide +kernel
theorem d_P_out_1 : decode b_P_out 1 = .ok (.invokestatic 74, 3) := by decide +kernel
theorem d_P_out_4 : decode b_P_out 4 = .ok (.ifCond .ne 13, 3) := by decide +kernel
theorem d_P_out_7 : decode b_P_out 7 = .ok (.new 37, 3) := by decide +kernel
theorem d_P_out_10 : decode b_P_out 10 = .ok (.dup, 1) := by decide +kernel
theorem d_P_out_11 : decode b_P_out 11 = .ok (.ldc 78, 2) := by decide +kernel
theorem d_P_out_13 : decode b_P_out 13 = .ok (.invokespecial 41, 3) := by decide +kernel
theorem d_P_out_16 : decode b_P_out 16 = .ok (.athrow, 1) := by decide +kernel
theorem d_P_out_17 : decode b_P_out 17 = .ok (.aload_n 0, 1) := by decide +kernel
theorem d_P_out_18 : decode b_P_out 18 = .ok (.getfield 30, 3) := by decide +kernel
theorem d_P_out_21 : decode b_P_out 21 = .ok (.iload_n 1, 1) := by decide +kernel
theorem d_P_out_22 : decode b_P_out 22 = .ok (.iaload, 1) := by decide +kernel
theorem d_P_out_23 : decode b_P_out 23 = .ok (.ireturn, 1) := by decide +kernel
theorem d_P_register_0 : decode b_P_register 0 = .ok (.iload_n 1, 1) := by decide +kernel
theorem d_P_register_1 : decode b_P_register 1 = .ok (.ifCond .lt 9, 3) := by decide +kernel
theorem d_P_register_4 : decode b_P_register 4 = .ok (.iload_n 1, 1) := by decide +kernel
theorem d_P_register_5 : decode b_P_register 5 = .ok (.bipush 10, 2) := by decide +kernel
theorem d_P_register_7 : decode b_P_register 7 = .ok (.if_icmp .le 13, 3) := by decide +kernel
theorem d_P_register_10 : decode b_P_register 10 = .ok (.new 37, 3) := by decide +kernel
theorem d_P_register_13 : decode b_P_register 13 = .ok (.dup, 1) := by decide +kernel
theorem d_P_register_14 : decode b_P_register 14 = .ok (.ldc 82, 2) := by decide +kernel
theorem d_P_register_16 : decode b_P_register 16 = .ok (.invokespecial 41, 3) := by decide +kernel
theorem d_P_register_19 : decode b_P_register 19 = .ok (.athrow, 1) := by decide +kernel
theorem d_P_register_20 : decode b_P_register 20 = .ok (.iload_n 1, 1) := by decide +kernel
theorem d_P_register_21 : decode b_P_register 21 = .ok (.tableswitch 45 8 10 #[27, 35, 40], 27) := by decide +kernel
theorem d_P_register_48 : decode b_P_register 48 = .ok (.aload_n 0, 1) := by decide +kernel
theorem d_P_register_49 : decode b_P_register 49 = .ok (.getfield 19, 3) := by decide +kernel
theorem d_P_register_52 : decode b_P_register 52 = .ok (.invokevirtual 84, 3) := by decide +kernel
theorem d_P_register_55 : decode b_P_register 55 = .ok (.ireturn, 1) := by decide +kernel
theorem d_P_register_56 : decode b_P_register 56 = .ok (.aload_n 0, 1) := by decide +kernel
theorem d_P_register_57 : decode b_P_register 57 = .ok (.getfield 88, 3) := by decide +kernel
theorem d_P_register_60 : decode b_P_register 60 = .ok (.ireturn, 1) := by decide +kernel
theorem d_P_register_61 : decode b_P_register 61 = .ok (.aload_n 0, 1) := by decide +kernel
theorem d_P_register_62 : decode b_P_register 62 = .ok (.getfield 59, 3) := by decide +kernel
theorem d_P_register_65 : decode b_P_register 65 = .ok (.ireturn, 1) := by decide +kernel
theorem d_P_register_66 : decode b_P_register 66 = .ok (.aload_n 0, 1) := by decide +kernel
theorem d_P_register_67 : decode b_P_register 67 = .ok (.iload_n 1, 1) := by decide +kernel
theorem d_P_register_68 : decode b_P_register 68 = .ok (.invokevirtual 91, 3) := by decide +kernel
theorem d_P_register_71 : decode b_P_register 71 = .ok (.ireturn, 1) := by decide +kernel
theorem d_P_set_0 : decode b_P_set 0 = .ok (.iload_n 1, 1) := by decide +kernel
theorem d_P_set_1 : decode b_P_set 1 = .ok (.ifCond .lt 15, 3) := by decide +kernel
theorem d_P_set_4 : decode b_P_set 4 = .ok (.iload_n 1, 1) := by decide +kernel
theorem d_P_set_5 : decode b_P_set 5 = .ok (.bipush 9, 2) := by decide +kernel
theorem d_P_set_7 : decode b_P_set 7 = .ok (.if_icmp .gt 9, 3) := by decide +kernel
theorem d_P_set_10 : decode b_P_set 10 = .ok (.iload_n 1, 1) := by decide +kernel
theorem d_P_set_11 : decode b_P_set 11 = .ok (.bipush 6, 2) := by decide +kernel
theorem d_P_set_13 : decode b_P_set 13 = .ok (.if_icmp .ne 13, 3) := by decide +kernel
theorem d_P_set_16 : decode b_P_set 16 = .ok (.new 37, 3) := by decide +kernel
theorem d_P_set_19 : decode b_P_set 19 = .ok (.dup, 1) := by decide +kernel
theorem d_P_set_20 : decode b_P_set 20 = .ok (.ldc 94, 2) := by decide +kernel
theorem d_P_set_22 : decode b_P_set 22 = .ok (.invokespecial 41, 3) := by decide +kernel
theorem d_P_set_25 : decode b_P_set 25 = .ok (.athrow, 1) := by decide +kernel
theorem d_P_set_26 : decode b_P_set 26 = .ok (.iload_n 1, 1) := by decide +kernel
theorem d_P_set_27 : decode b_P_set 27 = .ok (.bipush 9, 2) := by decide +kernel
theorem d_P_set_29 : decode b_P_set 29 = .ok (.if_icmp .ne 8, 3) := by decide +kernel
theorem d_P_set_32 : decode b_P_set 32 = .ok (.ldc 56, 2) := by decide +kernel
theorem d_P_set_34 : decode b_P_set 34 = .ok (.goto 6, 3) := by decide +kernel
theorem d_P_set_37 : decode b_P_set 37 = .ok (.sipush 255, 3) := by decide +kernel
theorem d_P_set_40 : decode b_P_set 40 = .ok (.istore_n 3, 1) := by decide +kernel
theorem d_P_set_41 : decode b_P_set 41 = .ok (.iload_n 2, 1) := by decide +kernel
theorem d_P_set_42 : decode b_P_set 42 = .ok (.ifCond .lt 8, 3) := by decide +kernel
theorem d_P_set_45 : decode b_P_set 45 = .ok (.iload_n 2, 1) := by decide +kernel
theorem d_P_set_46 : decode b_P_set 46 = .ok (.iload_n 3, 1) := by decide +kernel
theorem d_P_set_47 : decode b_P_set 47 = .ok (.if_icmp .le 13, 3) := by decide +kernel
theorem d_P_set_50 : decode b_P_set 50 = .ok (.new 37, 3) := by decide +kernel
theorem d_P_set_53 : decode b_P_set 53 = .ok (.dup, 1) := by decide +kernel
theorem d_P_set_54 : decode b_P_set 54 = .ok (.ldc 96, 2) := by decide +kernel
theorem d_P_set_56 : decode b_P_set 56 = .ok (.invokespecial 41, 3) := by decide +kernel
theorem d_P_set_59 : decode b_P_set 59 = .ok (.athrow, 1) := by decide +kernel
theorem d_P_set_60 : decode b_P_set 60 = .ok (.iload_n 1, 1) := by decide +kernel
theorem d_P_set_61 : decode b_P_set 61 = .ok (.bipush 9, 2) := by decide +kernel
theorem d_P_set_63 : decode b_P_set 63 = .ok (.if_icmp .ne 11, 3) := by decide +kernel
theorem d_P_set_66 : decode b_P_set 66 = .ok (.aload_n 0, 1) := by decide +kernel
theorem d_P_set_67 : decode b_P_set 67 = .ok (.iload_n 2, 1) := by decide +kernel
theorem d_P_set_68 : decode b_P_set 68 = .ok (.putfield 88, 3) := by decide +kernel
theorem d_P_set_71 : decode b_P_set 71 = .ok (.goto 27, 3) := by decide +kernel
theorem d_P_set_74 : decode b_P_set 74 = .ok (.iload_n 1, 1) := by decide +kernel
theorem d_P_set_75 : decode b_P_set 75 = .ok (.bipush 8, 2) := by decide +kernel
theorem d_P_set_77 : decode b_P_set 77 = .ok (.if_icmp .ne 14, 3) := by decide +kernel
theorem d_P_set_80 : decode b_P_set 80 = .ok (.aload_n 0, 1) := by decide +kernel
theorem d_P_set_81 : decode b_P_set 81 = .ok (.getfield 19, 3) := by decide +kernel
theorem d_P_set_84 : decode b_P_set 84 = .ok (.iload_n 2, 1) := by decide +kernel
theorem d_P_set_85 : decode b_P_set 85 = .ok (.invokevirtual 98, 3) := by decide +kernel
theorem d_P_set_88 : decode b_P_set 88 = .ok (.goto 10, 3) := by decide +kernel
theorem d_P_set_91 : decode b_P_set 91 = .ok (.aload_n 0, 1) := by decide +kernel
theorem d_P_set_92 : decode b_P_set 92 = .ok (.getfield 23, 3) := by decide +kernel
theorem d_P_set_95 : decode b_P_set 95 = .ok (.iload_n 1, 1) := by decide +kernel
theorem d_P_set_96 : decode b_P_set 96 = .ok (.iload_n 2, 1) := by decide +kernel
theorem d_P_set_97 : decode b_P_set 97 = .ok (.iastore, 1) := by decide +kernel
theorem d_P_set_98 : decode b_P_set 98 = .ok (.return_, 1) := by decide +kernel
theorem d_P_is_0 : decode b_P_is 0 = .ok (.iload_n 1, 1) := by decide +kernel
theorem d_P_is_1 : decode b_P_is 1 = .ok (.tableswitch 51 0 2 #[27, 32, 37], 27) := by decide +kernel
theorem d_P_is_28 : decode b_P_is 28 = .ok (.aload_n 0, 1) := by decide +kernel
theorem d_P_is_29 : decode b_P_is 29 = .ok (.getfield 62, 3) := by decide +kernel
theorem d_P_is_32 : decode b_P_is 32 = .ok (.ireturn, 1) := by decide +kernel
theorem d_P_is_33 : decode b_P_is 33 = .ok (.aload_n 0, 1) := by decide +kernel
theorem d_P_is_34 : decode b_P_is 34 = .ok (.getfield 102, 3) := by decide +kernel
theorem d_P_is_37 : decode b_P_is 37 = .ok (.ireturn, 1) := by decide +kernel
theorem d_P_is_38 : decode b_P_is 38 = .ok (.aload_n 0, 1) := by decide +kernel
theorem d_P_is_39 : decode b_P_is 39 = .ok (.getfield 33, 3) := by decide +kernel
theorem d_P_is_42 : decode b_P_is 42 = .ok (.iconst (-1), 1) := by decide +kernel
theorem d_P_is_43 : decode b_P_is 43 = .ok (.if_icmp .eq 7, 3) := by decide +kernel
theorem d_P_is_46 : decode b_P_is 46 = .ok (.iconst 1, 1) := by decide +kernel
theorem d_P_is_47 : decode b_P_is 47 = .ok (.goto 4, 3) := by decide +kernel
theorem d_P_is_50 : decode b_P_is 50 = .ok (.iconst 0, 1) := by decide +kernel
theorem d_P_is_51 : decode b_P_is 51 = .ok (.ireturn, 1) := by decide +kernel
theorem d_P_is_52 : decode b_P_is 52 = .ok (.new 37, 3) := by decide +kernel
theorem d_P_is_55 : decode b_P_is 55 = .ok (.dup, 1) := by decide +kernel
theorem d_P_is_56 : decode b_P_is 56 = .ok (.ldc 105, 2) := by decide +kernel
theorem d_P_is_58 : decode b_P_is 58 = .ok (.invokespecial 41, 3) := by decide +kernel
theorem d_P_is_61 : decode b_P_is 61 = .ok (.athrow, 1) := by decide +kernel
theorem d_P_states_0 : decode b_P_states 0 = .ok (.aload_n 0, 1) := by decide +kernel
theorem d_P_states_1 : decode b_P_states 1 = .ok (.getfield 107, 3) := by decide +kernel
theorem d_P_states_4 : decode b_P_states 4 = .ok (.lreturn, 1) := by decide +kernel
theorem d_P_isByte_0 : decode b_P_isByte 0 = .ok (.iload_n 0, 1) := by decide +kernel
theorem d_P_isByte_1 : decode b_P_isByte 1 = .ok (.ifCond .lt 14, 3) := by decide +kernel
theorem d_P_isByte_4 : decode b_P_isByte 4 = .ok (.iload_n 0, 1) := by decide +kernel
theorem d_P_isByte_5 : decode b_P_isByte 5 = .ok (.sipush 255, 3) := by decide +kernel
theorem d_P_isByte_8 : decode b_P_isByte 8 = .ok (.if_icmp .gt 7, 3) := by decide +kernel
theorem d_P_isByte_11 : decode b_P_isByte 11 = .ok (.iconst 1, 1) := by decide +kernel
theorem d_P_isByte_12 : decode b_P_isByte 12 = .ok (.goto 4, 3) := by decide +kernel
theorem d_P_isByte_15 : decode b_P_isByte 15 = .ok (.iconst 0, 1) := by decide +kernel
theorem d_P_isByte_16 : decode b_P_isByte 16 = .ok (.ireturn, 1) := by decide +kernel
theorem d_P_step_0 : decode b_P_step 0 = .ok (.aload_n 0, 1) := by decide +kernel
theorem d_P_step_1 : decode b_P_step 1 = .ok (.getfield 33, 3) := by decide +kernel
theorem d_P_step_4 : decode b_P_step 4 = .ok (.iconst (-1), 1) := by decide +kernel
theorem d_P_step_5 : decode b_P_step 5 = .ok (.if_icmp .eq 35, 3) := by decide +kernel
theorem d_P_step_8 : decode b_P_step 8 = .ok (.aload_n 0, 1) := by decide +kernel
theorem d_P_step_9 : decode b_P_step 9 = .ok (.getfield 102, 3) := by decide +kernel
theorem d_P_step_12 : decode b_P_step 12 = .ok (.ifCond .eq 28, 3) := by decide +kernel
theorem d_P_step_15 : decode b_P_step 15 = .ok (.aload_n 0, 1) := by decide +kernel
theorem d_P_step_16 : decode b_P_step 16 = .ok (.getfield 111, 3) := by decide +kernel
theorem d_P_step_19 : decode b_P_step 19 = .ok (.ifCond .ne 21, 3) := by decide +kernel
theorem d_P_step_22 : decode b_P_step 22 = .ok (.aload_n 0, 1) := by decide +kernel
theorem d_P_step_23 : decode b_P_step 23 = .ok (.invokevirtual 114, 3) := by decide +kernel
theorem d_P_step_26 : decode b_P_step 26 = .ok (.aload_n 0, 1) := by decide +kernel
theorem d_P_step_27 : decode b_P_step 27 = .ok (.dup, 1) := by decide +kernel
theorem d_P_step_28 : decode b_P_step 28 = .ok (.getfield 107, 3) := by decide +kernel
theorem d_P_step_31 : decode b_P_step 31 = .ok (.ldc2_w 117, 3) := by decide +kernel
theorem d_P_step_34 : decode b_P_step 34 = .ok (.ladd, 1) := by decide +kernel
theorem d_P_step_35 : decode b_P_step 35 = .ok (.putfield 107, 3) := by decide +kernel
theorem d_P_step_38 : decode b_P_step 38 = .ok (.iconst 1, 1) := by decide +kernel
theorem d_P_step_39 : decode b_P_step 39 = .ok (.ireturn, 1) := by decide +kernel
theorem d_P_step_40 : decode b_P_step 40 = .ok (.aload_n 0, 1) := by decide +kernel
theorem d_P_step_41 : decode b_P_step 41 = .ok (.getfield 62, 3) := by decide +kernel
theorem d_P_step_44 : decode b_P_step 44 = .ok (.ifCond .eq 17, 3) := by decide +kernel
theorem d_P_step_47 : decode b_P_step 47 = .ok (.aload_n 0, 1) := by decide +kernel
theorem d_P_step_48 : decode b_P_step 48 = .ok (.dup, 1) := by decide +kernel
theorem d_P_step_49 : decode b_P_step 49 = .ok (.getfield 107, 3) := by decide +kernel
theorem d_P_step_52 : decode b_P_step 52 = .ok (.ldc2_w 119, 3) := by decide +kernel
theorem d_P_step_55 : decode b_P_step 55 = .ok (.ladd, 1) := by decide +kernel
theorem d_P_step_56 : decode b_P_step 56 = .ok (.putfield 107, 3) := by decide +kernel
theorem d_P_step_59 : decode b_P_step 59 = .ok (.iconst 0, 1) := by decide +kernel
theorem d_P_step_60 : decode b_P_step 60 = .ok (.ireturn, 1) := by decide +kernel
theorem d_P_step_61 : decode b_P_step 61 = .ok (.aload_n 0, 1) := by decide +kernel
theorem d_P_step_62 : decode b_P_step 62 = .ok (.invokevirtual 121, 3) := by decide +kernel
theorem d_P_step_65 : decode b_P_step 65 = .ok (.istore_n 1, 1) := by decide +kernel
theorem d_P_step_66 : decode b_P_step 66 = .ok (.aload_n 0, 1) := by decide +kernel
theorem d_P_step_67 : decode b_P_step 67 = .ok (.iload_n 1, 1) := by decide +kernel
theorem d_P_step_68 : decode b_P_step 68 = .ok (.sipush 251, 3) := by decide +kernel
theorem d_P_step_71 : decode b_P_step 71 = .ok (.if_icmp .ne 7, 3) := by decide +kernel
theorem d_P_step_74 : decode b_P_step 74 = .ok (.iconst 1, 1) := by decide +kernel
theorem d_P_step_75 : decode b_P_step 75 = .ok (.goto 4, 3) := by decide +kernel
theorem d_P_step_78 : decode b_P_step 78 = .ok (.iconst 0, 1) := by decide +kernel
theorem d_P_step_79 : decode b_P_step 79 = .ok (.putfield 111, 3) := by decide +kernel
theorem d_P_step_82 : decode b_P_step 82 = .ok (.iload_n 1, 1) := by decide +kernel
theorem d_P_step_83 : decode b_P_step 83 = .ok (.bipush 6, 2) := by decide +kernel
theorem d_P_step_85 : decode b_P_step 85 = .ok (.ishr, 1) := by decide +kernel
theorem d_P_step_86 : decode b_P_step 86 = .ok (.tableswitch 80 0 2 #[26, 44, 62], 26) := by decide +kernel
theorem d_P_step_112 : decode b_P_step 112 = .ok (.aload_n 0, 1) := by decide +kernel
theorem d_P_step_113 : decode b_P_step 113 = .ok (.dup, 1) := by decide +kernel
theorem d_P_step_114 : decode b_P_step 114 = .ok (.getfield 107, 3) := by decide +kernel
theorem d_P_step_117 : decode b_P_step 117 = .ok (.aload_n 0, 1) := by decide +kernel
theorem d_P_step_118 : decode b_P_step 118 = .ok (.iload_n 1, 1) := by decide +kernel
theorem d_P_step_119 : decode b_P_step 119 = .ok (.invokevirtual 124, 3) := by decide +kernel
theorem d_P_step_122 : decode b_P_step 122 = .ok (.i2l, 1) := by decide +kernel
theorem d_P_step_123 : decode b_P_step 123 = .ok (.ladd, 1) := by decide +kernel
theorem d_P_step_124 : decode b_P_step 124 = .ok (.putfield 107, 3) := by decide +kernel
theorem d_P_step_127 : decode b_P_step 127 = .ok (.goto 54, 3) := by decide +kernel
theorem d_P_step_130 : decode b_P_step 130 = .ok (.aload_n 0, 1) := by decide +kernel
theorem d_P_step_131 : decode b_P_step 131 = .ok (.dup, 1) := by decide +kernel
theorem d_P_step_132 : decode b_P_step 132 = .ok (.getfield 107, 3) := by decide +kernel
theorem d_P_step_135 : decode b_P_step 135 = .ok (.aload_n 0, 1) := by decide +kernel
theorem d_P_step_136 : decode b_P_step 136 = .ok (.iload_n 1, 1) := by decide +kernel
theorem d_P_step_137 : decode b_P_step 137 = .ok (.invokevirtual 127, 3) := by decide +kernel
theorem d_P_step_140 : decode b_P_step 140 = .ok (.i2l, 1) := by decide +kernel
theorem d_P_step_141 : decode b_P_step 141 = .ok (.ladd, 1) := by decide +kernel
theorem d_P_step_142 : decode b_P_step 142 = .ok (.putfield 107, 3) := by decide +kernel
theorem d_P_step_145 : decode b_P_step 145 = .ok (.goto 36, 3) := by decide +kernel
theorem d_P_step_148 : decode b_P_step 148 = .ok (.aload_n 0, 1) := by decide +kernel
theorem d_P_step_149 : decode b_P_step 149 = .ok (.dup, 1) := by decide +kernel
theorem d_P_step_150 : decode b_P_step 150 = .ok (.getfield 107, 3) := by decide +kernel
theorem d_P_step_153 : decode b_P_step 153 = .ok (.aload_n 0, 1) := by decide +kernel
theorem d_P_step_154 : decode b_P_step 154 = .ok (.iload_n 1, 1) := by decide +kernel
theorem d_P_step_155 : decode b_P_step 155 = .ok (.invokevirtual 130, 3) := by decide +kernel
theorem d_P_step_158 : decode b_P_step 158 = .ok (.i2l, 1) := by decide +kernel
theorem d_P_step_159 : decode b_P_step 159 = .ok (.ladd, 1) := by decide +kernel
theorem d_P_step_160 : decode b_P_step 160 = .ok (.putfield 107, 3) := by decide +kernel
theorem d_P_step_163 : decode b_P_step 163 = .ok (.goto 18, 3) := by decide +kernel
theorem d_P_step_166 : decode b_P_step 166 = .ok (.aload_n 0, 1) := by decide +kernel
theorem d_P_step_167 : decode b_P_step 167 = .ok (.dup, 1) := by decide +kernel
theorem d_P_step_168 : decode b_P_step 168 = .ok (.getfield 107, 3) := by decide +kernel
theorem d_P_step_171 : decode b_P_step 171 = .ok (.aload_n 0, 1) := by decide +kernel
theorem d_P_step_172 : decode b_P_step 172 = .ok (.iload_n 1, 1) := by decide +kernel
theorem d_P_step_173 : decode b_P_step 173 = .ok (.invokevirtual 133, 3) := by decide +kernel
theorem d_P_step_176 : decode b_P_step 176 = .ok (.i2l, 1) := by decide +kernel
theorem d_P_step_177 : decode b_P_step 177 = .ok (.ladd, 1) := by decide +kernel
theorem d_P_step_178 : decode b_P_step 178 = .ok (.putfield 107, 3) := by decide +kernel
theorem d_P_step_181 : decode b_P_step 181 = .ok (.iconst 1, 1) := by decide +kernel
theorem d_P_step_182 : decode b_P_step 182 = .ok (.ireturn, 1) := by decide +kernel
theorem d_P_letInterruptIn_0 : decode b_P_letInterruptIn 0 = .ok (.aload_n 0, 1) := by decide +kernel
theorem d_P_letInterruptIn_1 : decode b_P_letInterruptIn 1 = .ok (.iconst 0, 1) := by decide +kernel
theorem d_P_letInterruptIn_2 : decode b_P_letInterruptIn 2 = .ok (.putfield 102, 3) := by decide +kernel
theorem d_P_letInterruptIn_5 : decode b_P_letInterruptIn 5 = .ok (.aload_n 0, 1) := by decide +kernel
theorem d_P_letInterruptIn_6 : decode b_P_letInterruptIn 6 = .ok (.iconst 0, 1) := by decide +kernel
theorem d_P_letInterruptIn_7 : decode b_P_letInterruptIn 7 = .ok (.putfield 62, 3) := by decide +kernel
theorem d_P_letInterruptIn_10 : decode b_P_letInterruptIn 10 = .ok (.aload_n 0, 1) := by decide +kernel
theorem d_P_letInterruptIn_11 : decode b_P_letInterruptIn 11 = .ok (.bipush 8, 2) := by decide +kernel
theorem d_P_letInterruptIn_13 : decode b_P_letInterruptIn 13 = .ok (.aload_n 0, 1) := by decide +kernel
theorem d_P_letInterruptIn_14 : decode b_P_letInterruptIn 14 = .ok (.getfield 33, 3) := by decide +kernel
theorem d_P_letInterruptIn_17 : decode b_P_letInterruptIn 17 = .ok (.imul, 1) := by decide +kernel
theorem d_P_letInterruptIn_18 : decode b_P_letInterruptIn 18 = .ok (.invokevirtual 136, 3) := by decide +kernel
theorem d_P_letInterruptIn_21 : decode b_P_letInterruptIn 21 = .ok (.aload_n 0, 1) := by decide +kernel
theorem d_P_letInterruptIn_22 : decode b_P_letInterruptIn 22 = .ok (.iconst (-1), 1) := by decide +kernel
theorem d_P_letInterruptIn_23 : decode b_P_letInterruptIn 23 = .ok (.putfield 33, 3) := by decide +kernel
theorem d_P_letInterruptIn_26 : decode b_P_letInterruptIn 26 = .ok (.return_, 1) := by decide +kernel
theorem d_P_doFirstQuarter_0 : decode b_P_doFirstQuarter 0 = .ok (.iload_n 1, 1) := by decide +kernel
theorem d_P_doFirstQuarter_1 : decode b_P_doFirstQuarter 1 = .ok (.bipush 7, 2) := by decide +kernel
theorem d_P_doFirstQuarter_3 : decode b_P_doFirstQuarter 3 = .ok (.iand, 1) := by decide +kernel
theorem d_P_doFirstQuarter_4 : decode b_P_doFirstQuarter 4 = .ok (.tableswitch 101 1 7 #[44, 65, 71, 77, 83, 89, 95], 44) := by decide +kernel
theorem d_P_doFirstQuarter_48 : decode b_P_doFirstQuarter 48 = .ok (.iload_n 1, 1) := by decide +kernel
theorem d_P_doFirstQuarter_49 : decode b_P_doFirstQuarter 49 = .ok (.bipush 8, 2) := by decide +kernel
theorem d_P_doFirstQuarter_51 : decode b_P_doFirstQuarter 51 = .ok (.iand, 1) := by decide +kernel
theorem d_P_doFirstQuarter_52 : decode b_P_doFirstQuarter 52 = .ok (.ifCond .ne 11, 3) := by decide +kernel
theorem d_P_doFirstQuarter_55 : decode b_P_doFirstQuarter 55 = .ok (.aload_n 0, 1) := by decide +kernel
theorem d_P_doFirstQuarter_56 : decode b_P_doFirstQuarter 56 = .ok (.iload_n 1, 1) := by decide +kernel
theorem d_P_doFirstQuarter_57 : decode b_P_doFirstQuarter 57 = .ok (.invokevirtual 139, 3) := by decide +kernel
theorem d_P_doFirstQuarter_60 : decode b_P_doFirstQuarter 60 = .ok (.goto 8, 3) := by decide +kernel
theorem d_P_doFirstQuarter_63 : decode b_P_doFirstQuarter 63 = .ok (.aload_n 0, 1) := by decide +kernel
theorem d_P_doFirstQuarter_64 : decode b_P_doFirstQuarter 64 = .ok (.iload_n 1, 1) := by decide +kernel
theorem d_P_doFirstQuarter_65 : decode b_P_doFirstQuarter 65 = .ok (.invokevirtual 142, 3) := by decide +kernel
theorem d_P_doFirstQuarter_68 : decode b_P_doFirstQuarter 68 = .ok (.ireturn, 1) := by decide +kernel
theorem d_P_doFirstQuarter_69 : decode b_P_doFirstQuarter 69 = .ok (.aload_n 0, 1) := by decide +kernel
theorem d_P_doFirstQuarter_70 : decode b_P_doFirstQuarter 70 = .ok (.iload_n 1, 1) := by decide +kernel
theorem d_P_doFirstQuarter_71 : decode b_P_doFirstQuarter 71 = .ok (.invokevirtual 145, 3) := by decide +kernel
theorem d_P_doFirstQuarter_74 : decode b_P_doFirstQuarter 74 = .ok (.ireturn, 1) := by decide +kernel
theorem d_P_doFirstQuarter_75 : decode b_P_doFirstQuarter 75 = .ok (.aload_n 0, 1) := by decide +kernel
theorem d_P_doFirstQuarter_76 : decode b_P_doFirstQuarter 76 = .ok (.iload_n 1, 1) := by decide +kernel
theorem d_P_doFirstQuarter_77 : decode b_P_doFirstQuarter 77 = .ok (.invokevirtual 148, 3) := by decide +kernel
theorem d_P_doFirstQuarter_80 : decode b_P_doFirstQuarter 80 = .ok (.ireturn, 1) := by decide +kernel
theorem d_P_doFirstQuarter_81 : decode b_P_doFirstQuarter 81 = .ok (.aload_n 0, 1) := by decide +kernel
theorem d_P_doFirstQuarter_82 : decode b_P_doFirstQuarter 82 = .ok (.iload_n 1, 1) := by decide +kernel
theorem d_P_doFirstQuarter_83 : decode b_P_doFirstQuarter 83 = .ok (.invokevirtual 151, 3) := by decide +kernel
theorem d_P_doFirstQuarter_86 : decode b_P_doFirstQuarter 86 = .ok (.ireturn, 1) := by decide +kernel
theorem d_P_doFirstQuarter_87 : decode b_P_doFirstQuarter 87 = .ok (.aload_n 0, 1) := by decide +kernel
theorem d_P_doFirstQuarter_88 : decode b_P_doFirstQuarter 88 = .ok (.iload_n 1, 1) := by decide +kernel
theorem d_P_doFirstQuarter_89 : decode b_P_doFirstQuarter 89 = .ok (.invokevirtual 154, 3) := by decide +kernel
theorem d_P_doFirstQuarter_92 : decode b_P_doFirstQuarter 92 = .ok (.ireturn, 1) := by decide +kernel
theorem d_P_doFirstQuarter_93 : decode b_P_doFirstQuarter 93 = .ok (.aload_n 0, 1) := by decide +kernel
theorem d_P_doFirstQuarter_94 : decode b_P_doFirstQuarter 94 = .ok (.iload_n 1, 1) := by decide +kernel
theorem d_P_doFirstQuarter_95 : decode b_P_doFirstQuarter 95 = .ok (.invokevirtual 157, 3) := by decide +kernel
theorem d_P_doFirstQuarter_98 : decode b_P_doFirstQuarter 98 = .ok (.ireturn, 1) := by decide +kernel
theorem d_P_doFirstQuarter_99 : decode b_P_doFirstQuarter 99 = .ok (.aload_n 0, 1) := by decide +kernel
theorem d_P_doFirstQuarter_100 : decode b_P_doFirstQuarter 100 = .ok (.iload_n 1, 1) := by decide +kernel
theorem d_P_doFirstQuarter_101 : decode b_P_doFirstQuarter 101 = .ok (.invokevirtual 160, 3) := by decide +kernel
theorem d_P_doFirstQuarter_104 : decode b_P_doFirstQuarter 104 = .ok (.ireturn, 1) := by decide +kernel
theorem d_P_doFirstQuarter_105 : decode b_P_doFirstQuarter 105 = .ok (.iconst 4, 1) := by decide +kernel
theorem d_P_doFirstQuarter_106 : decode b_P_doFirstQuarter 106 = .ok (.ireturn, 1) := by decide +kernel
theorem d_P_doLastQuarter_0 : decode b_P_doLastQuarter 0 = .ok (.iload_n 1, 1) := by decide +kernel
theorem d_P_doLastQuarter_1 : decode b_P_doLastQuarter 1 = .ok (.bipush 7, 2) := by decide +kernel
theorem d_P_doLastQuarter_3 : decode b_P_doLastQuarter 3 = .ok (.iand, 1) := by decide +kernel
theorem d_P_doLastQuarter_4 : decode b_P_doLastQuarter 4 = .ok (.tableswitch 115 0 6 #[44, 50, 71, 77, 83, 89, 109], 44) := by decide +kernel
theorem d_P_doLastQuarter_48 : decode b_P_doLastQuarter 48 = .ok (.aload_n 0, 1) := by decide +kernel
theorem d_P_doLastQuarter_49 : decode b_P_doLastQuarter 49 = .ok (.iload_n 1, 1) := by decide +kernel
theorem d_P_doLastQuarter_50 : decode b_P_doLastQuarter 50 = .ok (.invokevirtual 163, 3) := by decide +kernel
theorem d_P_doLastQuarter_53 : decode b_P_doLastQuarter 53 = .ok (.ireturn, 1) := by decide +kernel
theorem d_P_doLastQuarter_54 : decode b_P_doLastQuarter 54 = .ok (.iload_n 1, 1) := by decide +kernel
theorem d_P_doLastQuarter_55 : decode b_P_doLastQuarter 55 = .ok (.bipush 8, 2) := by decide +kernel
theorem d_P_doLastQuarter_57 : decode b_P_doLastQuarter 57 = .ok (.iand, 1) := by decide +kernel
theorem d_P_doLastQuarter_58 : decode b_P_doLastQuarter 58 = .ok (.ifCond .ne 11, 3) := by decide +kernel
theorem d_P_doLastQuarter_61 : decode b_P_doLastQuarter 61 = .ok (.aload_n 0, 1) := by decide +kernel
theorem d_P_doLastQuarter_62 : decode b_P_doLastQuarter 62 = .ok (.iload_n 1, 1) := by decide +kernel
theorem d_P_doLastQuarter_63 : decode b_P_doLastQuarter 63 = .ok (.invokevirtual 166, 3) := by decide +kernel
theorem d_P_doLastQuarter_66 : decode b_P_doLastQuarter 66 = .ok (.goto 8, 3) := by decide +kernel
theorem d_P_doLastQuarter_69 : decode b_P_doLastQuarter 69 = .ok (.aload_n 0, 1) := by decide +kernel
theorem d_P_doLastQuarter_70 : decode b_P_doLastQuarter 70 = .ok (.iload_n 1, 1) := by decide +kernel
theorem d_P_doLastQuarter_71 : decode b_P_doLastQuarter 71 = .ok (.invokevirtual 169, 3) := by decide +kernel
theorem d_P_doLastQuarter_74 : decode b_P_doLastQuarter 74 = .ok (.ireturn, 1) := by decide +kernel
theorem d_P_doLastQuarter_75 : decode b_P_doLastQuarter 75 = .ok (.aload_n 0, 1) := by decide +kernel
theorem d_P_doLastQuarter_76 : decode b_P_doLastQuarter 76 = .ok (.iload_n 1, 1) := by decide +kernel
theorem d_P_doLastQuarter_77 : decode b_P_doLastQuarter 77 = .ok (.invokevirtual 172, 3) := by decide +kernel
theorem d_P_doLastQuarter_80 : decode b_P_doLastQuarter 80 = .ok (.ireturn, 1) := by decide +kernel
theorem d_P_doLastQuarter_81 : decode b_P_doLastQuarter 81 = .ok (.aload_n 0, 1) := by decide +kernel
theorem d_P_doLastQuarter_82 : decode b_P_doLastQuarter 82 = .ok (.iload_n 1, 1) := by decide +kernel
theorem d_P_doLastQuarter_83 : decode b_P_doLastQuarter 83 = .ok (.invokevirtual 175, 3) := by decide +kernel
theorem d_P_doLastQuarter_86 : decode b_P_doLastQuarter 86 = .ok (.ireturn, 1) := by decide +kernel
theorem d_P_doLastQuarter_87 : decode b_P_doLastQuarter 87 = .ok (.aload_n 0, 1) := by decide +kernel
theorem d_P_doLastQuarter_88 : decode b_P_doLastQuarter 88 = .ok (.iload_n 1, 1) := by decide +kernel
theorem d_P_doLastQuarter_89 : decode b_P_doLastQuarter 89 = .ok (.invokevirtual 178, 3) := by decide +kernel
theorem d_P_doLastQuarter_92 : decode b_P_doLastQuarter 92 = .ok (.ireturn, 1) := by decide +kernel
theorem d_P_doLastQuarter_93 : decode b_P_doLastQuarter 93 = .ok (.iload_n 1, 1) := by decide +kernel
theorem d_P_doLastQuarter_94 : decode b_P_doLastQuarter 94 = .ok (.bipush 8, 2) := by decide +kernel
theorem d_P_doLastQuarter_96 : decode b_P_doLastQuarter 96 = .ok (.iand, 1) := by decide +kernel
theorem d_P_doLastQuarter_97 : decode b_P_doLastQuarter 97 = .ok (.ifCond .ne 11, 3) := by decide +kernel
theorem d_P_doLastQuarter_100 : decode b_P_doLastQuarter 100 = .ok (.aload_n 0, 1) := by decide +kernel
theorem d_P_doLastQuarter_101 : decode b_P_doLastQuarter 101 = .ok (.iload_n 1, 1) := by decide +kernel
theorem d_P_doLastQuarter_102 : decode b_P_doLastQuarter 102 = .ok (.invokevirtual 181, 3) := by decide +kernel
theorem d_P_doLastQuarter_105 : decode b_P_doLastQuarter 105 = .ok (.goto 7, 3) := by decide +kernel
theorem d_P_doLastQuarter_108 : decode b_P_doLastQuarter 108 = .ok (.aload_n 0, 1) := by decide +kernel
theorem d_P_doLastQuarter_109 : decode b_P_doLastQuarter 109 = .ok (.invokevirtual 184, 3) := by decide +kernel
theorem d_P_doLastQuarter_112 : decode b_P_doLastQuarter 112 = .ok (.ireturn, 1) := by decide +kernel
theorem d_P_doLastQuarter_113 : decode b_P_doLastQuarter 113 = .ok (.aload_n 0, 1) := by decide +kernel
theorem d_P_doLastQuarter_114 : decode b_P_doLastQuarter 114 = .ok (.iload_n 1, 1) := by decide +kernel
theorem d_P_doLastQuarter_115 : decode b_P_doLastQuarter 115 = .ok (.invokevirtual 187, 3) := by decide +kernel
theorem d_P_doLastQuarter_118 : decode b_P_doLastQuarter 118 = .ok (.ireturn, 1) := by decide +kernel
theorem d_P_doLastQuarter_119 : decode b_P_doLastQuarter 119 = .ok (.aload_n 0, 1) := by decide +kernel
theorem d_P_doLastQuarter_120 : decode b_P_doLastQuarter 120 = .ok (.iload_n 1, 1) := by decide +kernel
theorem d_P_doLastQuarter_121 : decode b_P_doLastQuarter 121 = .ok (.bipush 56, 2) := by decide +kernel
theorem d_P_doLastQuarter_123 : decode b_P_doLastQuarter 123 = .ok (.iand, 1) := by decide +kernel
theorem d_P_doLastQuarter_124 : decode b_P_doLastQuarter 124 = .ok (.invokevirtual 136, 3) := by decide +kernel
theorem d_P_doLastQuarter_127 : decode b_P_doLastQuarter 127 = .ok (.bipush 11, 2) := by decide +kernel
theorem d_P_doLastQuarter_129 : decode b_P_doLastQuarter 129 = .ok (.ireturn, 1) := by decide +kernel
theorem d_P_fillPair_0 : decode b_P_fillPair 0 = .ok (.aload_n 0, 1) := by decide +kernel
theorem d_P_fillPair_1 : decode b_P_fillPair 1 = .ok (.iload_n 1, 1) := by decide +kernel
theorem d_P_fillPair_2 : decode b_P_fillPair 2 = .ok (.invokestatic 190, 3) := by decide +kernel
theorem d_P_fillPair_5 : decode b_P_fillPair 5 = .ok (.aload_n 0, 1) := by decide +kernel
theorem d_P_fillPair_6 : decode b_P_fillPair 6 = .ok (.invokevirtual 193, 3) := by decide +kernel
theorem d_P_fillPair_9 : decode b_P_fillPair 9 = .ok (.invokevirtual 196, 3) := by decide +kernel
theorem d_P_fillPair_12 : decode b_P_fillPair 12 = .ok (.bipush 10, 2) := by decide +kernel
theorem d_P_fillPair_14 : decode b_P_fillPair 14 = .ok (.ireturn, 1) := by decide +kernel
theorem d_P_addPair_0 : decode b_P_addPair 0 = .ok (.aload_n 0, 1) := by decide +kernel
theorem d_P_addPair_1 : decode b_P_addPair 1 = .ok (.iconst 2, 1) := by decide +kernel
theorem d_P_addPair_2 : decode b_P_addPair 2 = .ok (.invokevirtual 199, 3) := by decide +kernel
theorem d_P_addPair_5 : decode b_P_addPair 5 = .ok (.aload_n 0, 1) := by decide +kernel
theorem d_P_addPair_6 : decode b_P_addPair 6 = .ok (.iload_n 1, 1) := by decide +kernel
theorem d_P_addPair_7 : decode b_P_addPair 7 = .ok (.invokestatic 190, 3) := by decide +kernel
theorem d_P_addPair_10 : decode b_P_addPair 10 = .ok (.invokevirtual 199, 3) := by decide +kernel
theorem d_P_addPair_13 : decode b_P_addPair 13 = .ok (.iadd, 1) := by decide +kernel
theorem d_P_addPair_14 : decode b_P_addPair 14 = .ok (.istore_n 2, 1) := by decide +kernel
theorem d_P_addPair_15 : decode b_P_addPair 15 = .ok (.aload_n 0, 1) := by decide +kernel
theorem d_P_addPair_16 : decode b_P_addPair 16 = .ok (.getfield 19, 3) := by decide +kernel
theorem d_P_addPair_19 : decode b_P_addPair 19 = .ok (.iload_n 2, 1) := by decide +kernel
theorem d_P_addPair_20 : decode b_P_addPair 20 = .ok (.ldc 56, 2) := by decide +kernel
theorem d_P_addPair_22 : decode b_P_addPair 22 = .ok (.if_icmp .le 7, 3) := by decide +kernel
theorem d_P_addPair_25 : decode b_P_addPair 25 = .ok (.iconst 1, 1) := by decide +kernel
theorem d_P_addPair_26 : decode b_P_addPair 26 = .ok (.goto 4, 3) := by decide +kernel
theorem d_P_addPair_29 : decode b_P_addPair 29 = .ok (.iconst 0, 1) := by decide +kernel
theorem d_P_addPair_30 : decode b_P_addPair 30 = .ok (.invokevirtual 202, 3) := by decide +kernel
theorem d_P_addPair_33 : decode b_P_addPair 33 = .ok (.aload_n 0, 1) := by decide +kernel
theorem d_P_addPair_34 : decode b_P_addPair 34 = .ok (.iconst 2, 1) := by decide +kernel
theorem d_P_addPair_35 : decode b_P_addPair 35 = .ok (.iload_n 2, 1) := by decide +kernel
theorem d_P_addPair_36 : decode b_P_addPair 36 = .ok (.ldc 56, 2) := by decide +kernel
theorem d_P_addPair_38 : decode b_P_addPair 38 = .ok (.iand, 1) := by decide +kernel
theorem d_P_addPair_39 : decode b_P_addPair 39 = .ok (.invokevirtual 196, 3) := by decide +kernel
theorem d_P_addPair_42 : decode b_P_addPair 42 = .ok (.bipush 10, 2) := by decide +kernel
theorem d_P_addPair_44 : decode b_P_addPair 44 = .ok (.ireturn, 1) := by decide +kernel
theorem d_P_countPair_0 : decode b_P_countPair 0 = .ok (.iload_n 1, 1) := by decide +kernel
theorem d_P_countPair_1 : decode b_P_countPair 1 = .ok (.bipush 8, 2) := by decide +kernel
theorem d_P_countPair_3 : decode b_P_countPair 3 = .ok (.iand, 1) := by decide +kernel
theorem d_P_countPair_4 : decode b_P_countPair 4 = .ok (.ifCond .ne 7, 3) := by decide +kernel
theorem d_P_countPair_7 : decode b_P_countPair 7 = .ok (.iconst 1, 1) := by decide +kernel
theorem d_P_countPair_8 : decode b_P_countPair 8 = .ok (.goto 4, 3) := by decide +kernel
theorem d_P_countPair_11 : decode b_P_countPair 11 = .ok (.iconst (-1), 1) := by decide +kernel
theorem d_P_countPair_12 : decode b_P_countPair 12 = .ok (.istore_n 2, 1) := by decide +kernel
theorem d_P_countPair_13 : decode b_P_countPair 13 = .ok (.aload_n 0, 1) := by decide +kernel
theorem d_P_countPair_14 : decode b_P_countPair 14 = .ok (.iload_n 1, 1) := by decide +kernel
theorem d_P_countPair_15 : decode b_P_countPair 15 = .ok (.invokestatic 190, 3) := by decide +kernel
theorem d_P_countPair_18 : decode b_P_countPair 18 = .ok (.aload_n 0, 1) := by decide +kernel
theorem d_P_countPair_19 : decode b_P_countPair 19 = .ok (.iload_n 1, 1) := by decide +kernel
theorem d_P_countPair_20 : decode b_P_countPair 20 = .ok (.invokestatic 190, 3) := by decide +kernel
theorem d_P_countPair_23 : decode b_P_countPair 23 = .ok (.invokevirtual 199, 3) := by decide +kernel
theorem d_P_countPair_26 : decode b_P_countPair 26 = .ok (.iload_n 2, 1) := by decide +kernel
theorem d_P_countPair_27 : decode b_P_countPair 27 = .ok (.iadd, 1) := by decide +kernel
theorem d_P_countPair_28 : decode b_P_countPair 28 = .ok (.ldc 56, 2) := by decide +kernel
theorem d_P_countPair_30 : decode b_P_countPair 30 = .ok (.iand, 1) := by decide +kernel
theorem d_P_countPair_31 : decode b_P_countPair 31 = .ok (.invokevirtual 196, 3) := by decide +kernel
theorem d_P_countPair_34 : decode b_P_countPair 34 = .ok (.iconst 5, 1) := by decide +kernel
theorem d_P_countPair_35 : decode b_P_countPair 35 = .ok (.ireturn, 1) := by decide +kernel
theorem d_P_storeOrFetch_0 : decode b_P_storeOrFetch 0 = .ok (.iload_n 1, 1) := by decide +kernel
theorem d_P_storeOrFetch_1 : decode b_P_storeOrFetch 1 = .ok (.iconst 3, 1) := by decide +kernel
theorem d_P_storeOrFetch_2 : decode b_P_storeOrFetch 2 = .ok (.ishr, 1) := by decide +kernel
theorem d_P_storeOrFetch_3 : decode b_P_storeOrFetch 3 = .ok (.tableswitch 168 0 6 #[41, 63, 85, 107, 129, 138, 147], 41) := by decide +kernel
theorem d_P_storeOrFetch_44 : decode b_P_storeOrFetch 44 = .ok (.aload_n 0, 1) := by decide +kernel
theorem d_P_storeOrFetch_45 : decode b_P_storeOrFetch 45 = .ok (.getfield 10, 3) := by decide +kernel
theorem d_P_storeOrFetch_48 : decode b_P_storeOrFetch 48 = .ok (.aload_n 0, 1) := by decide +kernel
theorem d_P_storeOrFetch_49 : decode b_P_storeOrFetch 49 = .ok (.iconst 0, 1) := by decide +kernel
theorem d_P_storeOrFetch_50 : decode b_P_storeOrFetch 50 = .ok (.invokevirtual 199, 3) := by decide +kernel
theorem d_P_storeOrFetch_53 : decode b_P_storeOrFetch 53 = .ok (.aload_n 0, 1) := by decide +kernel
theorem d_P_storeOrFetch_54 : decode b_P_storeOrFetch 54 = .ok (.getfield 23, 3) := by decide +kernel
theorem d_P_storeOrFetch_57 : decode b_P_storeOrFetch 57 = .ok (.bipush 7, 2) := by decide +kernel
theorem d_P_storeOrFetch_59 : decode b_P_storeOrFetch 59 = .ok (.iaload, 1) := by decide +kernel
theorem d_P_storeOrFetch_60 : decode b_P_storeOrFetch 60 = .ok (.invokevirtual 46, 3) := by decide +kernel
theorem d_P_storeOrFetch_63 : decode b_P_storeOrFetch 63 = .ok (.bipush 7, 2) := by decide +kernel
theorem d_P_storeOrFetch_65 : decode b_P_storeOrFetch 65 = .ok (.ireturn, 1) := by decide +kernel
theorem d_P_storeOrFetch_66 : decode b_P_storeOrFetch 66 = .ok (.aload_n 0, 1) := by decide +kernel
theorem d_P_storeOrFetch_67 : decode b_P_storeOrFetch 67 = .ok (.getfield 23, 3) := by decide +kernel
theorem d_P_storeOrFetch_70 : decode b_P_storeOrFetch 70 = .ok (.bipush 7, 2) := by decide +kernel
theorem d_P_storeOrFetch_72 : decode b_P_storeOrFetch 72 = .ok (.aload_n 0, 1) := by decide +kernel
theorem d_P_storeOrFetch_73 : decode b_P_storeOrFetch 73 = .ok (.getfield 10, 3) := by decide +kernel
theorem d_P_storeOrFetch_76 : decode b_P_storeOrFetch 76 = .ok (.aload_n 0, 1) := by decide +kernel
theorem d_P_storeOrFetch_77 : decode b_P_storeOrFetch 77 = .ok (.iconst 0, 1) := by decide +kernel
theorem d_P_storeOrFetch_78 : decode b_P_storeOrFetch 78 = .ok (.invokevirtual 199, 3) := by decide +kernel
theorem d_P_storeOrFetch_81 : decode b_P_storeOrFetch 81 = .ok (.invokevirtual 52, 3) := by decide +kernel
theorem d_P_storeOrFetch_84 : decode b_P_storeOrFetch 84 = .ok (.iastore, 1) := by decide +kernel
theorem d_P_storeOrFetch_85 : decode b_P_storeOrFetch 85 = .ok (.bipush 7, 2) := by decide +kernel
theorem d_P_storeOrFetch_87 : decode b_P_storeOrFetch 87 = .ok (.ireturn, 1) := by decide +kernel
theorem d_P_storeOrFetch_88 : decode b_P_storeOrFetch 88 = .ok (.aload_n 0, 1) := by decide +kernel
theorem d_P_storeOrFetch_89 : decode b_P_storeOrFetch 89 = .ok (.getfield 10, 3) := by decide +kernel
theorem d_P_storeOrFetch_92 : decode b_P_storeOrFetch 92 = .ok (.aload_n 0, 1) := by decide +kernel
theorem d_P_storeOrFetch_93 : decode b_P_storeOrFetch 93 = .ok (.iconst 1, 1) := by decide +kernel
theorem d_P_storeOrFetch_94 : decode b_P_storeOrFetch 94 = .ok (.invokevirtual 199, 3) := by decide +kernel
theorem d_P_storeOrFetch_97 : decode b_P_storeOrFetch 97 = .ok (.aload_n 0, 1) := by decide +kernel
theorem d_P_storeOrFetch_98 : decode b_P_storeOrFetch 98 = .ok (.getfield 23, 3) := by decide +kernel
theorem d_P_storeOrFetch_101 : decode b_P_storeOrFetch 101 = .ok (.bipush 7, 2) := by decide +kernel
theorem d_P_storeOrFetch_103 : decode b_P_storeOrFetch 103 = .ok (.iaload, 1) := by decide +kernel
theorem d_P_storeOrFetch_104 : decode b_P_storeOrFetch 104 = .ok (.invokevirtual 46, 3) := by decide +kernel
theorem d_P_storeOrFetch_107 : decode b_P_storeOrFetch 107 = .ok (.bipush 7, 2) := by decide +kernel
theorem d_P_storeOrFetch_109 : decode b_P_storeOrFetch 109 = .ok (.ireturn, 1) := by decide +kernel
theorem d_P_storeOrFetch_110 : decode b_P_storeOrFetch 110 = .ok (.aload_n 0, 1) := by decide +kernel
theorem d_P_storeOrFetch_111 : decode b_P_storeOrFetch 111 = .ok (.getfield 23, 3) := by decide +kernel
theorem d_P_storeOrFetch_114 : decode b_P_storeOrFetch 114 = .ok (.bipush 7, 2) := by decide +kernel
theorem d_P_storeOrFetch_116 : decode b_P_storeOrFetch 116 = .ok (.aload_n 0, 1) := by decide +kernel
theorem d_P_storeOrFetch_117 : decode b_P_storeOrFetch 117 = .ok (.getfield 10, 3) := by decide +kernel
theorem d_P_storeOrFetch_120 : decode b_P_storeOrFetch 120 = .ok (.aload_n 0, 1) := by decide +kernel
theorem d_P_storeOrFetch_121 : decode b_P_storeOrFetch 121 = .ok (.iconst 1, 1) := by decide +kernel
theorem d_P_storeOrFetch_122 : decode b_P_storeOrFetch 122 = .ok (.invokevirtual 199, 3) := by decide +kernel
theorem d_P_storeOrFetch_125 : decode b_P_storeOrFetch 125 = .ok (.invokevirtual 52, 3) := by decide +kernel
theorem d_P_storeOrFetch_128 : decode b_P_storeOrFetch 128 = .ok (.iastore, 1) := by decide +kernel
theorem d_P_storeOrFetch_129 : decode b_P_storeOrFetch 129 = .ok (.bipush 7, 2) := by decide +kernel
theorem d_P_storeOrFetch_131 : decode b_P_storeOrFetch 131 = .ok (.ireturn, 1) := by decide +kernel
theorem d_P_storeOrFetch_132 : decode b_P_storeOrFetch 132 = .ok (.aload_n 0, 1) := by decide +kernel
theorem d_P_storeOrFetch_133 : decode b_P_storeOrFetch 133 = .ok (.aload_n 0, 1) := by decide +kernel
theorem d_P_storeOrFetch_134 : decode b_P_storeOrFetch 134 = .ok (.invokevirtual 193, 3) := by decide +kernel
theorem d_P_storeOrFetch_137 : decode b_P_storeOrFetch 137 = .ok (.invokevirtual 206, 3) := by decide +kernel
theorem d_P_storeOrFetch_140 : decode b_P_storeOrFetch 140 = .ok (.ireturn, 1) := by decide +kernel
theorem d_P_storeOrFetch_141 : decode b_P_storeOrFetch 141 = .ok (.aload_n 0, 1) := by decide +kernel
theorem d_P_storeOrFetch_142 : decode b_P_storeOrFetch 142 = .ok (.aload_n 0, 1) := by decide +kernel
theorem d_P_storeOrFetch_143 : decode b_P_storeOrFetch 143 = .ok (.invokevirtual 193, 3) := by decide +kernel
theorem d_P_storeOrFetch_146 : decode b_P_storeOrFetch 146 = .ok (.invokevirtual 209, 3) := by decide +kernel
theorem d_P_storeOrFetch_149 : decode b_P_storeOrFetch 149 = .ok (.ireturn, 1) := by decide +kernel
theorem d_P_storeOrFetch_150 : decode b_P_storeOrFetch 150 = .ok (.aload_n 0, 1) := by decide +kernel
theorem d_P_storeOrFetch_151 : decode b_P_storeOrFetch 151 = .ok (.getfield 10, 3) := by decide +kernel
theorem d_P_storeOrFetch_154 : decode b_P_storeOrFetch 154 = .ok (.aload_n 0, 1) := by decide +kernel
theorem d_P_storeOrFetch_155 : decode b_P_storeOrFetch 155 = .ok (.invokevirtual 193, 3) := by decide +kernel
theorem d_P_storeOrFetch_158 : decode b_P_storeOrFetch 158 = .ok (.aload_n 0, 1) := by decide +kernel
theorem d_P_storeOrFetch_159 : decode b_P_storeOrFetch 159 = .ok (.getfield 23, 3) := by decide +kernel
theorem d_P_storeOrFetch_162 : decode b_P_storeOrFetch 162 = .ok (.bipush 7, 2) := by decide +kernel
theorem d_P_storeOrFetch_164 : decode b_P_storeOrFetch 164 = .ok (.iaload, 1) := by decide +kernel
theorem d_P_storeOrFetch_165 : decode b_P_storeOrFetch 165 = .ok (.invokevirtual 46, 3) := by decide +kernel
theorem d_P_storeOrFetch_168 : decode b_P_storeOrFetch 168 = .ok (.bipush 13, 2) := by decide +kernel
theorem d_P_storeOrFetch_170 : decode b_P_storeOrFetch 170 = .ok (.ireturn, 1) := by decide +kernel
theorem d_P_storeOrFetch_171 : decode b_P_storeOrFetch 171 = .ok (.aload_n 0, 1) := by decide +kernel
theorem d_P_storeOrFetch_172 : decode b_P_storeOrFetch 172 = .ok (.getfield 23, 3) := by decide +kernel
theorem d_P_storeOrFetch_175 : decode b_P_storeOrFetch 175 = .ok (.bipush 7, 2) := by decide +kernel
theorem d_P_storeOrFetch_177 : decode b_P_storeOrFetch 177 = .ok (.aload_n 0, 1) := by decide +kernel
theorem d_P_storeOrFetch_178 : decode b_P_storeOrFetch 178 = .ok (.getfield 10, 3) := by decide +kernel
theorem d_P_storeOrFetch_181 : decode b_P_storeOrFetch 181 = .ok (.aload_n 0, 1) := by decide +kernel
theorem d_P_storeOrFetch_182 : decode b_P_storeOrFetch 182 = .ok (.invokevirtual 193, 3) := by decide +kernel
theorem d_P_storeOrFetch_185 : decode b_P_storeOrFetch 185 = .ok (.invokevirtual 52, 3) := by decide +kernel
theorem d_P_storeOrFetch_188 : decode b_P_storeOrFetch 188 = .ok (.iastore, 1) := by decide +kernel
theorem d_P_storeOrFetch_189 : decode b_P_storeOrFetch 189 = .ok (.bipush 13, 2) := by decide +kernel
theorem d_P_storeOrFetch_191 : decode b_P_storeOrFetch 191 = .ok (.ireturn, 1) := by decide +kernel
theorem d_P_storeHl_0 : decode b_P_storeHl 0 = .ok (.aload_n 0, 1) := by decide +kernel
theorem d_P_storeHl_1 : decode b_P_storeHl 1 = .ok (.getfield 10, 3) := by decide +kernel
theorem d_P_storeHl_4 : decode b_P_storeHl 4 = .ok (.iload_n 1, 1) := by decide +kernel
theorem d_P_storeHl_5 : decode b_P_storeHl 5 = .ok (.aload_n 0, 1) := by decide +kernel
theorem d_P_storeHl_6 : decode b_P_storeHl 6 = .ok (.getfield 23, 3) := by decide +kernel
theorem d_P_storeHl_9 : decode b_P_storeHl 9 = .ok (.iconst 5, 1) := by decide +kernel
theorem d_P_storeHl_10 : decode b_P_storeHl 10 = .ok (.iaload, 1) := by decide +kernel
theorem d_P_storeHl_11 : decode b_P_storeHl 11 = .ok (.invokevirtual 46, 3) := by decide +kernel
theorem d_P_storeHl_14 : decode b_P_storeHl 14 = .ok (.aload_n 0, 1) := by decide +kernel
theorem d_P_storeHl_15 : decode b_P_storeHl 15 = .ok (.getfield 10, 3) := by decide +kernel
theorem d_P_storeHl_18 : decode b_P_storeHl 18 = .ok (.iload_n 1, 1) := by decide +kernel
theorem d_P_storeHl_19 : decode b_P_storeHl 19 = .ok (.iconst 1, 1) := by decide +kernel
theorem d_P_storeHl_20 : decode b_P_storeHl 20 = .ok (.iadd, 1) := by decide +kernel
theorem d_P_storeHl_21 : decode b_P_storeHl 21 = .ok (.ldc 56, 2) := by decide +kernel
theorem d_P_storeHl_23 : decode b_P_storeHl 23 = .ok (.iand, 1) := by decide +kernel
theorem d_P_storeHl_24 : decode b_P_storeHl 24 = .ok (.aload_n 0, 1) := by decide +kernel
theorem d_P_storeHl_25 : decode b_P_storeHl 25 = .ok (.getfield 23, 3) := by decide +kernel
theorem d_P_storeHl_28 : decode b_P_storeHl 28 = .ok (.iconst 4, 1) := by decide +kernel
theorem d_P_storeHl_29 : decode b_P_storeHl 29 = .ok (.iaload, 1) := by decide +kernel
theorem d_P_storeHl_30 : decode b_P_storeHl 30 = .ok (.invokevirtual 46, 3) := by decide +kernel
theorem d_P_storeHl_33 : decode b_P_storeHl 33 = .ok (.bipush 16, 2) := by decide +kernel
theorem d_P_storeHl_35 : decode b_P_storeHl 35 = .ok (.ireturn, 1) := by decide +kernel
theorem d_P_fetchHl_0 : decode b_P_fetchHl 0 = .ok (.aload_n 0, 1) := by decide +kernel
theorem d_P_fetchHl_1 : decode b_P_fetchHl 1 = .ok (.getfield 23, 3) := by decide +kernel
theorem d_P_fetchHl_4 : decode b_P_fetchHl 4 = .ok (.iconst 5, 1) := by decide +kernel
theorem d_P_fetchHl_5 : decode b_P_fetchHl 5 = .ok (.aload_n 0, 1) := by decide +kernel
theorem d_P_fetchHl_6 : decode b_P_fetchHl 6 = .ok (.getfield 10, 3) := by decide +kernel
theorem d_P_fetchHl_9 : decode b_P_fetchHl 9 = .ok (.iload_n 1, 1) := by decide +kernel
theorem d_P_fetchHl_10 : decode b_P_fetchHl 10 = .ok (.invokevirtual 52, 3) := by decide +kernel
theorem d_P_fetchHl_13 : decode b_P_fetchHl 13 = .ok (.iastore, 1) := by decide +kernel
theorem d_P_fetchHl_14 : decode b_P_fetchHl 14 = .ok (.aload_n 0, 1) := by decide +kernel
theorem d_P_fetchHl_15 : decode b_P_fetchHl 15 = .ok (.getfield 23, 3) := by decide +kernel
theorem d_P_fetchHl_18 : decode b_P_fetchHl 18 = .ok (.iconst 4, 1) := by decide +kernel
theorem d_P_fetchHl_19 : decode b_P_fetchHl 19 = .ok (.aload_n 0, 1) := by decide +kernel
theorem d_P_fetchHl_20 : decode b_P_fetchHl 20 = .ok (.getfield 10, 3) := by decide +kernel
theorem d_P_fetchHl_23 : decode b_P_fetchHl 23 = .ok (.iload_n 1, 1) := by decide +kernel
theorem d_P_fetchHl_24 : decode b_P_fetchHl 24 = .ok (.iconst 1, 1) := by decide +kernel
theorem d_P_fetchHl_25 : decode b_P_fetchHl 25 = .ok (.iadd, 1) := by decide +kernel
theorem d_P_fetchHl_26 : decode b_P_fetchHl 26 = .ok (.ldc 56, 2) := by decide +kernel
theorem d_P_fetchHl_28 : decode b_P_fetchHl 28 = .ok (.iand, 1) := by decide +kernel
theorem d_P_fetchHl_29 : decode b_P_fetchHl 29 = .ok (.invokevirtual 52, 3) := by decide +kernel
theorem d_P_fetchHl_32 : decode b_P_fetchHl 32 = .ok (.iastore, 1) := by decide +kernel
theorem d_P_fetchHl_33 : decode b_P_fetchHl 33 = .ok (.bipush 16, 2) := by decide +kernel
theorem d_P_fetchHl_35 : decode b_P_fetchHl 35 = .ok (.ireturn, 1) := by decide +kernel
theorem d_P_raise_0 : decode b_P_raise 0 = .ok (.iload_n 1, 1) := by decide +kernel
theorem d_P_raise_1 : decode b_P_raise 1 = .ok (.invokestatic 212, 3) := by decide +kernel
theorem d_P_raise_4 : decode b_P_raise 4 = .ok (.istore_n 2, 1) := by decide +kernel
theorem d_P_raise_5 : decode b_P_raise 5 = .ok (.aload_n 0, 1) := by decide +kernel
theorem d_P_raise_6 : decode b_P_raise 6 = .ok (.iload_n 2, 1) := by decide +kernel
theorem d_P_raise_7 : decode b_P_raise 7 = .ok (.aload_n 0, 1) := by decide +kernel
theorem d_P_raise_8 : decode b_P_raise 8 = .ok (.getfield 19, 3) := by decide +kernel
theorem d_P_raise_11 : decode b_P_raise 11 = .ok (.aload_n 0, 1) := by decide +kernel
theorem d_P_raise_12 : decode b_P_raise 12 = .ok (.iload_n 2, 1) := by decide +kernel
theorem d_P_raise_13 : decode b_P_raise 13 = .ok (.invokevirtual 91, 3) := by decide +kernel
theorem d_P_raise_16 : decode b_P_raise 16 = .ok (.invokevirtual 215, 3) := by decide +kernel
theorem d_P_raise_19 : decode b_P_raise 19 = .ok (.invokevirtual 218, 3) := by decide +kernel
theorem d_P_raise_22 : decode b_P_raise 22 = .ok (.iload_n 2, 1) := by decide +kernel
theorem d_P_raise_23 : decode b_P_raise 23 = .ok (.bipush 6, 2) := by decide +kernel
theorem d_P_raise_25 : decode b_P_raise 25 = .ok (.if_icmp .ne 8, 3) := by decide +kernel
theorem d_P_raise_28 : decode b_P_raise 28 = .ok (.bipush 10, 2) := by decide +kernel
theorem d_P_raise_30 : decode b_P_raise 30 = .ok (.goto 4, 3) := by decide +kernel
theorem d_P_raise_33 : decode b_P_raise 33 = .ok (.iconst 5, 1) := by decide +kernel
theorem d_P_raise_34 : decode b_P_raise 34 = .ok (.ireturn, 1) := by decide +kernel
theorem d_P_lower_0 : decode b_P_lower 0 = .ok (.iload_n 1, 1) := by decide +kernel
theorem d_P_lower_1 : decode b_P_lower 1 = .ok (.invokestatic 212, 3) := by decide +kernel
theorem d_P_lower_4 : decode b_P_lower 4 = .ok (.istore_n 2, 1) := by decide +kernel
theorem d_P_lower_5 : decode b_P_lower 5 = .ok (.aload_n 0, 1) := by decide +kernel
theorem d_P_lower_6 : decode b_P_lower 6 = .ok (.iload_n 2, 1) := by decide +kernel
theorem d_P_lower_7 : decode b_P_lower 7 = .ok (.aload_n 0, 1) := by decide +kernel
theorem d_P_lower_8 : decode b_P_lower 8 = .ok (.getfield 19, 3) := by decide +kernel
theorem d_P_lower_11 : decode b_P_lower 11 = .ok (.aload_n 0, 1) := by decide +kernel
theorem d_P_lower_12 : decode b_P_lower 12 = .ok (.iload_n 2, 1) := by decide +kernel
theorem d_P_lower_13 : decode b_P_lower 13 = .ok (.invokevirtual 91, 3) := by decide +kernel
theorem d_P_lower_16 : decode b_P_lower 16 = .ok (.invokevirtual 221, 3) := by decide +kernel
theorem d_P_lower_19 : decode b_P_lower 19 = .ok (.invokevirtual 218, 3) := by decide +kernel
theorem d_P_lower_22 : decode b_P_lower 22 = .ok (.iload_n 2, 1) := by decide +kernel
theorem d_P_lower_23 : decode b_P_lower 23 = .ok (.bipush 6, 2) := by decide +kernel
theorem d_P_lower_25 : decode b_P_lower 25 = .ok (.if_icmp .ne 8, 3) := by decide +kernel
theorem d_P_lower_28 : decode b_P_lower 28 = .ok (.bipush 10, 2) := by decide +kernel
theorem d_P_lower_30 : decode b_P_lower 30 = .ok (.goto 4, 3) := by decide +kernel
theorem d_P_lower_33 : decode b_P_lower 33 = .ok (.iconst 5, 1) := by decide +kernel
theorem d_P_lower_34 : decode b_P_lower 34 = .ok (.ireturn, 1) := by decide +kernel
theorem d_P_fillRegister_0 : decode b_P_fillRegister 0 = .ok (.iload_n 1, 1) := by decide +kernel
theorem d_P_fillRegister_1 : decode b_P_fillRegister 1 = .ok (.invokestatic 212, 3) := by decide +kernel
theorem d_P_fillRegister_4 : decode b_P_fillRegister 4 = .ok (.istore_n 2, 1) := by decide +kernel
theorem d_P_fillRegister_5 : decode b_P_fillRegister 5 = .ok (.aload_n 0, 1) := by decide +kernel
theorem d_P_fillRegister_6 : decode b_P_fillRegister 6 = .ok (.iload_n 2, 1) := by decide +kernel
theorem d_P_fillRegister_7 : decode b_P_fillRegister 7 = .ok (.aload_n 0, 1) := by decide +kernel
theorem d_P_fillRegister_8 : decode b_P_fillRegister 8 = .ok (.invokevirtual 121, 3) := by decide +kernel
theorem d_P_fillRegister_11 : decode b_P_fillRegister 11 = .ok (.invokevirtual 218, 3) := by decide +kernel
theorem d_P_fillRegister_14 : decode b_P_fillRegister 14 = .ok (.iload_n 2, 1) := by decide +kernel
theorem d_P_fillRegister_15 : decode b_P_fillRegister 15 = .ok (.bipush 6, 2) := by decide +kernel
theorem d_P_fillRegister_17 : decode b_P_fillRegister 17 = .ok (.if_icmp .ne 8, 3) := by decide +kernel
theorem d_P_fillRegister_20 : decode b_P_fillRegister 20 = .ok (.bipush 10, 2) := by decide +kernel
theorem d_P_fillRegister_22 : decode b_P_fillRegister 22 = .ok (.goto 5, 3) := by decide +kernel
theorem d_P_fillRegister_25 : decode b_P_fillRegister 25 = .ok (.bipush 7, 2) := by decide +kernel
theorem d_P_fillRegister_27 : decode b_P_fillRegister 27 = .ok (.ireturn, 1) := by decide +kernel
theorem d_P_workOnA_0 : decode b_P_workOnA 0 = .ok (.aload_n 0, 1) := by decide +kernel
theorem d_P_workOnA_1 : decode b_P_workOnA 1 = .ok (.getfield 23, 3) := by decide +kernel
theorem d_P_workOnA_4 : decode b_P_workOnA 4 = .ok (.bipush 7, 2) := by decide +kernel
theorem d_P_workOnA_6 : decode b_P_workOnA 6 = .ok (.iaload, 1) := by decide +kernel
theorem d_P_workOnA_7 : decode b_P_workOnA 7 = .ok (.istore_n 2, 1) := by decide +kernel
theorem d_P_workOnA_8 : decode b_P_workOnA 8 = .ok (.iload_n 1, 1) := by decide +kernel
theorem d_P_workOnA_9 : decode b_P_workOnA 9 = .ok (.iconst 3, 1) := by decide +kernel
theorem d_P_workOnA_10 : decode b_P_workOnA 10 = .ok (.ishr, 1) := by decide +kernel
theorem d_P_workOnA_11 : decode b_P_workOnA 11 = .ok (.tableswitch 178 0 6 #[41, 63, 84, 109, 134, 152, 167], 41) := by decide +kernel
theorem d_P_workOnA_52 : decode b_P_workOnA 52 = .ok (.aload_n 0, 1) := by decide +kernel
theorem d_P_workOnA_53 : decode b_P_workOnA 53 = .ok (.getfield 23, 3) := by decide +kernel
theorem d_P_workOnA_56 : decode b_P_workOnA 56 = .ok (.bipush 7, 2) := by decide +kernel
theorem d_P_workOnA_58 : decode b_P_workOnA 58 = .ok (.aload_n 0, 1) := by decide +kernel
theorem d_P_workOnA_59 : decode b_P_workOnA 59 = .ok (.getfield 19, 3) := by decide +kernel
theorem d_P_workOnA_62 : decode b_P_workOnA 62 = .ok (.iload_n 2, 1) := by decide +kernel
theorem d_P_workOnA_63 : decode b_P_workOnA 63 = .ok (.iload_n 2, 1) := by decide +kernel
theorem d_P_workOnA_64 : decode b_P_workOnA 64 = .ok (.bipush 7, 2) := by decide +kernel
theorem d_P_workOnA_66 : decode b_P_workOnA 66 = .ok (.ishr, 1) := by decide +kernel
theorem d_P_workOnA_67 : decode b_P_workOnA 67 = .ok (.invokevirtual 224, 3) := by decide +kernel
theorem d_P_workOnA_70 : decode b_P_workOnA 70 = .ok (.iastore, 1) := by decide +kernel
theorem d_P_workOnA_71 : decode b_P_workOnA 71 = .ok (.goto 140, 3) := by decide +kernel
theorem d_P_workOnA_74 : decode b_P_workOnA 74 = .ok (.aload_n 0, 1) := by decide +kernel
theorem d_P_workOnA_75 : decode b_P_workOnA 75 = .ok (.getfield 23, 3) := by decide +kernel
theorem d_P_workOnA_78 : decode b_P_workOnA 78 = .ok (.bipush 7, 2) := by decide +kernel
theorem d_P_workOnA_80 : decode b_P_workOnA 80 = .ok (.aload_n 0, 1) := by decide +kernel
theorem d_P_workOnA_81 : decode b_P_workOnA 81 = .ok (.getfield 19, 3) := by decide +kernel
theorem d_P_workOnA_84 : decode b_P_workOnA 84 = .ok (.iload_n 2, 1) := by decide +kernel
theorem d_P_workOnA_85 : decode b_P_workOnA 85 = .ok (.iload_n 2, 1) := by decide +kernel
theorem d_P_workOnA_86 : decode b_P_workOnA 86 = .ok (.iconst 1, 1) := by decide +kernel
theorem d_P_workOnA_87 : decode b_P_workOnA 87 = .ok (.iand, 1) := by decide +kernel
theorem d_P_workOnA_88 : decode b_P_workOnA 88 = .ok (.invokevirtual 228, 3) := by decide +kernel
theorem d_P_workOnA_91 : decode b_P_workOnA 91 = .ok (.iastore, 1) := by decide +kernel
theorem d_P_workOnA_92 : decode b_P_workOnA 92 = .ok (.goto 119, 3) := by decide +kernel
theorem d_P_workOnA_95 : decode b_P_workOnA 95 = .ok (.aload_n 0, 1) := by decide +kernel
theorem d_P_workOnA_96 : decode b_P_workOnA 96 = .ok (.getfield 23, 3) := by decide +kernel
theorem d_P_workOnA_99 : decode b_P_workOnA 99 = .ok (.bipush 7, 2) := by decide +kernel
theorem d_P_workOnA_101 : decode b_P_workOnA 101 = .ok (.aload_n 0, 1) := by decide +kernel
theorem d_P_workOnA_102 : decode b_P_workOnA 102 = .ok (.getfield 19, 3) := by decide +kernel
theorem d_P_workOnA_105 : decode b_P_workOnA 105 = .ok (.iload_n 2, 1) := by decide +kernel
theorem d_P_workOnA_106 : decode b_P_workOnA 106 = .ok (.aload_n 0, 1) := by decide +kernel
theorem d_P_workOnA_107 : decode b_P_workOnA 107 = .ok (.getfield 19, 3) := by decide +kernel
theorem d_P_workOnA_110 : decode b_P_workOnA 110 = .ok (.invokevirtual 231, 3) := by decide +kernel
theorem d_P_workOnA_113 : decode b_P_workOnA 113 = .ok (.invokevirtual 224, 3) := by decide +kernel
theorem d_P_workOnA_116 : decode b_P_workOnA 116 = .ok (.iastore, 1) := by decide +kernel
theorem d_P_workOnA_117 : decode b_P_workOnA 117 = .ok (.goto 94, 3) := by decide +kernel
theorem d_P_workOnA_120 : decode b_P_workOnA 120 = .ok (.aload_n 0, 1) := by decide +kernel
theorem d_P_workOnA_121 : decode b_P_workOnA 121 = .ok (.getfield 23, 3) := by decide +kernel
theorem d_P_workOnA_124 : decode b_P_workOnA 124 = .ok (.bipush 7, 2) := by decide +kernel
theorem d_P_workOnA_126 : decode b_P_workOnA 126 = .ok (.aload_n 0, 1) := by decide +kernel
theorem d_P_workOnA_127 : decode b_P_workOnA 127 = .ok (.getfield 19, 3) := by decide +kernel
theorem d_P_workOnA_130 : decode b_P_workOnA 130 = .ok (.iload_n 2, 1) := by decide +kernel
theorem d_P_workOnA_131 : decode b_P_workOnA 131 = .ok (.aload_n 0, 1) := by decide +kernel
theorem d_P_workOnA_132 : decode b_P_workOnA 132 = .ok (.getfield 19, 3) := by decide +kernel
theorem d_P_workOnA_135 : decode b_P_workOnA 135 = .ok (.invokevirtual 231, 3) := by decide +kernel
theorem d_P_workOnA_138 : decode b_P_workOnA 138 = .ok (.invokevirtual 228, 3) := by decide +kernel
theorem d_P_workOnA_141 : decode b_P_workOnA 141 = .ok (.iastore, 1) := by decide +kernel
theorem d_P_workOnA_142 : decode b_P_workOnA 142 = .ok (.goto 69, 3) := by decide +kernel
theorem d_P_workOnA_145 : decode b_P_workOnA 145 = .ok (.aload_n 0, 1) := by decide +kernel
theorem d_P_workOnA_146 : decode b_P_workOnA 146 = .ok (.getfield 23, 3) := by decide +kernel
theorem d_P_workOnA_149 : decode b_P_workOnA 149 = .ok (.bipush 7, 2) := by decide +kernel
theorem d_P_workOnA_151 : decode b_P_workOnA 151 = .ok (.aload_n 0, 1) := by decide +kernel
theorem d_P_workOnA_152 : decode b_P_workOnA 152 = .ok (.getfield 19, 3) := by decide +kernel
theorem d_P_workOnA_155 : decode b_P_workOnA 155 = .ok (.iload_n 2, 1) := by decide +kernel
theorem d_P_workOnA_156 : decode b_P_workOnA 156 = .ok (.invokevirtual 234, 3) := by decide +kernel
theorem d_P_workOnA_159 : decode b_P_workOnA 159 = .ok (.iastore, 1) := by decide +kernel
theorem d_P_workOnA_160 : decode b_P_workOnA 160 = .ok (.goto 51, 3) := by decide +kernel
theorem d_P_workOnA_163 : decode b_P_workOnA 163 = .ok (.aload_n 0, 1) := by decide +kernel
theorem d_P_workOnA_164 : decode b_P_workOnA 164 = .ok (.getfield 23, 3) := by decide +kernel
theorem d_P_workOnA_167 : decode b_P_workOnA 167 = .ok (.bipush 7, 2) := by decide +kernel
theorem d_P_workOnA_169 : decode b_P_workOnA 169 = .ok (.sipush 255, 3) := by decide +kernel
theorem d_P_workOnA_172 : decode b_P_workOnA 172 = .ok (.iload_n 2, 1) := by decide +kernel
theorem d_P_workOnA_173 : decode b_P_workOnA 173 = .ok (.isub, 1) := by decide +kernel
theorem d_P_workOnA_174 : decode b_P_workOnA 174 = .ok (.iastore, 1) := by decide +kernel
theorem d_P_workOnA_175 : decode b_P_workOnA 175 = .ok (.goto 36, 3) := by decide +kernel
theorem d_P_workOnA_178 : decode b_P_workOnA 178 = .ok (.aload_n 0, 1) := by decide +kernel
theorem d_P_workOnA_179 : decode b_P_workOnA 179 = .ok (.getfield 19, 3) := by decide +kernel
theorem d_P_workOnA_182 : decode b_P_workOnA 182 = .ok (.iconst 1, 1) := by decide +kernel
theorem d_P_workOnA_183 : decode b_P_workOnA 183 = .ok (.invokevirtual 202, 3) := by decide +kernel
theorem d_P_workOnA_186 : decode b_P_workOnA 186 = .ok (.goto 25, 3) := by decide +kernel
theorem d_P_workOnA_189 : decode b_P_workOnA 189 = .ok (.aload_n 0, 1) := by decide +kernel
theorem d_P_workOnA_190 : decode b_P_workOnA 190 = .ok (.getfield 19, 3) := by decide +kernel
theorem d_P_workOnA_193 : decode b_P_workOnA 193 = .ok (.aload_n 0, 1) := by decide +kernel
theorem d_P_workOnA_194 : decode b_P_workOnA 194 = .ok (.getfield 19, 3) := by decide +kernel
theorem d_P_workOnA_197 : decode b_P_workOnA 197 = .ok (.invokevirtual 231, 3) := by decide +kernel
theorem d_P_workOnA_200 : decode b_P_workOnA 200 = .ok (.ifCond .ne 7, 3) := by decide +kernel
theorem d_P_workOnA_203 : decode b_P_workOnA 203 = .ok (.iconst 1, 1) := by decide +kernel
theorem d_P_workOnA_204 : decode b_P_workOnA 204 = .ok (.goto 4, 3) := by decide +kernel
theorem d_P_workOnA_207 : decode b_P_workOnA 207 = .ok (.iconst 0, 1) := by decide +kernel
theorem d_P_workOnA_208 : decode b_P_workOnA 208 = .ok (.invokevirtual 202, 3) := by decide +kernel
theorem d_P_workOnA_211 : decode b_P_workOnA 211 = .ok (.iconst 4, 1) := by decide +kernel
theorem d_P_workOnA_212 : decode b_P_workOnA 212 = .ok (.ireturn, 1) := by decide +kernel
theorem d_P_move_0 : decode b_P_move 0 = .ok (.iload_n 1, 1) := by decide +kernel
theorem d_P_move_1 : decode b_P_move 1 = .ok (.bipush 118, 2) := by decide +kernel
theorem d_P_move_3 : decode b_P_move 3 = .ok (.if_icmp .ne 11, 3) := by decide +kernel
theorem d_P_move_6 : decode b_P_move 6 = .ok (.aload_n 0, 1) := by decide +kernel
theorem d_P_move_7 : decode b_P_move 7 = .ok (.iconst 1, 1) := by decide +kernel
theorem d_P_move_8 : decode b_P_move 8 = .ok (.putfield 62, 3) := by decide +kernel
theorem d_P_move_11 : decode b_P_move 11 = .ok (.bipush 7, 2) := by decide +kernel
theorem d_P_move_13 : decode b_P_move 13 = .ok (.ireturn, 1) := by decide +kernel
theorem d_P_move_14 : decode b_P_move 14 = .ok (.iload_n 1, 1) := by decide +kernel
theorem d_P_move_15 : decode b_P_move 15 = .ok (.invokestatic 212, 3) := by decide +kernel
theorem d_P_move_18 : decode b_P_move 18 = .ok (.istore_n 2, 1) := by decide +kernel
theorem d_P_move_19 : decode b_P_move 19 = .ok (.iload_n 1, 1) := by decide +kernel
theorem d_P_move_20 : decode b_P_move 20 = .ok (.bipush 7, 2) := by decide +kernel
theorem d_P_move_22 : decode b_P_move 22 = .ok (.iand, 1) := by decide +kernel
theorem d_P_move_23 : decode b_P_move 23 = .ok (.istore_n 3, 1) := by decide +kernel
theorem d_P_move_24 : decode b_P_move 24 = .ok (.aload_n 0, 1) := by decide +kernel
theorem d_P_move_25 : decode b_P_move 25 = .ok (.iload_n 2, 1) := by decide +kernel
theorem d_P_move_26 : decode b_P_move 26 = .ok (.aload_n 0, 1) := by decide +kernel
theorem d_P_move_27 : decode b_P_move 27 = .ok (.iload_n 3, 1) := by decide +kernel
theorem d_P_move_28 : decode b_P_move 28 = .ok (.invokevirtual 91, 3) := by decide +kernel
theorem d_P_move_31 : decode b_P_move 31 = .ok (.invokevirtual 218, 3) := by decide +kernel
theorem d_P_move_34 : decode b_P_move 34 = .ok (.iload_n 2, 1) := by decide +kernel
theorem d_P_move_35 : decode b_P_move 35 = .ok (.bipush 6, 2) := by decide +kernel
theorem d_P_move_37 : decode b_P_move 37 = .ok (.if_icmp .eq 9, 3) := by decide +kernel
theorem d_P_move_40 : decode b_P_move 40 = .ok (.iload_n 3, 1) := by decide +kernel
theorem d_P_move_41 : decode b_P_move 41 = .ok (.bipush 6, 2) := by decide +kernel
theorem d_P_move_43 : decode b_P_move 43 = .ok (.if_icmp .ne 8, 3) := by decide +kernel
theorem d_P_move_46 : decode b_P_move 46 = .ok (.bipush 7, 2) := by decide +kernel
theorem d_P_move_48 : decode b_P_move 48 = .ok (.goto 4, 3) := by decide +kernel
theorem d_P_move_51 : decode b_P_move 51 = .ok (.iconst 5, 1) := by decide +kernel
theorem d_P_move_52 : decode b_P_move 52 = .ok (.ireturn, 1) := by decide +kernel
theorem d_P_combineWithRegister_0 : decode b_P_combineWithRegister 0 = .ok (.iload_n 1, 1) := by decide +kernel
theorem d_P_combineWithRegister_1 : decode b_P_combineWithRegister 1 = .ok (.bipush 7, 2) := by decide +kernel
theorem d_P_combineWithRegister_3 : decode b_P_combineWithRegister 3 = .ok (.iand, 1) := by decide +kernel
theorem d_P_combineWithRegister_4 : decode b_P_combineWithRegister 4 = .ok (.istore_n 2, 1) := by decide +kernel
theorem d_P_combineWithRegister_5 : decode b_P_combineWithRegister 5 = .ok (.aload_n 0, 1) := by decide +kernel
theorem d_P_combineWithRegister_6 : decode b_P_combineWithRegister 6 = .ok (.getfield 23, 3) := by decide +kernel
theorem d_P_combineWithRegister_9 : decode b_P_combineWithRegister 9 = .ok (.bipush 7, 2) := by decide +kernel
theorem d_P_combineWithRegister_11 : decode b_P_combineWithRegister 11 = .ok (.aload_n 0, 1) := by decide +kernel
theorem d_P_combineWithRegister_12 : decode b_P_combineWithRegister 12 = .ok (.getfield 19, 3) := by decide +kernel
theorem d_P_combineWithRegister_15 : decode b_P_combineWithRegister 15 = .ok (.iload_n 1, 1) := by decide +kernel
theorem d_P_combineWithRegister_16 : decode b_P_combineWithRegister 16 = .ok (.invokestatic 212, 3) := by decide +kernel
theorem d_P_combineWithRegister_19 : decode b_P_combineWithRegister 19 = .ok (.aload_n 0, 1) := by decide +kernel
theorem d_P_combineWithRegister_20 : decode b_P_combineWithRegister 20 = .ok (.getfield 23, 3) := by decide +kernel
theorem d_P_combineWithRegister_23 : decode b_P_combineWithRegister 23 = .ok (.bipush 7, 2) := by decide +kernel
theorem d_P_combineWithRegister_25 : decode b_P_combineWithRegister 25 = .ok (.iaload, 1) := by decide +kernel
theorem d_P_combineWithRegister_26 : decode b_P_combineWithRegister 26 = .ok (.aload_n 0, 1) := by decide +kernel
theorem d_P_combineWithRegister_27 : decode b_P_combineWithRegister 27 = .ok (.iload_n 2, 1) := by decide +kernel
theorem d_P_combineWithRegister_28 : decode b_P_combineWithRegister 28 = .ok (.invokevirtual 91, 3) := by decide +kernel
theorem d_P_combineWithRegister_31 : decode b_P_combineWithRegister 31 = .ok (.invokevirtual 237, 3) := by decide +kernel
theorem d_P_combineWithRegister_34 : decode b_P_combineWithRegister 34 = .ok (.iastore, 1) := by decide +kernel
theorem d_P_combineWithRegister_35 : decode b_P_combineWithRegister 35 = .ok (.iload_n 2, 1) := by decide +kernel
theorem d_P_combineWithRegister_36 : decode b_P_combineWithRegister 36 = .ok (.bipush 6, 2) := by decide +kernel
theorem d_P_combineWithRegister_38 : decode b_P_combineWithRegister 38 = .ok (.if_icmp .ne 8, 3) := by decide +kernel
theorem d_P_combineWithRegister_41 : decode b_P_combineWithRegister 41 = .ok (.bipush 7, 2) := by decide +kernel
theorem d_P_combineWithRegister_43 : decode b_P_combineWithRegister 43 = .ok (.goto 4, 3) := by decide +kernel
theorem d_P_combineWithRegister_46 : decode b_P_combineWithRegister 46 = .ok (.iconst 4, 1) := by decide +kernel
theorem d_P_combineWithRegister_47 : decode b_P_combineWithRegister 47 = .ok (.ireturn, 1) := by decide +kernel
theorem d_P_combineWithNext_0 : decode b_P_combineWithNext 0 = .ok (.aload_n 0, 1) := by decide +kernel
theorem d_P_combineWithNext_1 : decode b_P_combineWithNext 1 = .ok (.getfield 23, 3) := by decide +kernel
theorem d_P_combineWithNext_4 : decode b_P_combineWithNext 4 = .ok (.bipush 7, 2) := by decide +kernel
theorem d_P_combineWithNext_6 : decode b_P_combineWithNext 6 = .ok (.aload_n 0, 1) := by decide +kernel
end
section
theorem d_P_combineWithNext_7 : decode b_P_combineWithNext 7 = .ok (.getfield 19, 3) := by decide +kernel
theorem d_P_combineWithNext_10 : decode b_P_combineWithNext 10 = .ok (.iload_n 1, 1) := by decide +kernel
theorem d_P_combineWithNext_11 : decode b_P_combineWithNext 11 = .ok (.invokestatic 212, 3) := by decide +kernel
theorem d_P_combineWithNext_14 : decode b_P_combineWithNext 14 = .ok (.aload_n 0, 1) := by decide +kernel
theorem d_P_combineWithNext_15 : decode b_P_combineWithNext 15 = .ok (.getfield 23, 3) := by decide +kernel
theorem d_P_combineWithNext_18 : decode b_P_combineWithNext 18 = .ok (.bipush 7, 2) := by decide +kernel
theorem d_P_combineWithNext_20 : decode b_P_combineWithNext 20 = .ok (.iaload, 1) := by decide +kernel
theorem d_P_combineWithNext_21 : decode b_P_combineWithNext 21 = .ok (.aload_n 0, 1) := by decide +kernel
theorem d_P_combineWithNext_22 : decode b_P_combineWithNext 22 = .ok (.invokevirtual 121, 3) := by decide +kernel
theorem d_P_combineWithNext_25 : decode b_P_combineWithNext 25 = .ok (.invokevirtual 237, 3) := by decide +kernel
theorem d_P_combineWithNext_28 : decode b_P_combineWithNext 28 = .ok (.iastore, 1) := by decide +kernel
theorem d_P_combineWithNext_29 : decode b_P_combineWithNext 29 = .ok (.bipush 7, 2) := by decide +kernel
theorem d_P_combineWithNext_31 : decode b_P_combineWithNext 31 = .ok (.ireturn, 1) := by decide +kernel
theorem d_P_jumpOnCondition_0 : decode b_P_jumpOnCondition 0 = .ok (.aload_n 0, 1) := by decide +kernel
theorem d_P_jumpOnCondition_1 : decode b_P_jumpOnCondition 1 = .ok (.invokevirtual 193, 3) := by decide +kernel
theorem d_P_jumpOnCondition_4 : decode b_P_jumpOnCondition 4 = .ok (.istore_n 2, 1) := by decide +kernel
theorem d_P_jumpOnCondition_5 : decode b_P_jumpOnCondition 5 = .ok (.aload_n 0, 1) := by decide +kernel
theorem d_P_jumpOnCondition_6 : decode b_P_jumpOnCondition 6 = .ok (.getfield 19, 3) := by decide +kernel
theorem d_P_jumpOnCondition_9 : decode b_P_jumpOnCondition 9 = .ok (.iload_n 1, 1) := by decide +kernel
theorem d_P_jumpOnCondition_10 : decode b_P_jumpOnCondition 10 = .ok (.invokestatic 212, 3) := by decide +kernel
theorem d_P_jumpOnCondition_13 : decode b_P_jumpOnCondition 13 = .ok (.invokevirtual 241, 3) := by decide +kernel
theorem d_P_jumpOnCondition_16 : decode b_P_jumpOnCondition 16 = .ok (.ifCond .eq 8, 3) := by decide +kernel
theorem d_P_jumpOnCondition_19 : decode b_P_jumpOnCondition 19 = .ok (.aload_n 0, 1) := by decide +kernel
theorem d_P_jumpOnCondition_20 : decode b_P_jumpOnCondition 20 = .ok (.iload_n 2, 1) := by decide +kernel
theorem d_P_jumpOnCondition_21 : decode b_P_jumpOnCondition 21 = .ok (.putfield 59, 3) := by decide +kernel
theorem d_P_jumpOnCondition_24 : decode b_P_jumpOnCondition 24 = .ok (.bipush 10, 2) := by decide +kernel
theorem d_P_jumpOnCondition_26 : decode b_P_jumpOnCondition 26 = .ok (.ireturn, 1) := by decide +kernel
theorem d_P_callOnCondition_0 : decode b_P_callOnCondition 0 = .ok (.aload_n 0, 1) := by decide +kernel
theorem d_P_callOnCondition_1 : decode b_P_callOnCondition 1 = .ok (.invokevirtual 193, 3) := by decide +kernel
theorem d_P_callOnCondition_4 : decode b_P_callOnCondition 4 = .ok (.istore_n 2, 1) := by decide +kernel
theorem d_P_callOnCondition_5 : decode b_P_callOnCondition 5 = .ok (.aload_n 0, 1) := by decide +kernel
theorem d_P_callOnCondition_6 : decode b_P_callOnCondition 6 = .ok (.getfield 19, 3) := by decide +kernel
theorem d_P_callOnCondition_9 : decode b_P_callOnCondition 9 = .ok (.iload_n 1, 1) := by decide +kernel
theorem d_P_callOnCondition_10 : decode b_P_callOnCondition 10 = .ok (.invokestatic 212, 3) := by decide +kernel
theorem d_P_callOnCondition_13 : decode b_P_callOnCondition 13 = .ok (.invokevirtual 241, 3) := by decide +kernel
theorem d_P_callOnCondition_16 : decode b_P_callOnCondition 16 = .ok (.ifCond .ne 6, 3) := by decide +kernel
theorem d_P_callOnCondition_19 : decode b_P_callOnCondition 19 = .ok (.bipush 11, 2) := by decide +kernel
theorem d_P_callOnCondition_21 : decode b_P_callOnCondition 21 = .ok (.ireturn, 1) := by decide +kernel
theorem d_P_callOnCondition_22 : decode b_P_callOnCondition 22 = .ok (.aload_n 0, 1) := by decide +kernel
theorem d_P_callOnCondition_23 : decode b_P_callOnCondition 23 = .ok (.iload_n 2, 1) := by decide +kernel
theorem d_P_callOnCondition_24 : decode b_P_callOnCondition 24 = .ok (.invokevirtual 136, 3) := by decide +kernel
theorem d_P_callOnCondition_27 : decode b_P_callOnCondition 27 = .ok (.bipush 17, 2) := by decide +kernel
theorem d_P_callOnCondition_29 : decode b_P_callOnCondition 29 = .ok (.ireturn, 1) := by decide +kernel
theorem d_P_callAlways_0 : decode b_P_callAlways 0 = .ok (.aload_n 0, 1) := by decide +kernel
theorem d_P_callAlways_1 : decode b_P_callAlways 1 = .ok (.aload_n 0, 1) := by decide +kernel
theorem d_P_callAlways_2 : decode b_P_callAlways 2 = .ok (.invokevirtual 193, 3) := by decide +kernel
theorem d_P_callAlways_5 : decode b_P_callAlways 5 = .ok (.invokevirtual 136, 3) := by decide +kernel
theorem d_P_callAlways_8 : decode b_P_callAlways 8 = .ok (.bipush 17, 2) := by decide +kernel
theorem d_P_callAlways_10 : decode b_P_callAlways 10 = .ok (.ireturn, 1) := by decide +kernel
theorem d_P_returnOnCondition_0 : decode b_P_returnOnCondition 0 = .ok (.aload_n 0, 1) := by decide +kernel
theorem d_P_returnOnCondition_1 : decode b_P_returnOnCondition 1 = .ok (.getfield 19, 3) := by decide +kernel
theorem d_P_returnOnCondition_4 : decode b_P_returnOnCondition 4 = .ok (.iload_n 1, 1) := by decide +kernel
theorem d_P_returnOnCondition_5 : decode b_P_returnOnCondition 5 = .ok (.invokestatic 212, 3) := by decide +kernel
theorem d_P_returnOnCondition_8 : decode b_P_returnOnCondition 8 = .ok (.invokevirtual 241, 3) := by decide +kernel
theorem d_P_returnOnCondition_11 : decode b_P_returnOnCondition 11 = .ok (.ifCond .ne 5, 3) := by decide +kernel
theorem d_P_returnOnCondition_14 : decode b_P_returnOnCondition 14 = .ok (.iconst 5, 1) := by decide +kernel
theorem d_P_returnOnCondition_15 : decode b_P_returnOnCondition 15 = .ok (.ireturn, 1) := by decide +kernel
theorem d_P_returnOnCondition_16 : decode b_P_returnOnCondition 16 = .ok (.aload_n 0, 1) := by decide +kernel
theorem d_P_returnOnCondition_17 : decode b_P_returnOnCondition 17 = .ok (.aload_n 0, 1) := by decide +kernel
theorem d_P_returnOnCondition_18 : decode b_P_returnOnCondition 18 = .ok (.invokevirtual 244, 3) := by decide +kernel
theorem d_P_returnOnCondition_21 : decode b_P_returnOnCondition 21 = .ok (.putfield 59, 3) := by decide +kernel
theorem d_P_returnOnCondition_24 : decode b_P_returnOnCondition 24 = .ok (.bipush 11, 2) := by decide +kernel
theorem d_P_returnOnCondition_26 : decode b_P_returnOnCondition 26 = .ok (.ireturn, 1) := by decide +kernel
theorem d_P_returnOrCopyHl_0 : decode b_P_returnOrCopyHl 0 = .ok (.iload_n 1, 1) := by decide +kernel
theorem d_P_returnOrCopyHl_1 : decode b_P_returnOrCopyHl 1 = .ok (.invokestatic 190, 3) := by decide +kernel
theorem d_P_returnOrCopyHl_4 : decode b_P_returnOrCopyHl 4 = .ok (.lookupswitch 50 #[(2, 28), (3, 39)], 28) := by decide +kernel
theorem d_P_returnOrCopyHl_32 : decode b_P_returnOrCopyHl 32 = .ok (.aload_n 0, 1) := by decide +kernel
theorem d_P_returnOrCopyHl_33 : decode b_P_returnOrCopyHl 33 = .ok (.aload_n 0, 1) := by decide +kernel
theorem d_P_returnOrCopyHl_34 : decode b_P_returnOrCopyHl 34 = .ok (.iconst 2, 1) := by decide +kernel
theorem d_P_returnOrCopyHl_35 : decode b_P_returnOrCopyHl 35 = .ok (.invokevirtual 199, 3) := by decide +kernel
theorem d_P_returnOrCopyHl_38 : decode b_P_returnOrCopyHl 38 = .ok (.putfield 59, 3) := by decide +kernel
theorem d_P_returnOrCopyHl_41 : decode b_P_returnOrCopyHl 41 = .ok (.iconst 5, 1) := by decide +kernel
theorem d_P_returnOrCopyHl_42 : decode b_P_returnOrCopyHl 42 = .ok (.ireturn, 1) := by decide +kernel
theorem d_P_returnOrCopyHl_43 : decode b_P_returnOrCopyHl 43 = .ok (.aload_n 0, 1) := by decide +kernel
theorem d_P_returnOrCopyHl_44 : decode b_P_returnOrCopyHl 44 = .ok (.aload_n 0, 1) := by decide +kernel
theorem d_P_returnOrCopyHl_45 : decode b_P_returnOrCopyHl 45 = .ok (.iconst 2, 1) := by decide +kernel
theorem d_P_returnOrCopyHl_46 : decode b_P_returnOrCopyHl 46 = .ok (.invokevirtual 199, 3) := by decide +kernel
theorem d_P_returnOrCopyHl_49 : decode b_P_returnOrCopyHl 49 = .ok (.putfield 88, 3) := by decide +kernel
theorem d_P_returnOrCopyHl_52 : decode b_P_returnOrCopyHl 52 = .ok (.iconst 5, 1) := by decide +kernel
theorem d_P_returnOrCopyHl_53 : decode b_P_returnOrCopyHl 53 = .ok (.ireturn, 1) := by decide +kernel
theorem d_P_returnOrCopyHl_54 : decode b_P_returnOrCopyHl 54 = .ok (.aload_n 0, 1) := by decide +kernel
theorem d_P_returnOrCopyHl_55 : decode b_P_returnOrCopyHl 55 = .ok (.aload_n 0, 1) := by decide +kernel
theorem d_P_returnOrCopyHl_56 : decode b_P_returnOrCopyHl 56 = .ok (.invokevirtual 244, 3) := by decide +kernel
theorem d_P_returnOrCopyHl_59 : decode b_P_returnOrCopyHl 59 = .ok (.putfield 59, 3) := by decide +kernel
theorem d_P_returnOrCopyHl_62 : decode b_P_returnOrCopyHl 62 = .ok (.bipush 10, 2) := by decide +kernel
theorem d_P_returnOrCopyHl_64 : decode b_P_returnOrCopyHl 64 = .ok (.ireturn, 1) := by decide +kernel
theorem d_P_popPair_0 : decode b_P_popPair 0 = .ok (.aload_n 0, 1) := by decide +kernel
theorem d_P_popPair_1 : decode b_P_popPair 1 = .ok (.invokevirtual 244, 3) := by decide +kernel
theorem d_P_popPair_4 : decode b_P_popPair 4 = .ok (.istore_n 2, 1) := by decide +kernel
theorem d_P_popPair_5 : decode b_P_popPair 5 = .ok (.iload_n 1, 1) := by decide +kernel
theorem d_P_popPair_6 : decode b_P_popPair 6 = .ok (.invokestatic 190, 3) := by decide +kernel
theorem d_P_popPair_9 : decode b_P_popPair 9 = .ok (.istore_n 3, 1) := by decide +kernel
theorem d_P_popPair_10 : decode b_P_popPair 10 = .ok (.iload_n 3, 1) := by decide +kernel
theorem d_P_popPair_11 : decode b_P_popPair 11 = .ok (.iconst 3, 1) := by decide +kernel
theorem d_P_popPair_12 : decode b_P_popPair 12 = .ok (.if_icmp .ne 29, 3) := by decide +kernel
theorem d_P_popPair_15 : decode b_P_popPair 15 = .ok (.aload_n 0, 1) := by decide +kernel
theorem d_P_popPair_16 : decode b_P_popPair 16 = .ok (.getfield 23, 3) := by decide +kernel
theorem d_P_popPair_19 : decode b_P_popPair 19 = .ok (.bipush 7, 2) := by decide +kernel
theorem d_P_popPair_21 : decode b_P_popPair 21 = .ok (.iload_n 2, 1) := by decide +kernel
theorem d_P_popPair_22 : decode b_P_popPair 22 = .ok (.bipush 8, 2) := by decide +kernel
theorem d_P_popPair_24 : decode b_P_popPair 24 = .ok (.ishr, 1) := by decide +kernel
theorem d_P_popPair_25 : decode b_P_popPair 25 = .ok (.iastore, 1) := by decide +kernel
theorem d_P_popPair_26 : decode b_P_popPair 26 = .ok (.aload_n 0, 1) := by decide +kernel
theorem d_P_popPair_27 : decode b_P_popPair 27 = .ok (.getfield 19, 3) := by decide +kernel
theorem d_P_popPair_30 : decode b_P_popPair 30 = .ok (.iload_n 2, 1) := by decide +kernel
theorem d_P_popPair_31 : decode b_P_popPair 31 = .ok (.sipush 255, 3) := by decide +kernel
theorem d_P_popPair_34 : decode b_P_popPair 34 = .ok (.iand, 1) := by decide +kernel
theorem d_P_popPair_35 : decode b_P_popPair 35 = .ok (.invokevirtual 98, 3) := by decide +kernel
theorem d_P_popPair_38 : decode b_P_popPair 38 = .ok (.goto 9, 3) := by decide +kernel
theorem d_P_popPair_41 : decode b_P_popPair 41 = .ok (.aload_n 0, 1) := by decide +kernel
theorem d_P_popPair_42 : decode b_P_popPair 42 = .ok (.iload_n 3, 1) := by decide +kernel
theorem d_P_popPair_43 : decode b_P_popPair 43 = .ok (.iload_n 2, 1) := by decide +kernel
theorem d_P_popPair_44 : decode b_P_popPair 44 = .ok (.invokevirtual 196, 3) := by decide +kernel
theorem d_P_popPair_47 : decode b_P_popPair 47 = .ok (.bipush 10, 2) := by decide +kernel
theorem d_P_popPair_49 : decode b_P_popPair 49 = .ok (.ireturn, 1) := by decide +kernel
theorem d_P_pushPair_0 : decode b_P_pushPair 0 = .ok (.iload_n 1, 1) := by decide +kernel
theorem d_P_pushPair_1 : decode b_P_pushPair 1 = .ok (.invokestatic 190, 3) := by decide +kernel
theorem d_P_pushPair_4 : decode b_P_pushPair 4 = .ok (.istore_n 2, 1) := by decide +kernel
theorem d_P_pushPair_5 : decode b_P_pushPair 5 = .ok (.aload_n 0, 1) := by decide +kernel
theorem d_P_pushPair_6 : decode b_P_pushPair 6 = .ok (.iload_n 2, 1) := by decide +kernel
theorem d_P_pushPair_7 : decode b_P_pushPair 7 = .ok (.iconst 3, 1) := by decide +kernel
theorem d_P_pushPair_8 : decode b_P_pushPair 8 = .ok (.if_icmp .ne 24, 3) := by decide +kernel
theorem d_P_pushPair_11 : decode b_P_pushPair 11 = .ok (.aload_n 0, 1) := by decide +kernel
theorem d_P_pushPair_12 : decode b_P_pushPair 12 = .ok (.getfield 23, 3) := by decide +kernel
theorem d_P_pushPair_15 : decode b_P_pushPair 15 = .ok (.bipush 7, 2) := by decide +kernel
theorem d_P_pushPair_17 : decode b_P_pushPair 17 = .ok (.iaload, 1) := by decide +kernel
theorem d_P_pushPair_18 : decode b_P_pushPair 18 = .ok (.bipush 8, 2) := by decide +kernel
theorem d_P_pushPair_20 : decode b_P_pushPair 20 = .ok (.ishl, 1) := by decide +kernel
theorem d_P_pushPair_21 : decode b_P_pushPair 21 = .ok (.aload_n 0, 1) := by decide +kernel
theorem d_P_pushPair_22 : decode b_P_pushPair 22 = .ok (.getfield 19, 3) := by decide +kernel
theorem d_P_pushPair_25 : decode b_P_pushPair 25 = .ok (.invokevirtual 84, 3) := by decide +kernel
theorem d_P_pushPair_28 : decode b_P_pushPair 28 = .ok (.ior, 1) := by decide +kernel
theorem d_P_pushPair_29 : decode b_P_pushPair 29 = .ok (.goto 8, 3) := by decide +kernel
theorem d_P_pushPair_32 : decode b_P_pushPair 32 = .ok (.aload_n 0, 1) := by decide +kernel
theorem d_P_pushPair_33 : decode b_P_pushPair 33 = .ok (.iload_n 2, 1) := by decide +kernel
theorem d_P_pushPair_34 : decode b_P_pushPair 34 = .ok (.invokevirtual 199, 3) := by decide +kernel
theorem d_P_pushPair_37 : decode b_P_pushPair 37 = .ok (.invokevirtual 247, 3) := by decide +kernel
theorem d_P_pushPair_40 : decode b_P_pushPair 40 = .ok (.bipush 11, 2) := by decide +kernel
theorem d_P_pushPair_42 : decode b_P_pushPair 42 = .ok (.ireturn, 1) := by decide +kernel
theorem d_P_jumpExchangeOrSwitch_0 : decode b_P_jumpExchangeOrSwitch 0 = .ok (.iload_n 1, 1) := by decide +kernel
theorem d_P_jumpExchangeOrSwitch_1 : decode b_P_jumpExchangeOrSwitch 1 = .ok (.invokestatic 212, 3) := by decide +kernel
theorem d_P_jumpExchangeOrSwitch_4 : decode b_P_jumpExchangeOrSwitch 4 = .ok (.tableswitch 102 2 7 #[40, 59, 78, 83, 88, 95], 40) := by decide +kernel
theorem d_P_jumpExchangeOrSwitch_44 : decode b_P_jumpExchangeOrSwitch 44 = .ok (.aload_n 0, 1) := by decide +kernel
theorem d_P_jumpExchangeOrSwitch_45 : decode b_P_jumpExchangeOrSwitch 45 = .ok (.getfield 30, 3) := by decide +kernel
theorem d_P_jumpExchangeOrSwitch_48 : decode b_P_jumpExchangeOrSwitch 48 = .ok (.aload_n 0, 1) := by decide +kernel
theorem d_P_jumpExchangeOrSwitch_49 : decode b_P_jumpExchangeOrSwitch 49 = .ok (.invokevirtual 121, 3) := by decide +kernel
theorem d_P_jumpExchangeOrSwitch_52 : decode b_P_jumpExchangeOrSwitch 52 = .ok (.aload_n 0, 1) := by decide +kernel
theorem d_P_jumpExchangeOrSwitch_53 : decode b_P_jumpExchangeOrSwitch 53 = .ok (.getfield 23, 3) := by decide +kernel
theorem d_P_jumpExchangeOrSwitch_56 : decode b_P_jumpExchangeOrSwitch 56 = .ok (.bipush 7, 2) := by decide +kernel
theorem d_P_jumpExchangeOrSwitch_58 : decode b_P_jumpExchangeOrSwitch 58 = .ok (.iaload, 1) := by decide +kernel
theorem d_P_jumpExchangeOrSwitch_59 : decode b_P_jumpExchangeOrSwitch 59 = .ok (.iastore, 1) := by decide +kernel
theorem d_P_jumpExchangeOrSwitch_60 : decode b_P_jumpExchangeOrSwitch 60 = .ok (.bipush 10, 2) := by decide +kernel
theorem d_P_jumpExchangeOrSwitch_62 : decode b_P_jumpExchangeOrSwitch 62 = .ok (.ireturn, 1) := by decide +kernel
theorem d_P_jumpExchangeOrSwitch_63 : decode b_P_jumpExchangeOrSwitch 63 = .ok (.aload_n 0, 1) := by decide +kernel
theorem d_P_jumpExchangeOrSwitch_64 : decode b_P_jumpExchangeOrSwitch 64 = .ok (.getfield 23, 3) := by decide +kernel
theorem d_P_jumpExchangeOrSwitch_67 : decode b_P_jumpExchangeOrSwitch 67 = .ok (.bipush 7, 2) := by decide +kernel
theorem d_P_jumpExchangeOrSwitch_69 : decode b_P_jumpExchangeOrSwitch 69 = .ok (.aload_n 0, 1) := by decide +kernel
theorem d_P_jumpExchangeOrSwitch_70 : decode b_P_jumpExchangeOrSwitch 70 = .ok (.getfield 27, 3) := by decide +kernel
theorem d_P_jumpExchangeOrSwitch_73 : decode b_P_jumpExchangeOrSwitch 73 = .ok (.aload_n 0, 1) := by decide +kernel
theorem d_P_jumpExchangeOrSwitch_74 : decode b_P_jumpExchangeOrSwitch 74 = .ok (.invokevirtual 121, 3) := by decide +kernel
theorem d_P_jumpExchangeOrSwitch_77 : decode b_P_jumpExchangeOrSwitch 77 = .ok (.iaload, 1) := by decide +kernel
theorem d_P_jumpExchangeOrSwitch_78 : decode b_P_jumpExchangeOrSwitch 78 = .ok (.iastore, 1) := by decide +kernel
theorem d_P_jumpExchangeOrSwitch_79 : decode b_P_jumpExchangeOrSwitch 79 = .ok (.bipush 10, 2) := by decide +kernel
theorem d_P_jumpExchangeOrSwitch_81 : decode b_P_jumpExchangeOrSwitch 81 = .ok (.ireturn, 1) := by decide +kernel
theorem d_P_jumpExchangeOrSwitch_82 : decode b_P_jumpExchangeOrSwitch 82 = .ok (.aload_n 0, 1) := by decide +kernel
theorem d_P_jumpExchangeOrSwitch_83 : decode b_P_jumpExchangeOrSwitch 83 = .ok (.invokevirtual 250, 3) := by decide +kernel
theorem d_P_jumpExchangeOrSwitch_86 : decode b_P_jumpExchangeOrSwitch 86 = .ok (.ireturn, 1) := by decide +kernel
theorem d_P_jumpExchangeOrSwitch_87 : decode b_P_jumpExchangeOrSwitch 87 = .ok (.aload_n 0, 1) := by decide +kernel
theorem d_P_jumpExchangeOrSwitch_88 : decode b_P_jumpExchangeOrSwitch 88 = .ok (.invokevirtual 253, 3) := by decide +kernel
theorem d_P_jumpExchangeOrSwitch_91 : decode b_P_jumpExchangeOrSwitch 91 = .ok (.ireturn, 1) := by decide +kernel
theorem d_P_jumpExchangeOrSwitch_92 : decode b_P_jumpExchangeOrSwitch 92 = .ok (.aload_n 0, 1) := by decide +kernel
theorem d_P_jumpExchangeOrSwitch_93 : decode b_P_jumpExchangeOrSwitch 93 = .ok (.iconst 0, 1) := by decide +kernel
theorem d_P_jumpExchangeOrSwitch_94 : decode b_P_jumpExchangeOrSwitch 94 = .ok (.putfield 102, 3) := by decide +kernel
theorem d_P_jumpExchangeOrSwitch_97 : decode b_P_jumpExchangeOrSwitch 97 = .ok (.iconst 4, 1) := by decide +kernel
theorem d_P_jumpExchangeOrSwitch_98 : decode b_P_jumpExchangeOrSwitch 98 = .ok (.ireturn, 1) := by decide +kernel
theorem d_P_jumpExchangeOrSwitch_99 : decode b_P_jumpExchangeOrSwitch 99 = .ok (.aload_n 0, 1) := by decide +kernel
theorem d_P_jumpExchangeOrSwitch_100 : decode b_P_jumpExchangeOrSwitch 100 = .ok (.iconst 1, 1) := by decide +kernel
theorem d_P_jumpExchangeOrSwitch_101 : decode b_P_jumpExchangeOrSwitch 101 = .ok (.putfield 102, 3) := by decide +kernel
theorem d_P_jumpExchangeOrSwitch_104 : decode b_P_jumpExchangeOrSwitch 104 = .ok (.iconst 4, 1) := by decide +kernel
theorem d_P_jumpExchangeOrSwitch_105 : decode b_P_jumpExchangeOrSwitch 105 = .ok (.ireturn, 1) := by decide +kernel
theorem d_P_jumpExchangeOrSwitch_106 : decode b_P_jumpExchangeOrSwitch 106 = .ok (.aload_n 0, 1) := by decide +kernel
theorem d_P_jumpExchangeOrSwitch_107 : decode b_P_jumpExchangeOrSwitch 107 = .ok (.aload_n 0, 1) := by decide +kernel
theorem d_P_jumpExchangeOrSwitch_108 : decode b_P_jumpExchangeOrSwitch 108 = .ok (.invokevirtual 193, 3) := by decide +kernel
theorem d_P_jumpExchangeOrSwitch_111 : decode b_P_jumpExchangeOrSwitch 111 = .ok (.putfield 59, 3) := by decide +kernel
theorem d_P_jumpExchangeOrSwitch_114 : decode b_P_jumpExchangeOrSwitch 114 = .ok (.bipush 10, 2) := by decide +kernel
theorem d_P_jumpExchangeOrSwitch_116 : decode b_P_jumpExchangeOrSwitch 116 = .ok (.ireturn, 1) := by decide +kernel
theorem d_P_exchangeHlWithStack_0 : decode b_P_exchangeHlWithStack 0 = .ok (.aload_n 0, 1) := by decide +kernel
theorem d_P_exchangeHlWithStack_1 : decode b_P_exchangeHlWithStack 1 = .ok (.getfield 88, 3) := by decide +kernel
theorem d_P_exchangeHlWithStack_4 : decode b_P_exchangeHlWithStack 4 = .ok (.iconst 1, 1) := by decide +kernel
theorem d_P_exchangeHlWithStack_5 : decode b_P_exchangeHlWithStack 5 = .ok (.iadd, 1) := by decide +kernel
theorem d_P_exchangeHlWithStack_6 : decode b_P_exchangeHlWithStack 6 = .ok (.ldc 56, 2) := by decide +kernel
theorem d_P_exchangeHlWithStack_8 : decode b_P_exchangeHlWithStack 8 = .ok (.iand, 1) := by decide +kernel
theorem d_P_exchangeHlWithStack_9 : decode b_P_exchangeHlWithStack 9 = .ok (.istore_n 1, 1) := by decide +kernel
theorem d_P_exchangeHlWithStack_10 : decode b_P_exchangeHlWithStack 10 = .ok (.aload_n 0, 1) := by decide +kernel
theorem d_P_exchangeHlWithStack_11 : decode b_P_exchangeHlWithStack 11 = .ok (.getfield 10, 3) := by decide +kernel
theorem d_P_exchangeHlWithStack_14 : decode b_P_exchangeHlWithStack 14 = .ok (.aload_n 0, 1) := by decide +kernel
theorem d_P_exchangeHlWithStack_15 : decode b_P_exchangeHlWithStack 15 = .ok (.getfield 88, 3) := by decide +kernel
theorem d_P_exchangeHlWithStack_18 : decode b_P_exchangeHlWithStack 18 = .ok (.invokevirtual 52, 3) := by decide +kernel
theorem d_P_exchangeHlWithStack_21 : decode b_P_exchangeHlWithStack 21 = .ok (.istore_n 2, 1) := by decide +kernel
theorem d_P_exchangeHlWithStack_22 : decode b_P_exchangeHlWithStack 22 = .ok (.aload_n 0, 1) := by decide +kernel
theorem d_P_exchangeHlWithStack_23 : decode b_P_exchangeHlWithStack 23 = .ok (.getfield 10, 3) := by decide +kernel
theorem d_P_exchangeHlWithStack_26 : decode b_P_exchangeHlWithStack 26 = .ok (.iload_n 1, 1) := by decide +kernel
theorem d_P_exchangeHlWithStack_27 : decode b_P_exchangeHlWithStack 27 = .ok (.invokevirtual 52, 3) := by decide +kernel
theorem d_P_exchangeHlWithStack_30 : decode b_P_exchangeHlWithStack 30 = .ok (.istore_n 3, 1) := by decide +kernel
theorem d_P_exchangeHlWithStack_31 : decode b_P_exchangeHlWithStack 31 = .ok (.aload_n 0, 1) := by decide +kernel
theorem d_P_exchangeHlWithStack_32 : decode b_P_exchangeHlWithStack 32 = .ok (.getfield 10, 3) := by decide +kernel
theorem d_P_exchangeHlWithStack_35 : decode b_P_exchangeHlWithStack 35 = .ok (.aload_n 0, 1) := by decide +kernel
theorem d_P_exchangeHlWithStack_36 : decode b_P_exchangeHlWithStack 36 = .ok (.getfield 88, 3) := by decide +kernel
theorem d_P_exchangeHlWithStack_39 : decode b_P_exchangeHlWithStack 39 = .ok (.aload_n 0, 1) := by decide +kernel
theorem d_P_exchangeHlWithStack_40 : decode b_P_exchangeHlWithStack 40 = .ok (.getfield 23, 3) := by decide +kernel
theorem d_P_exchangeHlWithStack_43 : decode b_P_exchangeHlWithStack 43 = .ok (.iconst 5, 1) := by decide +kernel
theorem d_P_exchangeHlWithStack_44 : decode b_P_exchangeHlWithStack 44 = .ok (.iaload, 1) := by decide +kernel
theorem d_P_exchangeHlWithStack_45 : decode b_P_exchangeHlWithStack 45 = .ok (.invokevirtual 46, 3) := by decide +kernel
theorem d_P_exchangeHlWithStack_48 : decode b_P_exchangeHlWithStack 48 = .ok (.aload_n 0, 1) := by decide +kernel
theorem d_P_exchangeHlWithStack_49 : decode b_P_exchangeHlWithStack 49 = .ok (.getfield 10, 3) := by decide +kernel
theorem d_P_exchangeHlWithStack_52 : decode b_P_exchangeHlWithStack 52 = .ok (.iload_n 1, 1) := by decide +kernel
theorem d_P_exchangeHlWithStack_53 : decode b_P_exchangeHlWithStack 53 = .ok (.aload_n 0, 1) := by decide +kernel
theorem d_P_exchangeHlWithStack_54 : decode b_P_exchangeHlWithStack 54 = .ok (.getfield 23, 3) := by decide +kernel
theorem d_P_exchangeHlWithStack_57 : decode b_P_exchangeHlWithStack 57 = .ok (.iconst 4, 1) := by decide +kernel
theorem d_P_exchangeHlWithStack_58 : decode b_P_exchangeHlWithStack 58 = .ok (.iaload, 1) := by decide +kernel
theorem d_P_exchangeHlWithStack_59 : decode b_P_exchangeHlWithStack 59 = .ok (.invokevirtual 46, 3) := by decide +kernel
theorem d_P_exchangeHlWithStack_62 : decode b_P_exchangeHlWithStack 62 = .ok (.aload_n 0, 1) := by decide +kernel
theorem d_P_exchangeHlWithStack_63 : decode b_P_exchangeHlWithStack 63 = .ok (.getfield 23, 3) := by decide +kernel
theorem d_P_exchangeHlWithStack_66 : decode b_P_exchangeHlWithStack 66 = .ok (.iconst 5, 1) := by decide +kernel
theorem d_P_exchangeHlWithStack_67 : decode b_P_exchangeHlWithStack 67 = .ok (.iload_n 2, 1) := by decide +kernel
theorem d_P_exchangeHlWithStack_68 : decode b_P_exchangeHlWithStack 68 = .ok (.iastore, 1) := by decide +kernel
theorem d_P_exchangeHlWithStack_69 : decode b_P_exchangeHlWithStack 69 = .ok (.aload_n 0, 1) := by decide +kernel
theorem d_P_exchangeHlWithStack_70 : decode b_P_exchangeHlWithStack 70 = .ok (.getfield 23, 3) := by decide +kernel
theorem d_P_exchangeHlWithStack_73 : decode b_P_exchangeHlWithStack 73 = .ok (.iconst 4, 1) := by decide +kernel
theorem d_P_exchangeHlWithStack_74 : decode b_P_exchangeHlWithStack 74 = .ok (.iload_n 3, 1) := by decide +kernel
theorem d_P_exchangeHlWithStack_75 : decode b_P_exchangeHlWithStack 75 = .ok (.iastore, 1) := by decide +kernel
theorem d_P_exchangeHlWithStack_76 : decode b_P_exchangeHlWithStack 76 = .ok (.bipush 18, 2) := by decide +kernel
theorem d_P_exchangeHlWithStack_78 : decode b_P_exchangeHlWithStack 78 = .ok (.ireturn, 1) := by decide +kernel
theorem d_P_exchangeHlWithDe_0 : decode b_P_exchangeHlWithDe 0 = .ok (.aload_n 0, 1) := by decide +kernel
theorem d_P_exchangeHlWithDe_1 : decode b_P_exchangeHlWithDe 1 = .ok (.iconst 2, 1) := by decide +kernel
theorem d_P_exchangeHlWithDe_2 : decode b_P_exchangeHlWithDe 2 = .ok (.invokevirtual 199, 3) := by decide +kernel
theorem d_P_exchangeHlWithDe_5 : decode b_P_exchangeHlWithDe 5 = .ok (.istore_n 1, 1) := by decide +kernel
theorem d_P_exchangeHlWithDe_6 : decode b_P_exchangeHlWithDe 6 = .ok (.aload_n 0, 1) := by decide +kernel
theorem d_P_exchangeHlWithDe_7 : decode b_P_exchangeHlWithDe 7 = .ok (.iconst 2, 1) := by decide +kernel
theorem d_P_exchangeHlWithDe_8 : decode b_P_exchangeHlWithDe 8 = .ok (.aload_n 0, 1) := by decide +kernel
theorem d_P_exchangeHlWithDe_9 : decode b_P_exchangeHlWithDe 9 = .ok (.iconst 1, 1) := by decide +kernel
theorem d_P_exchangeHlWithDe_10 : decode b_P_exchangeHlWithDe 10 = .ok (.invokevirtual 199, 3) := by decide +kernel
theorem d_P_exchangeHlWithDe_13 : decode b_P_exchangeHlWithDe 13 = .ok (.invokevirtual 196, 3) := by decide +kernel
theorem d_P_exchangeHlWithDe_16 : decode b_P_exchangeHlWithDe 16 = .ok (.aload_n 0, 1) := by decide +kernel
theorem d_P_exchangeHlWithDe_17 : decode b_P_exchangeHlWithDe 17 = .ok (.iconst 1, 1) := by decide +kernel
theorem d_P_exchangeHlWithDe_18 : decode b_P_exchangeHlWithDe 18 = .ok (.iload_n 1, 1) := by decide +kernel
theorem d_P_exchangeHlWithDe_19 : decode b_P_exchangeHlWithDe 19 = .ok (.invokevirtual 196, 3) := by decide +kernel
theorem d_P_exchangeHlWithDe_22 : decode b_P_exchangeHlWithDe 22 = .ok (.iconst 4, 1) := by decide +kernel
theorem d_P_exchangeHlWithDe_23 : decode b_P_exchangeHlWithDe 23 = .ok (.ireturn, 1) := by decide +kernel
theorem d_P_targetOf_0 : decode b_P_targetOf 0 = .ok (.iload_n 0, 1) := by decide +kernel
theorem d_P_targetOf_1 : decode b_P_targetOf 1 = .ok (.iconst 3, 1) := by decide +kernel
theorem d_P_targetOf_2 : decode b_P_targetOf 2 = .ok (.ishr, 1) := by decide +kernel
theorem d_P_targetOf_3 : decode b_P_targetOf 3 = .ok (.bipush 7, 2) := by decide +kernel
theorem d_P_targetOf_5 : decode b_P_targetOf 5 = .ok (.iand, 1) := by decide +kernel
theorem d_P_targetOf_6 : decode b_P_targetOf 6 = .ok (.ireturn, 1) := by decide +kernel
theorem d_P_pairOf_0 : decode b_P_pairOf 0 = .ok (.iload_n 0, 1) := by decide +kernel
theorem d_P_pairOf_1 : decode b_P_pairOf 1 = .ok (.iconst 4, 1) := by decide +kernel
theorem d_P_pairOf_2 : decode b_P_pairOf 2 = .ok (.ishr, 1) := by decide +kernel
theorem d_P_pairOf_3 : decode b_P_pairOf 3 = .ok (.iconst 3, 1) := by decide +kernel
theorem d_P_pairOf_4 : decode b_P_pairOf 4 = .ok (.iand, 1) := by decide +kernel
theorem d_P_pairOf_5 : decode b_P_pairOf 5 = .ok (.ireturn, 1) := by decide +kernel
theorem d_P_nextByte_0 : decode b_P_nextByte 0 = .ok (.aload_n 0, 1) := by decide +kernel
theorem d_P_nextByte_1 : decode b_P_nextByte 1 = .ok (.getfield 10, 3) := by decide +kernel
theorem d_P_nextByte_4 : decode b_P_nextByte 4 = .ok (.aload_n 0, 1) := by decide +kernel
theorem d_P_nextByte_5 : decode b_P_nextByte 5 = .ok (.getfield 59, 3) := by decide +kernel
theorem d_P_nextByte_8 : decode b_P_nextByte 8 = .ok (.invokevirtual 52, 3) := by decide +kernel
theorem d_P_nextByte_11 : decode b_P_nextByte 11 = .ok (.istore_n 1, 1) := by decide +kernel
theorem d_P_nextByte_12 : decode b_P_nextByte 12 = .ok (.aload_n 0, 1) := by decide +kernel
theorem d_P_nextByte_13 : decode b_P_nextByte 13 = .ok (.aload_n 0, 1) := by decide +kernel
theorem d_P_nextByte_14 : decode b_P_nextByte 14 = .ok (.getfield 59, 3) := by decide +kernel
theorem d_P_nextByte_17 : decode b_P_nextByte 17 = .ok (.iconst 1, 1) := by decide +kernel
theorem d_P_nextByte_18 : decode b_P_nextByte 18 = .ok (.iadd, 1) := by decide +kernel
theorem d_P_nextByte_19 : decode b_P_nextByte 19 = .ok (.ldc 56, 2) := by decide +kernel
theorem d_P_nextByte_21 : decode b_P_nextByte 21 = .ok (.iand, 1) := by decide +kernel
theorem d_P_nextByte_22 : decode b_P_nextByte 22 = .ok (.putfield 59, 3) := by decide +kernel
theorem d_P_nextByte_25 : decode b_P_nextByte 25 = .ok (.iload_n 1, 1) := by decide +kernel
theorem d_P_nextByte_26 : decode b_P_nextByte 26 = .ok (.ireturn, 1) := by decide +kernel
theorem d_P_nextTwoBytes_0 : decode b_P_nextTwoBytes 0 = .ok (.aload_n 0, 1) := by decide +kernel
theorem d_P_nextTwoBytes_1 : decode b_P_nextTwoBytes 1 = .ok (.invokevirtual 121, 3) := by decide +kernel
theorem d_P_nextTwoBytes_4 : decode b_P_nextTwoBytes 4 = .ok (.istore_n 1, 1) := by decide +kernel
theorem d_P_nextTwoBytes_5 : decode b_P_nextTwoBytes 5 = .ok (.aload_n 0, 1) := by decide +kernel
theorem d_P_nextTwoBytes_6 : decode b_P_nextTwoBytes 6 = .ok (.invokevirtual 121, 3) := by decide +kernel
theorem d_P_nextTwoBytes_9 : decode b_P_nextTwoBytes 9 = .ok (.bipush 8, 2) := by decide +kernel
theorem d_P_nextTwoBytes_11 : decode b_P_nextTwoBytes 11 = .ok (.ishl, 1) := by decide +kernel
theorem d_P_nextTwoBytes_12 : decode b_P_nextTwoBytes 12 = .ok (.iload_n 1, 1) := by decide +kernel
theorem d_P_nextTwoBytes_13 : decode b_P_nextTwoBytes 13 = .ok (.ior, 1) := by decide +kernel
theorem d_P_nextTwoBytes_14 : decode b_P_nextTwoBytes 14 = .ok (.ireturn, 1) := by decide +kernel
theorem d_P_callTo_0 : decode b_P_callTo 0 = .ok (.aload_n 0, 1) := by decide +kernel
theorem d_P_callTo_1 : decode b_P_callTo 1 = .ok (.aload_n 0, 1) := by decide +kernel
theorem d_P_callTo_2 : decode b_P_callTo 2 = .ok (.getfield 59, 3) := by decide +kernel
theorem d_P_callTo_5 : decode b_P_callTo 5 = .ok (.invokevirtual 247, 3) := by decide +kernel
theorem d_P_callTo_8 : decode b_P_callTo 8 = .ok (.aload_n 0, 1) := by decide +kernel
theorem d_P_callTo_9 : decode b_P_callTo 9 = .ok (.iload_n 1, 1) := by decide +kernel
theorem d_P_callTo_10 : decode b_P_callTo 10 = .ok (.putfield 59, 3) := by decide +kernel
theorem d_P_callTo_13 : decode b_P_callTo 13 = .ok (.return_, 1) := by decide +kernel
theorem d_P_push_0 : decode b_P_push 0 = .ok (.aload_n 0, 1) := by decide +kernel
theorem d_P_push_1 : decode b_P_push 1 = .ok (.aload_n 0, 1) := by decide +kernel
theorem d_P_push_2 : decode b_P_push 2 = .ok (.getfield 88, 3) := by decide +kernel
theorem d_P_push_5 : decode b_P_push 5 = .ok (.iconst 1, 1) := by decide +kernel
theorem d_P_push_6 : decode b_P_push 6 = .ok (.isub, 1) := by decide +kernel
theorem d_P_push_7 : decode b_P_push 7 = .ok (.ldc 56, 2) := by decide +kernel
theorem d_P_push_9 : decode b_P_push 9 = .ok (.iand, 1) := by decide +kernel
theorem d_P_push_10 : decode b_P_push 10 = .ok (.putfield 88, 3) := by decide +kernel
theorem d_P_push_13 : decode b_P_push 13 = .ok (.aload_n 0, 1) := by decide +kernel
theorem d_P_push_14 : decode b_P_push 14 = .ok (.getfield 10, 3) := by decide +kernel
theorem d_P_push_17 : decode b_P_push 17 = .ok (.aload_n 0, 1) := by decide +kernel
theorem d_P_push_18 : decode b_P_push 18 = .ok (.getfield 88, 3) := by decide +kernel
theorem d_P_push_21 : decode b_P_push 21 = .ok (.iload_n 1, 1) := by decide +kernel
theorem d_P_push_22 : decode b_P_push 22 = .ok (.bipush 8, 2) := by decide +kernel
theorem d_P_push_24 : decode b_P_push 24 = .ok (.ishr, 1) := by decide +kernel
theorem d_P_push_25 : decode b_P_push 25 = .ok (.invokevirtual 46, 3) := by decide +kernel
theorem d_P_push_28 : decode b_P_push 28 = .ok (.aload_n 0, 1) := by decide +kernel
theorem d_P_push_29 : decode b_P_push 29 = .ok (.aload_n 0, 1) := by decide +kernel
theorem d_P_push_30 : decode b_P_push 30 = .ok (.getfield 88, 3) := by decide +kernel
theorem d_P_push_33 : decode b_P_push 33 = .ok (.iconst 1, 1) := by decide +kernel
theorem d_P_push_34 : decode b_P_push 34 = .ok (.isub, 1) := by decide +kernel
theorem d_P_push_35 : decode b_P_push 35 = .ok (.ldc 56, 2) := by decide +kernel
theorem d_P_push_37 : decode b_P_push 37 = .ok (.iand, 1) := by decide +kernel
theorem d_P_push_38 : decode b_P_push 38 = .ok (.putfield 88, 3) := by decide +kernel
theorem d_P_push_41 : decode b_P_push 41 = .ok (.aload_n 0, 1) := by decide +kernel
theorem d_P_push_42 : decode b_P_push 42 = .ok (.getfield 10, 3) := by decide +kernel
theorem d_P_push_45 : decode b_P_push 45 = .ok (.aload_n 0, 1) := by decide +kernel
theorem d_P_push_46 : decode b_P_push 46 = .ok (.getfield 88, 3) := by decide +kernel
theorem d_P_push_49 : decode b_P_push 49 = .ok (.iload_n 1, 1) := by decide +kernel
theorem d_P_push_50 : decode b_P_push 50 = .ok (.sipush 255, 3) := by decide +kernel
theorem d_P_push_53 : decode b_P_push 53 = .ok (.iand, 1) := by decide +kernel
theorem d_P_push_54 : decode b_P_push 54 = .ok (.invokevirtual 46, 3) := by decide +kernel
theorem d_P_push_57 : decode b_P_push 57 = .ok (.return_, 1) := by decide +kernel
theorem d_P_pop_0 : decode b_P_pop 0 = .ok (.aload_n 0, 1) := by decide +kernel
theorem d_P_pop_1 : decode b_P_pop 1 = .ok (.getfield 10, 3) := by decide +kernel
theorem d_P_pop_4 : decode b_P_pop 4 = .ok (.aload_n 0, 1) := by decide +kernel
theorem d_P_pop_5 : decode b_P_pop 5 = .ok (.getfield 88, 3) := by decide +kernel
theorem d_P_pop_8 : decode b_P_pop 8 = .ok (.invokevirtual 52, 3) := by decide +kernel
theorem d_P_pop_11 : decode b_P_pop 11 = .ok (.istore_n 1, 1) := by decide +kernel
theorem d_P_pop_12 : decode b_P_pop 12 = .ok (.aload_n 0, 1) := by decide +kernel
theorem d_P_pop_13 : decode b_P_pop 13 = .ok (.aload_n 0, 1) := by decide +kernel
theorem d_P_pop_14 : decode b_P_pop 14 = .ok (.getfield 88, 3) := by decide +kernel
theorem d_P_pop_17 : decode b_P_pop 17 = .ok (.iconst 1, 1) := by decide +kernel
theorem d_P_pop_18 : decode b_P_pop 18 = .ok (.iadd, 1) := by decide +kernel
theorem d_P_pop_19 : decode b_P_pop 19 = .ok (.ldc 56, 2) := by decide +kernel
theorem d_P_pop_21 : decode b_P_pop 21 = .ok (.iand, 1) := by decide +kernel
theorem d_P_pop_22 : decode b_P_pop 22 = .ok (.putfield 88, 3) := by decide +kernel
theorem d_P_pop_25 : decode b_P_pop 25 = .ok (.aload_n 0, 1) := by decide +kernel
theorem d_P_pop_26 : decode b_P_pop 26 = .ok (.getfield 10, 3) := by decide +kernel
theorem d_P_pop_29 : decode b_P_pop 29 = .ok (.aload_n 0, 1) := by decide +kernel
theorem d_P_pop_30 : decode b_P_pop 30 = .ok (.getfield 88, 3) := by decide +kernel
theorem d_P_pop_33 : decode b_P_pop 33 = .ok (.invokevirtual 52, 3) := by decide +kernel
theorem d_P_pop_36 : decode b_P_pop 36 = .ok (.istore_n 2, 1) := by decide +kernel
theorem d_P_pop_37 : decode b_P_pop 37 = .ok (.aload_n 0, 1) := by decide +kernel
theorem d_P_pop_38 : decode b_P_pop 38 = .ok (.aload_n 0, 1) := by decide +kernel
theorem d_P_pop_39 : decode b_P_pop 39 = .ok (.getfield 88, 3) := by decide +kernel
theorem d_P_pop_42 : decode b_P_pop 42 = .ok (.iconst 1, 1) := by decide +kernel
theorem d_P_pop_43 : decode b_P_pop 43 = .ok (.iadd, 1) := by decide +kernel
theorem d_P_pop_44 : decode b_P_pop 44 = .ok (.ldc 56, 2) := by decide +kernel
theorem d_P_pop_46 : decode b_P_pop 46 = .ok (.iand, 1) := by decide +kernel
theorem d_P_pop_47 : decode b_P_pop 47 = .ok (.putfield 88, 3) := by decide +kernel
theorem d_P_pop_50 : decode b_P_pop 50 = .ok (.iload_n 2, 1) := by decide +kernel
theorem d_P_pop_51 : decode b_P_pop 51 = .ok (.bipush 8, 2) := by decide +kernel
theorem d_P_pop_53 : decode b_P_pop 53 = .ok (.ishl, 1) := by decide +kernel
theorem d_P_pop_54 : decode b_P_pop 54 = .ok (.iload_n 1, 1) := by decide +kernel
theorem d_P_pop_55 : decode b_P_pop 55 = .ok (.ior, 1) := by decide +kernel
theorem d_P_pop_56 : decode b_P_pop 56 = .ok (.ireturn, 1) := by decide +kernel
theorem d_P_readRegister_0 : decode b_P_readRegister 0 = .ok (.iload_n 1, 1) := by decide +kernel
theorem d_P_readRegister_1 : decode b_P_readRegister 1 = .ok (.bipush 6, 2) := by decide +kernel
theorem d_P_readRegister_3 : decode b_P_readRegister 3 = .ok (.if_icmp .ne 18, 3) := by decide +kernel
theorem d_P_readRegister_6 : decode b_P_readRegister 6 = .ok (.aload_n 0, 1) := by decide +kernel
theorem d_P_readRegister_7 : decode b_P_readRegister 7 = .ok (.getfield 10, 3) := by decide +kernel
theorem d_P_readRegister_10 : decode b_P_readRegister 10 = .ok (.aload_n 0, 1) := by decide +kernel
theorem d_P_readRegister_11 : decode b_P_readRegister 11 = .ok (.iconst 2, 1) := by decide +kernel
theorem d_P_readRegister_12 : decode b_P_readRegister 12 = .ok (.invokevirtual 199, 3) := by decide +kernel
theorem d_P_readRegister_15 : decode b_P_readRegister 15 = .ok (.invokevirtual 52, 3) := by decide +kernel
theorem d_P_readRegister_18 : decode b_P_readRegister 18 = .ok (.goto 9, 3) := by decide +kernel
theorem d_P_readRegister_21 : decode b_P_readRegister 21 = .ok (.aload_n 0, 1) := by decide +kernel
theorem d_P_readRegister_22 : decode b_P_readRegister 22 = .ok (.getfield 23, 3) := by decide +kernel
theorem d_P_readRegister_25 : decode b_P_readRegister 25 = .ok (.iload_n 1, 1) := by decide +kernel
theorem d_P_readRegister_26 : decode b_P_readRegister 26 = .ok (.iaload, 1) := by decide +kernel
theorem d_P_readRegister_27 : decode b_P_readRegister 27 = .ok (.ireturn, 1) := by decide +kernel
theorem d_P_writeRegister_0 : decode b_P_writeRegister 0 = .ok (.iload_n 1, 1) := by decide +kernel
theorem d_P_writeRegister_1 : decode b_P_writeRegister 1 = .ok (.bipush 6, 2) := by decide +kernel
theorem d_P_writeRegister_3 : decode b_P_writeRegister 3 = .ok (.if_icmp .ne 19, 3) := by decide +kernel
theorem d_P_writeRegister_6 : decode b_P_writeRegister 6 = .ok (.aload_n 0, 1) := by decide +kernel
theorem d_P_writeRegister_7 : decode b_P_writeRegister 7 = .ok (.getfield 10, 3) := by decide +kernel
theorem d_P_writeRegister_10 : decode b_P_writeRegister 10 = .ok (.aload_n 0, 1) := by decide +kernel
theorem d_P_writeRegister_11 : decode b_P_writeRegister 11 = .ok (.iconst 2, 1) := by decide +kernel
theorem d_P_writeRegister_12 : decode b_P_writeRegister 12 = .ok (.invokevirtual 199, 3) := by decide +kernel
theorem d_P_writeRegister_15 : decode b_P_writeRegister 15 = .ok (.iload_n 2, 1) := by decide +kernel
theorem d_P_writeRegister_16 : decode b_P_writeRegister 16 = .ok (.invokevirtual 46, 3) := by decide +kernel
theorem d_P_writeRegister_19 : decode b_P_writeRegister 19 = .ok (.goto 10, 3) := by decide +kernel
theorem d_P_writeRegister_22 : decode b_P_writeRegister 22 = .ok (.aload_n 0, 1) := by decide +kernel
theorem d_P_writeRegister_23 : decode b_P_writeRegister 23 = .ok (.getfield 23, 3) := by decide +kernel
theorem d_P_writeRegister_26 : decode b_P_writeRegister 26 = .ok (.iload_n 1, 1) := by decide +kernel
theorem d_P_writeRegister_27 : decode b_P_writeRegister 27 = .ok (.iload_n 2, 1) := by decide +kernel
theorem d_P_writeRegister_28 : decode b_P_writeRegister 28 = .ok (.iastore, 1) := by decide +kernel
theorem d_P_writeRegister_29 : decode b_P_writeRegister 29 = .ok (.return_, 1) := by decide +kernel
theorem d_P_readPair_0 : decode b_P_readPair 0 = .ok (.iload_n 1, 1) := by decide +kernel
theorem d_P_readPair_1 : decode b_P_readPair 1 = .ok (.iconst 3, 1) := by decide +kernel
theorem d_P_readPair_2 : decode b_P_readPair 2 = .ok (.if_icmp .ne 10, 3) := by decide +kernel
theorem d_P_readPair_5 : decode b_P_readPair 5 = .ok (.aload_n 0, 1) := by decide +kernel
theorem d_P_readPair_6 : decode b_P_readPair 6 = .ok (.getfield 88, 3) := by decide +kernel
theorem d_P_readPair_9 : decode b_P_readPair 9 = .ok (.goto 25, 3) := by decide +kernel
theorem d_P_readPair_12 : decode b_P_readPair 12 = .ok (.aload_n 0, 1) := by decide +kernel
theorem d_P_readPair_13 : decode b_P_readPair 13 = .ok (.getfield 23, 3) := by decide +kernel
theorem d_P_readPair_16 : decode b_P_readPair 16 = .ok (.iconst 2, 1) := by decide +kernel
theorem d_P_readPair_17 : decode b_P_readPair 17 = .ok (.iload_n 1, 1) := by decide +kernel
theorem d_P_readPair_18 : decode b_P_readPair 18 = .ok (.imul, 1) := by decide +kernel
theorem d_P_readPair_19 : decode b_P_readPair 19 = .ok (.iaload, 1) := by decide +kernel
theorem d_P_readPair_20 : decode b_P_readPair 20 = .ok (.bipush 8, 2) := by decide +kernel
theorem d_P_readPair_22 : decode b_P_readPair 22 = .ok (.ishl, 1) := by decide +kernel
theorem d_P_readPair_23 : decode b_P_readPair 23 = .ok (.aload_n 0, 1) := by decide +kernel
theorem d_P_readPair_24 : decode b_P_readPair 24 = .ok (.getfield 23, 3) := by decide +kernel
theorem d_P_readPair_27 : decode b_P_readPair 27 = .ok (.iconst 2, 1) := by decide +kernel
theorem d_P_readPair_28 : decode b_P_readPair 28 = .ok (.iload_n 1, 1) := by decide +kernel
theorem d_P_readPair_29 : decode b_P_readPair 29 = .ok (.imul, 1) := by decide +kernel
theorem d_P_readPair_30 : decode b_P_readPair 30 = .ok (.iconst 1, 1) := by decide +kernel
theorem d_P_readPair_31 : decode b_P_readPair 31 = .ok (.iadd, 1) := by decide +kernel
theorem d_P_readPair_32 : decode b_P_readPair 32 = .ok (.iaload, 1) := by decide +kernel
theorem d_P_readPair_33 : decode b_P_readPair 33 = .ok (.ior, 1) := by decide +kernel
theorem d_P_readPair_34 : decode b_P_readPair 34 = .ok (.ireturn, 1) := by decide +kernel
theorem d_P_writePair_0 : decode b_P_writePair 0 = .ok (.iload_n 1, 1) := by decide +kernel
theorem d_P_writePair_1 : decode b_P_writePair 1 = .ok (.iconst 3, 1) := by decide +kernel
theorem d_P_writePair_2 : decode b_P_writePair 2 = .ok (.if_icmp .ne 11, 3) := by decide +kernel
theorem d_P_writePair_5 : decode b_P_writePair 5 = .ok (.aload_n 0, 1) := by decide +kernel
theorem d_P_writePair_6 : decode b_P_writePair 6 = .ok (.iload_n 2, 1) := by decide +kernel
theorem d_P_writePair_7 : decode b_P_writePair 7 = .ok (.putfield 88, 3) := by decide +kernel
theorem d_P_writePair_10 : decode b_P_writePair 10 = .ok (.goto 30, 3) := by decide +kernel
theorem d_P_writePair_13 : decode b_P_writePair 13 = .ok (.aload_n 0, 1) := by decide +kernel
theorem d_P_writePair_14 : decode b_P_writePair 14 = .ok (.getfield 23, 3) := by decide +kernel
theorem d_P_writePair_17 : decode b_P_writePair 17 = .ok (.iconst 2, 1) := by decide +kernel
theorem d_P_writePair_18 : decode b_P_writePair 18 = .ok (.iload_n 1, 1) := by decide +kernel
theorem d_P_writePair_19 : decode b_P_writePair 19 = .ok (.imul, 1) := by decide +kernel
theorem d_P_writePair_20 : decode b_P_writePair 20 = .ok (.iload_n 2, 1) := by decide +kernel
theorem d_P_writePair_21 : decode b_P_writePair 21 = .ok (.bipush 8, 2) := by decide +kernel
theorem d_P_writePair_23 : decode b_P_writePair 23 = .ok (.ishr, 1) := by decide +kernel
theorem d_P_writePair_24 : decode b_P_writePair 24 = .ok (.iastore, 1) := by decide +kernel
theorem d_P_writePair_25 : decode b_P_writePair 25 = .ok (.aload_n 0, 1) := by decide +kernel
theorem d_P_writePair_26 : decode b_P_writePair 26 = .ok (.getfield 23, 3) := by decide +kernel
theorem d_P_writePair_29 : decode b_P_writePair 29 = .ok (.iconst 2, 1) := by decide +kernel
theorem d_P_writePair_30 : decode b_P_writePair 30 = .ok (.iload_n 1, 1) := by decide +kernel
theorem d_P_writePair_31 : decode b_P_writePair 31 = .ok (.imul, 1) := by decide +kernel
theorem d_P_writePair_32 : decode b_P_writePair 32 = .ok (.iconst 1, 1) := by decide +kernel
theorem d_P_writePair_33 : decode b_P_writePair 33 = .ok (.iadd, 1) := by decide +kernel
theorem d_P_writePair_34 : decode b_P_writePair 34 = .ok (.iload_n 2, 1) := by decide +kernel
theorem d_P_writePair_35 : decode b_P_writePair 35 = .ok (.sipush 255, 3) := by decide +kernel
theorem d_P_writePair_38 : decode b_P_writePair 38 = .ok (.iand, 1) := by decide +kernel
theorem d_P_writePair_39 : decode b_P_writePair 39 = .ok (.iastore, 1) := by decide +kernel
theorem d_P_writePair_40 : decode b_P_writePair 40 = .ok (.return_, 1) := by decide +kernel
theorem d_F_init_0 : decode b_F_init 0 = .ok (.aload_n 0, 1) := by decide +kernel
theorem d_F_init_1 : decode b_F_init 1 = .ok (.invokespecial 3, 3) := by decide +kernel
theorem d_F_init_4 : decode b_F_init 4 = .ok (.return_, 1) := by decide +kernel
theorem d_F_asByte_0 : decode b_F_asByte 0 = .ok (.iconst 2, 1) := by decide +kernel
theorem d_F_asByte_1 : decode b_F_asByte 1 = .ok (.aload_n 0, 1) := by decide +kernel
theorem d_F_asByte_2 : decode b_F_asByte 2 = .ok (.getfield 11, 3) := by decide +kernel
theorem d_F_asByte_5 : decode b_F_asByte 5 = .ok (.ifCond .eq 9, 3) := by decide +kernel
theorem d_F_asByte_8 : decode b_F_asByte 8 = .ok (.sipush 128, 3) := by decide +kernel
theorem d_F_asByte_11 : decode b_F_asByte 11 = .ok (.goto 4, 3) := by decide +kernel
theorem d_F_asByte_14 : decode b_F_asByte 14 = .ok (.iconst 0, 1) := by decide +kernel
theorem d_F_asByte_15 : decode b_F_asByte 15 = .ok (.ior, 1) := by decide +kernel
theorem d_F_asByte_16 : decode b_F_asByte 16 = .ok (.aload_n 0, 1) := by decide +kernel
theorem d_F_asByte_17 : decode b_F_asByte 17 = .ok (.getfield 15, 3) := by decide +kernel
theorem d_F_asByte_20 : decode b_F_asByte 20 = .ok (.ifCond .eq 8, 3) := by decide +kernel
theorem d_F_asByte_23 : decode b_F_asByte 23 = .ok (.bipush 64, 2) := by decide +kernel
theorem d_F_asByte_25 : decode b_F_asByte 25 = .ok (.goto 4, 3) := by decide +kernel
theorem d_F_asByte_28 : decode b_F_asByte 28 = .ok (.iconst 0, 1) := by decide +kernel
theorem d_F_asByte_29 : decode b_F_asByte 29 = .ok (.ior, 1) := by decide +kernel
theorem d_F_asByte_30 : decode b_F_asByte 30 = .ok (.aload_n 0, 1) := by decide +kernel
theorem d_F_asByte_31 : decode b_F_asByte 31 = .ok (.getfield 18, 3) := by decide +kernel
theorem d_F_asByte_34 : decode b_F_asByte 34 = .ok (.ifCond .eq 8, 3) := by decide +kernel
theorem d_F_asByte_37 : decode b_F_asByte 37 = .ok (.bipush 16, 2) := by decide +kernel
theorem d_F_asByte_39 : decode b_F_asByte 39 = .ok (.goto 4, 3) := by decide +kernel
theorem d_F_asByte_42 : decode b_F_asByte 42 = .ok (.iconst 0, 1) := by decide +kernel
theorem d_F_asByte_43 : decode b_F_asByte 43 = .ok (.ior, 1) := by decide +kernel
theorem d_F_asByte_44 : decode b_F_asByte 44 = .ok (.aload_n 0, 1) := by decide +kernel
theorem d_F_asByte_45 : decode b_F_asByte 45 = .ok (.getfield 21, 3) := by decide +kernel
theorem d_F_asByte_48 : decode b_F_asByte 48 = .ok (.ifCond .eq 7, 3) := by decide +kernel
theorem d_F_asByte_51 : decode b_F_asByte 51 = .ok (.iconst 4, 1) := by decide +kernel
theorem d_F_asByte_52 : decode b_F_asByte 52 = .ok (.goto 4, 3) := by decide +kernel
theorem d_F_asByte_55 : decode b_F_asByte 55 = .ok (.iconst 0, 1) := by decide +kernel
theorem d_F_asByte_56 : decode b_F_asByte 56 = .ok (.ior, 1) := by decide +kernel
theorem d_F_asByte_57 : decode b_F_asByte 57 = .ok (.aload_n 0, 1) := by decide +kernel
theorem d_F_asByte_58 : decode b_F_asByte 58 = .ok (.getfield 24, 3) := by decide +kernel
theorem d_F_asByte_61 : decode b_F_asByte 61 = .ok (.ifCond .eq 7, 3) := by decide +kernel
theorem d_F_asByte_64 : decode b_F_asByte 64 = .ok (.iconst 1, 1) := by decide +kernel
theorem d_F_asByte_65 : decode b_F_asByte 65 = .ok (.goto 4, 3) := by decide +kernel
theorem d_F_asByte_68 : decode b_F_asByte 68 = .ok (.iconst 0, 1) := by decide +kernel
theorem d_F_asByte_69 : decode b_F_asByte 69 = .ok (.ior, 1) := by decide +kernel
theorem d_F_asByte_70 : decode b_F_asByte 70 = .ok (.ireturn, 1) := by decide +kernel
theorem d_F_takeByte_0 : decode b_F_takeByte 0 = .ok (.aload_n 0, 1) := by decide +kernel
theorem d_F_takeByte_1 : decode b_F_takeByte 1 = .ok (.iload_n 1, 1) := by decide +kernel
theorem d_F_takeByte_2 : decode b_F_takeByte 2 = .ok (.sipush 128, 3) := by decide +kernel
theorem d_F_takeByte_5 : decode b_F_takeByte 5 = .ok (.iand, 1) := by decide +kernel
theorem d_F_takeByte_6 : decode b_F_takeByte 6 = .ok (.ifCond .eq 7, 3) := by decide +kernel
theorem d_F_takeByte_9 : decode b_F_takeByte 9 = .ok (.iconst 1, 1) := by decide +kernel
theorem d_F_takeByte_10 : decode b_F_takeByte 10 = .ok (.goto 4, 3) := by decide +kernel
theorem d_F_takeByte_13 : decode b_F_takeByte 13 = .ok (.iconst 0, 1) := by decide +kernel
theorem d_F_takeByte_14 : decode b_F_takeByte 14 = .ok (.putfield 11, 3) := by decide +kernel
theorem d_F_takeByte_17 : decode b_F_takeByte 17 = .ok (.aload_n 0, 1) := by decide +kernel
theorem d_F_takeByte_18 : decode b_F_takeByte 18 = .ok (.iload_n 1, 1) := by decide +kernel
theorem d_F_takeByte_19 : decode b_F_takeByte 19 = .ok (.bipush 64, 2) := by decide +kernel
theorem d_F_takeByte_21 : decode b_F_takeByte 21 = .ok (.iand, 1) := by decide +kernel
theorem d_F_takeByte_22 : decode b_F_takeByte 22 = .ok (.ifCond .eq 7, 3) := by decide +kernel
theorem d_F_takeByte_25 : decode b_F_takeByte 25 = .ok (.iconst 1, 1) := by decide +kernel
theorem d_F_takeByte_26 : decode b_F_takeByte 26 = .ok (.goto 4, 3) := by decide +kernel
theorem d_F_takeByte_29 : decode b_F_takeByte 29 = .ok (.iconst 0, 1) := by decide +kernel
theorem d_F_takeByte_30 : decode b_F_takeByte 30 = .ok (.putfield 15, 3) := by decide +kernel
theorem d_F_takeByte_33 : decode b_F_takeByte 33 = .ok (.aload_n 0, 1) := by decide +kernel
theorem d_F_takeByte_34 : decode b_F_takeByte 34 = .ok (.iload_n 1, 1) := by decide +kernel
theorem d_F_takeByte_35 : decode b_F_takeByte 35 = .ok (.bipush 16, 2) := by decide +kernel
theorem d_F_takeByte_37 : decode b_F_takeByte 37 = .ok (.iand, 1) := by decide +kernel
theorem d_F_takeByte_38 : decode b_F_takeByte 38 = .ok (.ifCond .eq 7, 3) := by decide +kernel
theorem d_F_takeByte_41 : decode b_F_takeByte 41 = .ok (.iconst 1, 1) := by decide +kernel
theorem d_F_takeByte_42 : decode b_F_takeByte 42 = .ok (.goto 4, 3) := by decide +kernel
theorem d_F_takeByte_45 : decode b_F_takeByte 45 = .ok (.iconst 0, 1) := by decide +kernel
theorem d_F_takeByte_46 : decode b_F_takeByte 46 = .ok (.putfield 18, 3) := by decide +kernel
theorem d_F_takeByte_49 : decode b_F_takeByte 49 = .ok (.aload_n 0, 1) := by decide +kernel
theorem d_F_takeByte_50 : decode b_F_takeByte 50 = .ok (.iload_n 1, 1) := by decide +kernel
theorem d_F_takeByte_51 : decode b_F_takeByte 51 = .ok (.iconst 4, 1) := by decide +kernel
theorem d_F_takeByte_52 : decode b_F_takeByte 52 = .ok (.iand, 1) := by decide +kernel
theorem d_F_takeByte_53 : decode b_F_takeByte 53 = .ok (.ifCond .eq 7, 3) := by decide +kernel
theorem d_F_takeByte_56 : decode b_F_takeByte 56 = .ok (.iconst 1, 1) := by decide +kernel
theorem d_F_takeByte_57 : decode b_F_takeByte 57 = .ok (.goto 4, 3) := by decide +kernel
theorem d_F_takeByte_60 : decode b_F_takeByte 60 = .ok (.iconst 0, 1) := by decide +kernel
theorem d_F_takeByte_61 : decode b_F_takeByte 61 = .ok (.putfield 21, 3) := by decide +kernel
theorem d_F_takeByte_64 : decode b_F_takeByte 64 = .ok (.aload_n 0, 1) := by decide +kernel
theorem d_F_takeByte_65 : decode b_F_takeByte 65 = .ok (.iload_n 1, 1) := by decide +kernel
theorem d_F_takeByte_66 : decode b_F_takeByte 66 = .ok (.iconst 1, 1) := by decide +kernel
theorem d_F_takeByte_67 : decode b_F_takeByte 67 = .ok (.iand, 1) := by decide +kernel
theorem d_F_takeByte_68 : decode b_F_takeByte 68 = .ok (.ifCond .eq 7, 3) := by decide +kernel
theorem d_F_takeByte_71 : decode b_F_takeByte 71 = .ok (.iconst 1, 1) := by decide +kernel
theorem d_F_takeByte_72 : decode b_F_takeByte 72 = .ok (.goto 4, 3) := by decide +kernel
theorem d_F_takeByte_75 : decode b_F_takeByte 75 = .ok (.iconst 0, 1) := by decide +kernel
theorem d_F_takeByte_76 : decode b_F_takeByte 76 = .ok (.putfield 24, 3) := by decide +kernel
theorem d_F_takeByte_79 : decode b_F_takeByte 79 = .ok (.return_, 1) := by decide +kernel
theorem d_F_carryBit_0 : decode b_F_carryBit 0 = .ok (.aload_n 0, 1) := by decide +kernel
theorem d_F_carryBit_1 : decode b_F_carryBit 1 = .ok (.getfield 24, 3) := by decide +kernel
theorem d_F_carryBit_4 : decode b_F_carryBit 4 = .ok (.ifCond .eq 7, 3) := by decide +kernel
theorem d_F_carryBit_7 : decode b_F_carryBit 7 = .ok (.iconst 1, 1) := by decide +kernel
theorem d_F_carryBit_8 : decode b_F_carryBit 8 = .ok (.goto 4, 3) := by decide +kernel
theorem d_F_carryBit_11 : decode b_F_carryBit 11 = .ok (.iconst 0, 1) := by decide +kernel
theorem d_F_carryBit_12 : decode b_F_carryBit 12 = .ok (.ireturn, 1) := by decide +kernel
theorem d_F_takeCarry_0 : decode b_F_takeCarry 0 = .ok (.aload_n 0, 1) := by decide +kernel
theorem d_F_takeCarry_1 : decode b_F_takeCarry 1 = .ok (.iload_n 1, 1) := by decide +kernel
theorem d_F_takeCarry_2 : decode b_F_takeCarry 2 = .ok (.putfield 24, 3) := by decide +kernel
theorem d_F_takeCarry_5 : decode b_F_takeCarry 5 = .ok (.return_, 1) := by decide +kernel
theorem d_F_meet_0 : decode b_F_meet 0 = .ok (.aload_n 0, 1) := by decide +kernel
theorem d_F_meet_1 : decode b_F_meet 1 = .ok (.iload_n 1, 1) := by decide +kernel
theorem d_F_meet_2 : decode b_F_meet 2 = .ok (.iconst 1, 1) := by decide +kernel
theorem d_F_meet_3 : decode b_F_meet 3 = .ok (.ishr, 1) := by decide +kernel
theorem d_F_meet_4 : decode b_F_meet 4 = .ok (.invokevirtual 27, 3) := by decide +kernel
theorem d_F_meet_7 : decode b_F_meet 7 = .ok (.iload_n 1, 1) := by decide +kernel
theorem d_F_meet_8 : decode b_F_meet 8 = .ok (.iconst 1, 1) := by decide +kernel
theorem d_F_meet_9 : decode b_F_meet 9 = .ok (.iand, 1) := by decide +kernel
theorem d_F_meet_10 : decode b_F_meet 10 = .ok (.iconst 1, 1) := by decide +kernel
theorem d_F_meet_11 : decode b_F_meet 11 = .ok (.if_icmp .ne 7, 3) := by decide +kernel
theorem d_F_meet_14 : decode b_F_meet 14 = .ok (.iconst 1, 1) := by decide +kernel
theorem d_F_meet_15 : decode b_F_meet 15 = .ok (.goto 4, 3) := by decide +kernel
theorem d_F_meet_18 : decode b_F_meet 18 = .ok (.iconst 0, 1) := by decide +kernel
theorem d_F_meet_19 : decode b_F_meet 19 = .ok (.if_icmp .ne 7, 3) := by decide +kernel
theorem d_F_meet_22 : decode b_F_meet 22 = .ok (.iconst 1, 1) := by decide +kernel
theorem d_F_meet_23 : decode b_F_meet 23 = .ok (.goto 4, 3) := by decide +kernel
theorem d_F_meet_26 : decode b_F_meet 26 = .ok (.iconst 0, 1) := by decide +kernel
theorem d_F_meet_27 : decode b_F_meet 27 = .ok (.ireturn, 1) := by decide +kernel
theorem d_F_flagOfCondition_0 : decode b_F_flagOfCondition 0 = .ok (.iload_n 1, 1) := by decide +kernel
theorem d_F_flagOfCondition_1 : decode b_F_flagOfCondition 1 = .ok (.tableswitch 42 0 2 #[27, 32, 37], 27) := by decide +kernel
theorem d_F_flagOfCondition_28 : decode b_F_flagOfCondition 28 = .ok (.aload_n 0, 1) := by decide +kernel
theorem d_F_flagOfCondition_29 : decode b_F_flagOfCondition 29 = .ok (.getfield 15, 3) := by decide +kernel
theorem d_F_flagOfCondition_32 : decode b_F_flagOfCondition 32 = .ok (.ireturn, 1) := by decide +kernel
theorem d_F_flagOfCondition_33 : decode b_F_flagOfCondition 33 = .ok (.aload_n 0, 1) := by decide +kernel
theorem d_F_flagOfCondition_34 : decode b_F_flagOfCondition 34 = .ok (.getfield 24, 3) := by decide +kernel
theorem d_F_flagOfCondition_37 : decode b_F_flagOfCondition 37 = .ok (.ireturn, 1) := by decide +kernel
theorem d_F_flagOfCondition_38 : decode b_F_flagOfCondition 38 = .ok (.aload_n 0, 1) := by decide +kernel
theorem d_F_flagOfCondition_39 : decode b_F_flagOfCondition 39 = .ok (.getfield 21, 3) := by decide +kernel
theorem d_F_flagOfCondition_42 : decode b_F_flagOfCondition 42 = .ok (.ireturn, 1) := by decide +kernel
theorem d_F_flagOfCondition_43 : decode b_F_flagOfCondition 43 = .ok (.aload_n 0, 1) := by decide +kernel
theorem d_F_flagOfCondition_44 : decode b_F_flagOfCondition 44 = .ok (.getfield 11, 3) := by decide +kernel
theorem d_F_flagOfCondition_47 : decode b_F_flagOfCondition 47 = .ok (.ireturn, 1) := by decide +kernel
theorem d_F_combined_0 : decode b_F_combined 0 = .ok (.iload_n 1, 1) := by decide +kernel
theorem d_F_combined_1 : decode b_F_combined 1 = .ok (.tableswitch 137 0 6 #[43, 55, 137, 70, 85, 111, 124], 43) := by decide +kernel
theorem d_F_combined_44 : decode b_F_combined 44 = .ok (.aload_n 0, 1) := by decide +kernel
theorem d_F_combined_45 : decode b_F_combined 45 = .ok (.iload_n 2, 1) := by decide +kernel
theorem d_F_combined_46 : decode b_F_combined 46 = .ok (.iload_n 3, 1) := by decide +kernel
theorem d_F_combined_47 : decode b_F_combined 47 = .ok (.iconst 0, 1) := by decide +kernel
theorem d_F_combined_48 : decode b_F_combined 48 = .ok (.invokevirtual 31, 3) := by decide +kernel
theorem d_F_combined_51 : decode b_F_combined 51 = .ok (.istore 4, 2) := by decide +kernel
theorem d_F_combined_53 : decode b_F_combined 53 = .ok (.goto 94, 3) := by decide +kernel
theorem d_F_combined_56 : decode b_F_combined 56 = .ok (.aload_n 0, 1) := by decide +kernel
theorem d_F_combined_57 : decode b_F_combined 57 = .ok (.iload_n 2, 1) := by decide +kernel
theorem d_F_combined_58 : decode b_F_combined 58 = .ok (.iload_n 3, 1) := by decide +kernel
theorem d_F_combined_59 : decode b_F_combined 59 = .ok (.aload_n 0, 1) := by decide +kernel
theorem d_F_combined_60 : decode b_F_combined 60 = .ok (.invokevirtual 35, 3) := by decide +kernel
theorem d_F_combined_63 : decode b_F_combined 63 = .ok (.invokevirtual 31, 3) := by decide +kernel
theorem d_F_combined_66 : decode b_F_combined 66 = .ok (.istore 4, 2) := by decide +kernel
theorem d_F_combined_68 : decode b_F_combined 68 = .ok (.goto 79, 3) := by decide +kernel
theorem d_F_combined_71 : decode b_F_combined 71 = .ok (.aload_n 0, 1) := by decide +kernel
theorem d_F_combined_72 : decode b_F_combined 72 = .ok (.iload_n 2, 1) := by decide +kernel
theorem d_F_combined_73 : decode b_F_combined 73 = .ok (.iload_n 3, 1) := by decide +kernel
theorem d_F_combined_74 : decode b_F_combined 74 = .ok (.aload_n 0, 1) := by decide +kernel
theorem d_F_combined_75 : decode b_F_combined 75 = .ok (.invokevirtual 35, 3) := by decide +kernel
theorem d_F_combined_78 : decode b_F_combined 78 = .ok (.invokevirtual 39, 3) := by decide +kernel
theorem d_F_combined_81 : decode b_F_combined 81 = .ok (.istore 4, 2) := by decide +kernel
theorem d_F_combined_83 : decode b_F_combined 83 = .ok (.goto 64, 3) := by decide +kernel
theorem d_F_combined_86 : decode b_F_combined 86 = .ok (.aload_n 0, 1) := by decide +kernel
theorem d_F_combined_87 : decode b_F_combined 87 = .ok (.iload_n 2, 1) := by decide +kernel
theorem d_F_combined_88 : decode b_F_combined 88 = .ok (.iload_n 3, 1) := by decide +kernel
theorem d_F_combined_89 : decode b_F_combined 89 = .ok (.iand, 1) := by decide +kernel
theorem d_F_combined_90 : decode b_F_combined 90 = .ok (.iload_n 2, 1) := by decide +kernel
theorem d_F_combined_91 : decode b_F_combined 91 = .ok (.iload_n 3, 1) := by decide +kernel
theorem d_F_combined_92 : decode b_F_combined 92 = .ok (.ior, 1) := by decide +kernel
theorem d_F_combined_93 : decode b_F_combined 93 = .ok (.bipush 8, 2) := by decide +kernel
theorem d_F_combined_95 : decode b_F_combined 95 = .ok (.iand, 1) := by decide +kernel
theorem d_F_combined_96 : decode b_F_combined 96 = .ok (.ifCond .eq 7, 3) := by decide +kernel
theorem d_F_combined_99 : decode b_F_combined 99 = .ok (.iconst 1, 1) := by decide +kernel
theorem d_F_combined_100 : decode b_F_combined 100 = .ok (.goto 4, 3) := by decide +kernel
theorem d_F_combined_103 : decode b_F_combined 103 = .ok (.iconst 0, 1) := by decide +kernel
theorem d_F_combined_104 : decode b_F_combined 104 = .ok (.invokevirtual 42, 3) := by decide +kernel
theorem d_F_combined_107 : decode b_F_combined 107 = .ok (.istore 4, 2) := by decide +kernel
theorem d_F_combined_109 : decode b_F_combined 109 = .ok (.goto 38, 3) := by decide +kernel
theorem d_F_combined_112 : decode b_F_combined 112 = .ok (.aload_n 0, 1) := by decide +kernel
theorem d_F_combined_113 : decode b_F_combined 113 = .ok (.iload_n 2, 1) := by decide +kernel
theorem d_F_combined_114 : decode b_F_combined 114 = .ok (.iload_n 3, 1) := by decide +kernel
theorem d_F_combined_115 : decode b_F_combined 115 = .ok (.ixor, 1) := by decide +kernel
theorem d_F_combined_116 : decode b_F_combined 116 = .ok (.iconst 0, 1) := by decide +kernel
theorem d_F_combined_117 : decode b_F_combined 117 = .ok (.invokevirtual 42, 3) := by decide +kernel
theorem d_F_combined_120 : decode b_F_combined 120 = .ok (.istore 4, 2) := by decide +kernel
theorem d_F_combined_122 : decode b_F_combined 122 = .ok (.goto 25, 3) := by decide +kernel
theorem d_F_combined_125 : decode b_F_combined 125 = .ok (.aload_n 0, 1) := by decide +kernel
theorem d_F_combined_126 : decode b_F_combined 126 = .ok (.iload_n 2, 1) := by decide +kernel
theorem d_F_combined_127 : decode b_F_combined 127 = .ok (.iload_n 3, 1) := by decide +kernel
theorem d_F_combined_128 : decode b_F_combined 128 = .ok (.ior, 1) := by decide +kernel
theorem d_F_combined_129 : decode b_F_combined 129 = .ok (.iconst 0, 1) := by decide +kernel
theorem d_F_combined_130 : decode b_F_combined 130 = .ok (.invokevirtual 42, 3) := by decide +kernel
theorem d_F_combined_133 : decode b_F_combined 133 = .ok (.istore 4, 2) := by decide +kernel
theorem d_F_combined_135 : decode b_F_combined 135 = .ok (.goto 12, 3) := by decide +kernel
theorem d_F_combined_138 : decode b_F_combined 138 = .ok (.aload_n 0, 1) := by decide +kernel
theorem d_F_combined_139 : decode b_F_combined 139 = .ok (.iload_n 2, 1) := by decide +kernel
theorem d_F_combined_140 : decode b_F_combined 140 = .ok (.iload_n 3, 1) := by decide +kernel
theorem d_F_combined_141 : decode b_F_combined 141 = .ok (.iconst 0, 1) := by decide +kernel
theorem d_F_combined_142 : decode b_F_combined 142 = .ok (.invokevirtual 39, 3) := by decide +kernel
theorem d_F_combined_145 : decode b_F_combined 145 = .ok (.istore 4, 2) := by decide +kernel
theorem d_F_combined_147 : decode b_F_combined 147 = .ok (.aload_n 0, 1) := by decide +kernel
theorem d_F_combined_148 : decode b_F_combined 148 = .ok (.iload 4, 2) := by decide +kernel
theorem d_F_combined_150 : decode b_F_combined 150 = .ok (.invokevirtual 46, 3) := by decide +kernel
theorem d_F_combined_153 : decode b_F_combined 153 = .ok (.iload_n 1, 1) := by decide +kernel
theorem d_F_combined_154 : decode b_F_combined 154 = .ok (.bipush 7, 2) := by decide +kernel
theorem d_F_combined_156 : decode b_F_combined 156 = .ok (.if_icmp .ne 7, 3) := by decide +kernel
theorem d_F_combined_159 : decode b_F_combined 159 = .ok (.iload_n 2, 1) := by decide +kernel
theorem d_F_combined_160 : decode b_F_combined 160 = .ok (.goto 5, 3) := by decide +kernel
theorem d_F_combined_163 : decode b_F_combined 163 = .ok (.iload 4, 2) := by decide +kernel
theorem d_F_combined_165 : decode b_F_combined 165 = .ok (.ireturn, 1) := by decide +kernel
theorem d_F_sum_0 : decode b_F_sum 0 = .ok (.iload_n 1, 1) := by decide +kernel
theorem d_F_sum_1 : decode b_F_sum 1 = .ok (.iload_n 2, 1) := by decide +kernel
theorem d_F_sum_2 : decode b_F_sum 2 = .ok (.iadd, 1) := by decide +kernel
theorem d_F_sum_3 : decode b_F_sum 3 = .ok (.iload_n 3, 1) := by decide +kernel
theorem d_F_sum_4 : decode b_F_sum 4 = .ok (.iadd, 1) := by decide +kernel
theorem d_F_sum_5 : decode b_F_sum 5 = .ok (.istore 4, 2) := by decide +kernel
theorem d_F_sum_7 : decode b_F_sum 7 = .ok (.aload_n 0, 1) := by decide +kernel
theorem d_F_sum_8 : decode b_F_sum 8 = .ok (.iload_n 1, 1) := by decide +kernel
theorem d_F_sum_9 : decode b_F_sum 9 = .ok (.bipush 15, 2) := by decide +kernel
theorem d_F_sum_11 : decode b_F_sum 11 = .ok (.iand, 1) := by decide +kernel
theorem d_F_sum_12 : decode b_F_sum 12 = .ok (.iload_n 2, 1) := by decide +kernel
theorem d_F_sum_13 : decode b_F_sum 13 = .ok (.bipush 15, 2) := by decide +kernel
theorem d_F_sum_15 : decode b_F_sum 15 = .ok (.iand, 1) := by decide +kernel
theorem d_F_sum_16 : decode b_F_sum 16 = .ok (.iadd, 1) := by decide +kernel
theorem d_F_sum_17 : decode b_F_sum 17 = .ok (.iload_n 3, 1) := by decide +kernel
theorem d_F_sum_18 : decode b_F_sum 18 = .ok (.iadd, 1) := by decide +kernel
theorem d_F_sum_19 : decode b_F_sum 19 = .ok (.bipush 15, 2) := by decide +kernel
theorem d_F_sum_21 : decode b_F_sum 21 = .ok (.if_icmp .le 7, 3) := by decide +kernel
theorem d_F_sum_24 : decode b_F_sum 24 = .ok (.iconst 1, 1) := by decide +kernel
theorem d_F_sum_25 : decode b_F_sum 25 = .ok (.goto 4, 3) := by decide +kernel
theorem d_F_sum_28 : decode b_F_sum 28 = .ok (.iconst 0, 1) := by decide +kernel
theorem d_F_sum_29 : decode b_F_sum 29 = .ok (.putfield 18, 3) := by decide +kernel
theorem d_F_sum_32 : decode b_F_sum 32 = .ok (.aload_n 0, 1) := by decide +kernel
theorem d_F_sum_33 : decode b_F_sum 33 = .ok (.iload 4, 2) := by decide +kernel
theorem d_F_sum_35 : decode b_F_sum 35 = .ok (.sipush 255, 3) := by decide +kernel
theorem d_F_sum_38 : decode b_F_sum 38 = .ok (.if_icmp .le 7, 3) := by decide +kernel
theorem d_F_sum_41 : decode b_F_sum 41 = .ok (.iconst 1, 1) := by decide +kernel
theorem d_F_sum_42 : decode b_F_sum 42 = .ok (.goto 4, 3) := by decide +kernel
theorem d_F_sum_45 : decode b_F_sum 45 = .ok (.iconst 0, 1) := by decide +kernel
theorem d_F_sum_46 : decode b_F_sum 46 = .ok (.putfield 24, 3) := by decide +kernel
theorem d_F_sum_49 : decode b_F_sum 49 = .ok (.iload 4, 2) := by decide +kernel
theorem d_F_sum_51 : decode b_F_sum 51 = .ok (.sipush 255, 3) := by decide +kernel
theorem d_F_sum_54 : decode b_F_sum 54 = .ok (.iand, 1) := by decide +kernel
theorem d_F_sum_55 : decode b_F_sum 55 = .ok (.ireturn, 1) := by decide +kernel
theorem d_F_difference_0 : decode b_F_difference 0 = .ok (.aload_n 0, 1) := by decide +kernel
theorem d_F_difference_1 : decode b_F_difference 1 = .ok (.iload_n 1, 1) := by decide +kernel
theorem d_F_difference_2 : decode b_F_difference 2 = .ok (.sipush 255, 3) := by decide +kernel
theorem d_F_difference_5 : decode b_F_difference 5 = .ok (.iload_n 2, 1) := by decide +kernel
theorem d_F_difference_6 : decode b_F_difference 6 = .ok (.isub, 1) := by decide +kernel
theorem d_F_difference_7 : decode b_F_difference 7 = .ok (.iconst 1, 1) := by decide +kernel
theorem d_F_difference_8 : decode b_F_difference 8 = .ok (.iload_n 3, 1) := by decide +kernel
theorem d_F_difference_9 : decode b_F_difference 9 = .ok (.isub, 1) := by decide +kernel
theorem d_F_difference_10 : decode b_F_difference 10 = .ok (.invokevirtual 31, 3) := by decide +kernel
theorem d_F_difference_13 : decode b_F_difference 13 = .ok (.istore 4, 2) := by decide +kernel
theorem d_F_difference_15 : decode b_F_difference 15 = .ok (.aload_n 0, 1) := by decide +kernel
theorem d_F_difference_16 : decode b_F_difference 16 = .ok (.aload_n 0, 1) := by decide +kernel
theorem d_F_difference_17 : decode b_F_difference 17 = .ok (.getfield 24, 3) := by decide +kernel
theorem d_F_difference_20 : decode b_F_difference 20 = .ok (.ifCond .ne 7, 3) := by decide +kernel
theorem d_F_difference_23 : decode b_F_difference 23 = .ok (.iconst 1, 1) := by decide +kernel
theorem d_F_difference_24 : decode b_F_difference 24 = .ok (.goto 4, 3) := by decide +kernel
theorem d_F_difference_27 : decode b_F_difference 27 = .ok (.iconst 0, 1) := by decide +kernel
theorem d_F_difference_28 : decode b_F_difference 28 = .ok (.putfield 24, 3) := by decide +kernel
theorem d_F_difference_31 : decode b_F_difference 31 = .ok (.iload 4, 2) := by decide +kernel
theorem d_F_difference_33 : decode b_F_difference 33 = .ok (.ireturn, 1) := by decide +kernel
theorem d_F_logical_0 : decode b_F_logical 0 = .ok (.aload_n 0, 1) := by decide +kernel
theorem d_F_logical_1 : decode b_F_logical 1 = .ok (.iload_n 2, 1) := by decide +kernel
theorem d_F_logical_2 : decode b_F_logical 2 = .ok (.putfield 18, 3) := by decide +kernel
theorem d_F_logical_5 : decode b_F_logical 5 = .ok (.aload_n 0, 1) := by decide +kernel
theorem d_F_logical_6 : decode b_F_logical 6 = .ok (.iconst 0, 1) := by decide +kernel
theorem d_F_logical_7 : decode b_F_logical 7 = .ok (.putfield 24, 3) := by decide +kernel
theorem d_F_logical_10 : decode b_F_logical 10 = .ok (.iload_n 1, 1) := by decide +kernel
theorem d_F_logical_11 : decode b_F_logical 11 = .ok (.ireturn, 1) := by decide +kernel
theorem d_F_raised_0 : decode b_F_raised 0 = .ok (.iload_n 1, 1) := by decide +kernel
theorem d_F_raised_1 : decode b_F_raised 1 = .ok (.iconst 1, 1) := by decide +kernel
theorem d_F_raised_2 : decode b_F_raised 2 = .ok (.iadd, 1) := by decide +kernel
theorem d_F_raised_3 : decode b_F_raised 3 = .ok (.sipush 255, 3) := by decide +kernel
theorem d_F_raised_6 : decode b_F_raised 6 = .ok (.iand, 1) := by decide +kernel
theorem d_F_raised_7 : decode b_F_raised 7 = .ok (.istore_n 2, 1) := by decide +kernel
theorem d_F_raised_8 : decode b_F_raised 8 = .ok (.aload_n 0, 1) := by decide +kernel
theorem d_F_raised_9 : decode b_F_raised 9 = .ok (.iload_n 2, 1) := by decide +kernel
theorem d_F_raised_10 : decode b_F_raised 10 = .ok (.bipush 15, 2) := by decide +kernel
theorem d_F_raised_12 : decode b_F_raised 12 = .ok (.iand, 1) := by decide +kernel
theorem d_F_raised_13 : decode b_F_raised 13 = .ok (.ifCond .ne 7, 3) := by decide +kernel
theorem d_F_raised_16 : decode b_F_raised 16 = .ok (.iconst 1, 1) := by decide +kernel
theorem d_F_raised_17 : decode b_F_raised 17 = .ok (.goto 4, 3) := by decide +kernel
theorem d_F_raised_20 : decode b_F_raised 20 = .ok (.iconst 0, 1) := by decide +kernel
theorem d_F_raised_21 : decode b_F_raised 21 = .ok (.putfield 18, 3) := by decide +kernel
theorem d_F_raised_24 : decode b_F_raised 24 = .ok (.aload_n 0, 1) := by decide +kernel
theorem d_F_raised_25 : decode b_F_raised 25 = .ok (.iload_n 2, 1) := by decide +kernel
theorem d_F_raised_26 : decode b_F_raised 26 = .ok (.invokevirtual 46, 3) := by decide +kernel
theorem d_F_raised_29 : decode b_F_raised 29 = .ok (.iload_n 2, 1) := by decide +kernel
theorem d_F_raised_30 : decode b_F_raised 30 = .ok (.ireturn, 1) := by decide +kernel
theorem d_F_lowered_0 : decode b_F_lowered 0 = .ok (.iload_n 1, 1) := by decide +kernel
theorem d_F_lowered_1 : decode b_F_lowered 1 = .ok (.iconst 1, 1) := by decide +kernel
theorem d_F_lowered_2 : decode b_F_lowered 2 = .ok (.isub, 1) := by decide +kernel
theorem d_F_lowered_3 : decode b_F_lowered 3 = .ok (.sipush 255, 3) := by decide +kernel
theorem d_F_lowered_6 : decode b_F_lowered 6 = .ok (.iand, 1) := by decide +kernel
theorem d_F_lowered_7 : decode b_F_lowered 7 = .ok (.istore_n 2, 1) := by decide +kernel
theorem d_F_lowered_8 : decode b_F_lowered 8 = .ok (.aload_n 0, 1) := by decide +kernel
theorem d_F_lowered_9 : decode b_F_lowered 9 = .ok (.iload_n 2, 1) := by decide +kernel
theorem d_F_lowered_10 : decode b_F_lowered 10 = .ok (.bipush 15, 2) := by decide +kernel
theorem d_F_lowered_12 : decode b_F_lowered 12 = .ok (.iand, 1) := by decide +kernel
theorem d_F_lowered_13 : decode b_F_lowered 13 = .ok (.bipush 15, 2) := by decide +kernel
theorem d_F_lowered_15 : decode b_F_lowered 15 = .ok (.if_icmp .eq 7, 3) := by decide +kernel
theorem d_F_lowered_18 : decode b_F_lowered 18 = .ok (.iconst 1, 1) := by decide +kernel
theorem d_F_lowered_19 : decode b_F_lowered 19 = .ok (.goto 4, 3) := by decide +kernel
theorem d_F_lowered_22 : decode b_F_lowered 22 = .ok (.iconst 0, 1) := by decide +kernel
theorem d_F_lowered_23 : decode b_F_lowered 23 = .ok (.putfield 18, 3) := by decide +kernel
theorem d_F_lowered_26 : decode b_F_lowered 26 = .ok (.aload_n 0, 1) := by decide +kernel
theorem d_F_lowered_27 : decode b_F_lowered 27 = .ok (.iload_n 2, 1) := by decide +kernel
theorem d_F_lowered_28 : decode b_F_lowered 28 = .ok (.invokevirtual 46, 3) := by decide +kernel
theorem d_F_lowered_31 : decode b_F_lowered 31 = .ok (.iload_n 2, 1) := by decide +kernel
theorem d_F_lowered_32 : decode b_F_lowered 32 = .ok (.ireturn, 1) := by decide +kernel
theorem d_F_turnedLeft_0 : decode b_F_turnedLeft 0 = .ok (.aload_n 0, 1) := by decide +kernel
theorem d_F_turnedLeft_1 : decode b_F_turnedLeft 1 = .ok (.iload_n 1, 1) := by decide +kernel
theorem d_F_turnedLeft_2 : decode b_F_turnedLeft 2 = .ok (.sipush 128, 3) := by decide +kernel
theorem d_F_turnedLeft_5 : decode b_F_turnedLeft 5 = .ok (.iand, 1) := by decide +kernel
theorem d_F_turnedLeft_6 : decode b_F_turnedLeft 6 = .ok (.ifCond .eq 7, 3) := by decide +kernel
theorem d_F_turnedLeft_9 : decode b_F_turnedLeft 9 = .ok (.iconst 1, 1) := by decide +kernel
theorem d_F_turnedLeft_10 : decode b_F_turnedLeft 10 = .ok (.goto 4, 3) := by decide +kernel
theorem d_F_turnedLeft_13 : decode b_F_turnedLeft 13 = .ok (.iconst 0, 1) := by decide +kernel
theorem d_F_turnedLeft_14 : decode b_F_turnedLeft 14 = .ok (.putfield 24, 3) := by decide +kernel
theorem d_F_turnedLeft_17 : decode b_F_turnedLeft 17 = .ok (.iload_n 1, 1) := by decide +kernel
theorem d_F_turnedLeft_18 : decode b_F_turnedLeft 18 = .ok (.iconst 1, 1) := by decide +kernel
theorem d_F_turnedLeft_19 : decode b_F_turnedLeft 19 = .ok (.ishl, 1) := by decide +kernel
theorem d_F_turnedLeft_20 : decode b_F_turnedLeft 20 = .ok (.iload_n 2, 1) := by decide +kernel
theorem d_F_turnedLeft_21 : decode b_F_turnedLeft 21 = .ok (.ior, 1) := by decide +kernel
theorem d_F_turnedLeft_22 : decode b_F_turnedLeft 22 = .ok (.sipush 255, 3) := by decide +kernel
theorem d_F_turnedLeft_25 : decode b_F_turnedLeft 25 = .ok (.iand, 1) := by decide +kernel
theorem d_F_turnedLeft_26 : decode b_F_turnedLeft 26 = .ok (.ireturn, 1) := by decide +kernel
theorem d_F_turnedRight_0 : decode b_F_turnedRight 0 = .ok (.aload_n 0, 1) := by decide +kernel
theorem d_F_turnedRight_1 : decode b_F_turnedRight 1 = .ok (.iload_n 1, 1) := by decide +kernel
theorem d_F_turnedRight_2 : decode b_F_turnedRight 2 = .ok (.iconst 1, 1) := by decide +kernel
theorem d_F_turnedRight_3 : decode b_F_turnedRight 3 = .ok (.iand, 1) := by decide +kernel
theorem d_F_turnedRight_4 : decode b_F_turnedRight 4 = .ok (.ifCond .eq 7, 3) := by decide +kernel
theorem d_F_turnedRight_7 : decode b_F_turnedRight 7 = .ok (.iconst 1, 1) := by decide +kernel
theorem d_F_turnedRight_8 : decode b_F_turnedRight 8 = .ok (.goto 4, 3) := by decide +kernel
theorem d_F_turnedRight_11 : decode b_F_turnedRight 11 = .ok (.iconst 0, 1) := by decide +kernel
theorem d_F_turnedRight_12 : decode b_F_turnedRight 12 = .ok (.putfield 24, 3) := by decide +kernel
theorem d_F_turnedRight_15 : decode b_F_turnedRight 15 = .ok (.iload_n 1, 1) := by decide +kernel
theorem d_F_turnedRight_16 : decode b_F_turnedRight 16 = .ok (.iconst 1, 1) := by decide +kernel
theorem d_F_turnedRight_17 : decode b_F_turnedRight 17 = .ok (.ishr, 1) := by decide +kernel
theorem d_F_turnedRight_18 : decode b_F_turnedRight 18 = .ok (.iload_n 2, 1) := by decide +kernel
theorem d_F_turnedRight_19 : decode b_F_turnedRight 19 = .ok (.bipush 7, 2) := by decide +kernel
theorem d_F_turnedRight_21 : decode b_F_turnedRight 21 = .ok (.ishl, 1) := by decide +kernel
theorem d_F_turnedRight_22 : decode b_F_turnedRight 22 = .ok (.ior, 1) := by decide +kernel
theorem d_F_turnedRight_23 : decode b_F_turnedRight 23 = .ok (.ireturn, 1) := by decide +kernel
theorem d_F_decimalOf_0 : decode b_F_decimalOf 0 = .ok (.iload_n 1, 1) := by decide +kernel
theorem d_F_decimalOf_1 : decode b_F_decimalOf 1 = .ok (.bipush 15, 2) := by decide +kernel
theorem d_F_decimalOf_3 : decode b_F_decimalOf 3 = .ok (.iand, 1) := by decide +kernel
theorem d_F_decimalOf_4 : decode b_F_decimalOf 4 = .ok (.bipush 9, 2) := by decide +kernel
theorem d_F_decimalOf_6 : decode b_F_decimalOf 6 = .ok (.if_icmp .gt 10, 3) := by decide +kernel
theorem d_F_decimalOf_9 : decode b_F_decimalOf 9 = .ok (.aload_n 0, 1) := by decide +kernel
theorem d_F_decimalOf_10 : decode b_F_decimalOf 10 = .ok (.getfield 18, 3) := by decide +kernel
theorem d_F_decimalOf_13 : decode b_F_decimalOf 13 = .ok (.ifCond .eq 7, 3) := by decide +kernel
theorem d_F_decimalOf_16 : decode b_F_decimalOf 16 = .ok (.iconst 1, 1) := by decide +kernel
theorem d_F_decimalOf_17 : decode b_F_decimalOf 17 = .ok (.goto 4, 3) := by decide +kernel
theorem d_F_decimalOf_20 : decode b_F_decimalOf 20 = .ok (.iconst 0, 1) := by decide +kernel
theorem d_F_decimalOf_21 : decode b_F_decimalOf 21 = .ok (.istore_n 2, 1) := by decide +kernel
theorem d_F_decimalOf_22 : decode b_F_decimalOf 22 = .ok (.iload_n 2, 1) := by decide +kernel
theorem d_F_decimalOf_23 : decode b_F_decimalOf 23 = .ok (.ifCond .eq 10, 3) := by decide +kernel
theorem d_F_decimalOf_26 : decode b_F_decimalOf 26 = .ok (.iload_n 1, 1) := by decide +kernel
theorem d_F_decimalOf_27 : decode b_F_decimalOf 27 = .ok (.bipush 6, 2) := by decide +kernel
theorem d_F_decimalOf_29 : decode b_F_decimalOf 29 = .ok (.iadd, 1) := by decide +kernel
theorem d_F_decimalOf_30 : decode b_F_decimalOf 30 = .ok (.goto 4, 3) := by decide +kernel
theorem d_F_decimalOf_33 : decode b_F_decimalOf 33 = .ok (.iload_n 1, 1) := by decide +kernel
theorem d_F_decimalOf_34 : decode b_F_decimalOf 34 = .ok (.istore_n 3, 1) := by decide +kernel
theorem d_F_decimalOf_35 : decode b_F_decimalOf 35 = .ok (.aload_n 0, 1) := by decide +kernel
theorem d_F_decimalOf_36 : decode b_F_decimalOf 36 = .ok (.iload_n 2, 1) := by decide +kernel
theorem d_F_decimalOf_37 : decode b_F_decimalOf 37 = .ok (.ifCond .eq 19, 3) := by decide +kernel
theorem d_F_decimalOf_40 : decode b_F_decimalOf 40 = .ok (.iload_n 1, 1) := by decide +kernel
theorem d_F_decimalOf_41 : decode b_F_decimalOf 41 = .ok (.bipush 15, 2) := by decide +kernel
theorem d_F_decimalOf_43 : decode b_F_decimalOf 43 = .ok (.iand, 1) := by decide +kernel
theorem d_F_decimalOf_44 : decode b_F_decimalOf 44 = .ok (.bipush 6, 2) := by decide +kernel
theorem d_F_decimalOf_46 : decode b_F_decimalOf 46 = .ok (.iadd, 1) := by decide +kernel
theorem d_F_decimalOf_47 : decode b_F_decimalOf 47 = .ok (.bipush 15, 2) := by decide +kernel
theorem d_F_decimalOf_49 : decode b_F_decimalOf 49 = .ok (.if_icmp .le 7, 3) := by decide +kernel
theorem d_F_decimalOf_52 : decode b_F_decimalOf 52 = .ok (.iconst 1, 1) := by decide +kernel
theorem d_F_decimalOf_53 : decode b_F_decimalOf 53 = .ok (.goto 4, 3) := by decide +kernel
theorem d_F_decimalOf_56 : decode b_F_decimalOf 56 = .ok (.iconst 0, 1) := by decide +kernel
theorem d_F_decimalOf_57 : decode b_F_decimalOf 57 = .ok (.putfield 18, 3) := by decide +kernel
theorem d_F_decimalOf_60 : decode b_F_decimalOf 60 = .ok (.iload_n 3, 1) := by decide +kernel
theorem d_F_decimalOf_61 : decode b_F_decimalOf 61 = .ok (.sipush 159, 3) := by decide +kernel
theorem d_F_decimalOf_64 : decode b_F_decimalOf 64 = .ok (.if_icmp .gt 10, 3) := by decide +kernel
theorem d_F_decimalOf_67 : decode b_F_decimalOf 67 = .ok (.aload_n 0, 1) := by decide +kernel
theorem d_F_decimalOf_68 : decode b_F_decimalOf 68 = .ok (.getfield 24, 3) := by decide +kernel
theorem d_F_decimalOf_71 : decode b_F_decimalOf 71 = .ok (.ifCond .eq 11, 3) := by decide +kernel
theorem d_F_decimalOf_74 : decode b_F_decimalOf 74 = .ok (.iinc 3 96, 3) := by decide +kernel
theorem d_F_decimalOf_77 : decode b_F_decimalOf 77 = .ok (.aload_n 0, 1) := by decide +kernel
theorem d_F_decimalOf_78 : decode b_F_decimalOf 78 = .ok (.iconst 1, 1) := by decide +kernel
theorem d_F_decimalOf_79 : decode b_F_decimalOf 79 = .ok (.putfield 24, 3) := by decide +kernel
theorem d_F_decimalOf_82 : decode b_F_decimalOf 82 = .ok (.iload_n 3, 1) := by decide +kernel
theorem d_F_decimalOf_83 : decode b_F_decimalOf 83 = .ok (.sipush 255, 3) := by decide +kernel
theorem d_F_decimalOf_86 : decode b_F_decimalOf 86 = .ok (.iand, 1) := by decide +kernel
theorem d_F_decimalOf_87 : decode b_F_decimalOf 87 = .ok (.istore 4, 2) := by decide +kernel
theorem d_F_decimalOf_89 : decode b_F_decimalOf 89 = .ok (.aload_n 0, 1) := by decide +kernel
theorem d_F_decimalOf_90 : decode b_F_decimalOf 90 = .ok (.iload 4, 2) := by decide +kernel
theorem d_F_decimalOf_92 : decode b_F_decimalOf 92 = .ok (.invokevirtual 46, 3) := by decide +kernel
theorem d_F_decimalOf_95 : decode b_F_decimalOf 95 = .ok (.iload 4, 2) := by decide +kernel
theorem d_F_decimalOf_97 : decode b_F_decimalOf 97 = .ok (.ireturn, 1) := by decide +kernel
theorem d_F_judge_0 : decode b_F_judge 0 = .ok (.aload_n 0, 1) := by decide +kernel
theorem d_F_judge_1 : decode b_F_judge 1 = .ok (.iload_n 1, 1) := by decide +kernel
theorem d_F_judge_2 : decode b_F_judge 2 = .ok (.sipush 128, 3) := by decide +kernel
theorem d_F_judge_5 : decode b_F_judge 5 = .ok (.iand, 1) := by decide +kernel
theorem d_F_judge_6 : decode b_F_judge 6 = .ok (.ifCond .eq 7, 3) := by decide +kernel
theorem d_F_judge_9 : decode b_F_judge 9 = .ok (.iconst 1, 1) := by decide +kernel
theorem d_F_judge_10 : decode b_F_judge 10 = .ok (.goto 4, 3) := by decide +kernel
theorem d_F_judge_13 : decode b_F_judge 13 = .ok (.iconst 0, 1) := by decide +kernel
theorem d_F_judge_14 : decode b_F_judge 14 = .ok (.putfield 11, 3) := by decide +kernel
theorem d_F_judge_17 : decode b_F_judge 17 = .ok (.aload_n 0, 1) := by decide +kernel
theorem d_F_judge_18 : decode b_F_judge 18 = .ok (.iload_n 1, 1) := by decide +kernel
theorem d_F_judge_19 : decode b_F_judge 19 = .ok (.ifCond .ne 7, 3) := by decide +kernel
theorem d_F_judge_22 : decode b_F_judge 22 = .ok (.iconst 1, 1) := by decide +kernel
theorem d_F_judge_23 : decode b_F_judge 23 = .ok (.goto 4, 3) := by decide +kernel
theorem d_F_judge_26 : decode b_F_judge 26 = .ok (.iconst 0, 1) := by decide +kernel
theorem d_F_judge_27 : decode b_F_judge 27 = .ok (.putfield 15, 3) := by decide +kernel
theorem d_F_judge_30 : decode b_F_judge 30 = .ok (.aload_n 0, 1) := by decide +kernel
theorem d_F_judge_31 : decode b_F_judge 31 = .ok (.iload_n 1, 1) := by decide +kernel
theorem d_F_judge_32 : decode b_F_judge 32 = .ok (.invokestatic 50, 3) := by decide +kernel
theorem d_F_judge_35 : decode b_F_judge 35 = .ok (.iconst 1, 1) := by decide +kernel
theorem d_F_judge_36 : decode b_F_judge 36 = .ok (.iand, 1) := by decide +kernel
theorem d_F_judge_37 : decode b_F_judge 37 = .ok (.ifCond .ne 7, 3) := by decide +kernel
theorem d_F_judge_40 : decode b_F_judge 40 = .ok (.iconst 1, 1) := by decide +kernel
theorem d_F_judge_41 : decode b_F_judge 41 = .ok (.goto 4, 3) := by decide +kernel
theorem d_F_judge_44 : decode b_F_judge 44 = .ok (.iconst 0, 1) := by decide +kernel
theorem d_F_judge_45 : decode b_F_judge 45 = .ok (.putfield 21, 3) := by decide +kernel
theorem d_F_judge_48 : decode b_F_judge 48 = .ok (.return_, 1) := by decide +kernel
theorem d_M_init_0 : decode b_M_init 0 = .ok (.aload_n 0, 1) := by decide +kernel
theorem d_M_init_1 : decode b_M_init 1 = .ok (.invokespecial 3, 3) := by decide +kernel
theorem d_M_init_4 : decode b_M_init 4 = .ok (.aload_n 0, 1) := by decide +kernel
theorem d_M_init_5 : decode b_M_init 5 = .ok (.sipush 1024, 3) := by decide +kernel
theorem d_M_init_8 : decode b_M_init 8 = .ok (.newarray .int, 2) := by decide +kernel
theorem d_M_init_10 : decode b_M_init 10 = .ok (.putfield 11, 3) := by decide +kernel
theorem d_M_init_13 : decode b_M_init 13 = .ok (.return_, 1) := by decide +kernel
theorem d_M_read_0 : decode b_M_read 0 = .ok (.iload_n 1, 1) := by decide +kernel
theorem d_M_read_1 : decode b_M_read 1 = .ok (.ifCond .lt 19, 3) := by decide +kernel
theorem d_M_read_4 : decode b_M_read 4 = .ok (.iload_n 1, 1) := by decide +kernel
theorem d_M_read_5 : decode b_M_read 5 = .ok (.sipush 1024, 3) := by decide +kernel
theorem d_M_read_8 : decode b_M_read 8 = .ok (.if_icmp .ge 12, 3) := by decide +kernel
theorem d_M_read_11 : decode b_M_read 11 = .ok (.aload_n 0, 1) := by decide +kernel
theorem d_M_read_12 : decode b_M_read 12 = .ok (.getfield 11, 3) := by decide +kernel
theorem d_M_read_15 : decode b_M_read 15 = .ok (.iload_n 1, 1) := by decide +kernel
theorem d_M_read_16 : decode b_M_read 16 = .ok (.iaload, 1) := by decide +kernel
theorem d_M_read_17 : decode b_M_read 17 = .ok (.goto 6, 3) := by decide +kernel
theorem d_M_read_20 : decode b_M_read 20 = .ok (.sipush 255, 3) := by decide +kernel
theorem d_M_read_23 : decode b_M_read 23 = .ok (.ireturn, 1) := by decide +kernel
theorem d_M_write_0 : decode b_M_write 0 = .ok (.iload_n 1, 1) := by decide +kernel
theorem d_M_write_1 : decode b_M_write 1 = .ok (.ifCond .lt 17, 3) := by decide +kernel
theorem d_M_write_4 : decode b_M_write 4 = .ok (.iload_n 1, 1) := by decide +kernel
theorem d_M_write_5 : decode b_M_write 5 = .ok (.sipush 1024, 3) := by decide +kernel
theorem d_M_write_8 : decode b_M_write 8 = .ok (.if_icmp .ge 10, 3) := by decide +kernel
theorem d_M_write_11 : decode b_M_write 11 = .ok (.aload_n 0, 1) := by decide +kernel
theorem d_M_write_12 : decode b_M_write 12 = .ok (.getfield 11, 3) := by decide +kernel
theorem d_M_write_15 : decode b_M_write 15 = .ok (.iload_n 1, 1) := by decide +kernel
theorem d_M_write_16 : decode b_M_write 16 = .ok (.iload_n 2, 1) := by decide +kernel
theorem d_M_write_17 : decode b_M_write 17 = .ok (.iastore, 1) := by decide +kernel
theorem d_M_write_18 : decode b_M_write 18 = .ok (.return_, 1) := by decide +kernel
end
section
/-! the world p: its cells, contracts, calls -/
abbrev pAd : Type := Nat × Nat × Nat × Nat × Nat × Nat × Nat
def pw (cI : ClassId) (a : pAd) (σ : z_St) : va_W := [(a.1, .inr (0, [.ref a.2.1, .ref a.2.2.1, .ref a.2.2.2.1, .ref a.2.2.2.2.1, .ref a.2.2.2.2.2.1, .int (nI (z_x_sp σ)), .int (nI (z_x_pc σ)), .int (nI (z_x_ha σ)), .int (nI (z_x_it σ)), .int (nI (z_x_la σ)), .int (nI (z_x_wa σ) - 1), .long (lN (z_x_st σ))])), (a.2.1, .inr (1, [.ref a.2.2.2.2.2.2])), (a.2.2.1, .inr (2, [.int (nI (z_x_sg σ)), .int (nI (z_x_ze σ)), .int (nI (z_x_au σ)), .int (nI (z_x_pa σ)), .int (nI (z_x_ca σ))])), (a.2.2.2.1, .inl (cI, 8, .inl (fun k => nI (z_x_reg σ k)))), (a.2.2.2.2.1, .inl (cI, 256, .inl (fun k => nI (z_x_inn σ k)))), (a.2.2.2.2.2.1, .inl (cI, 256, .inl (fun k => nI (z_x_put σ k) - 1))), (a.2.2.2.2.2.2, .inl (cI, 1024, .inl (fun k => nI (z_x_mem σ k))))]
def pA (a : pAd) (sz : Nat) : Nat → Prop := fun q => q = a.1 ∨ q = a.2.1 ∨ q = a.2.2.1 ∨ q = a.2.2.2.1 ∨ q = a.2.2.2.2.1 ∨ q = a.2.2.2.2.2.1 ∨ q = a.2.2.2.2.2.2 ∨ sz ≤ q
def pW (D : va_G) (cI : ClassId) (A : Nat → Prop) (a : pAd) (σ : z_St) (s : State) (H : Heap) (locs : List Loc) : Prop := va_P D vwCl (pw cI a σ) H ∧ va_D A (pw cI a σ) ∧ va_S A s.heap H locs ∧ va_K D vwCl [(cI, .int)] s ∧ ∀ q, s.heap.size ≤ q → A q
def pPr (D : va_G) (cI : ClassId) (a : pAd) (σ : z_St) (sz : Nat) : State → Prop := fun U => U.heap.size = sz ∧ va_P D vwCl (pw cI a σ) U.heap ∧ va_K D vwCl [(cI, .int)] U ∧ va_D (fun _ => True) (pw cI a σ)
def pPo (D : va_G) (cI : ClassId) (a : pAd) (σ : z_St) (sz : Nat) : State → Prop := fun t => va_P D vwCl (pw cI a σ) t.heap ∧ va_K D vwCl [(cI, .int)] t ∧ va_D (pA a sz) (pw cI a σ)
theorem pA_in {cI : ClassId} {a : pAd} {σ : z_St} {sz : Nat} {A : Nat → Prop} (hD : va_D A (pw cI a σ)) : va_D (pA a sz) (pw cI a σ) := by
  refine va_D.weaken hD ?_
  intro k q hk _
  rcases k with _ | _ | _ | _ | _ | _ | _ | k
  · obtain rfl := Option.some.inj hk
    exact Or.inl rfl
  · obtain rfl := Option.some.inj hk
    exact Or.inr (Or.inl rfl)
  · obtain rfl := Option.some.inj hk
    exact Or.inr (Or.inr (Or.inl rfl))
  · obtain rfl := Option.some.inj hk
    exact Or.inr (Or.inr (Or.inr (Or.inl rfl)))
  · obtain rfl := Option.some.inj hk
    exact Or.inr (Or.inr (Or.inr (Or.inr (Or.inl rfl))))
  · obtain rfl := Option.some.inj hk
    exact Or.inr (Or.inr (Or.inr (Or.inr (Or.inr (Or.inl rfl)))))
  · obtain rfl := Option.some.inj hk
    exact Or.inr (Or.inr (Or.inr (Or.inr (Or.inr (Or.inr (Or.inl rfl))))))
  · exact absurd hk (by simp [pw])
theorem pA_sub {D : va_G} {cI : ClassId} {A : Nat → Prop} {a : pAd} {σ : z_St} {s : State} {H : Heap} {locs : List Loc} (hw : pW D cI A a σ s H locs) : ∀ q, pA a H.size q → A q := by
  intro q hq
  obtain ⟨-, hD, hS, -, hA⟩ := hw
  rcases hq with rfl | rfl | rfl | rfl | rfl | rfl | rfl | hq
  · exact hD.2 0 _ rfl
  · exact hD.2 1 _ rfl
  · exact hD.2 2 _ rfl
  · exact hD.2 3 _ rfl
  · exact hD.2 4 _ rfl
  · exact hD.2 5 _ rfl
  · exact hD.2 6 _ rfl
  · exact hA q (Nat.le_trans hS.1 hq)
theorem pW_kept {D : va_G} {cI : ClassId} {A : Nat → Prop} {a : pAd} {σ : z_St} {s : State} {H : Heap} {locs : List Loc} {H1 : Heap} {locs1 : List Loc} {t : State} {sz : Nat} (hw : pW D cI A a σ s H locs) {σ1 : z_St} (ht : t.heap = H1) (hB : pPo D cI a σ1 sz t) (hsz : sz = H.size) (hS : va_S A s.heap H1 locs1) : pW D cI A a σ1 s H1 locs1 := by
  subst hsz
  obtain ⟨hP, -, hD⟩ := hB
  exact ⟨by rw [← ht]; exact hP, hD.weaken (fun _ q _ h => pA_sub hw _ h), hS, hw.2.2.2.1, hw.2.2.2.2⟩
abbrev pQi (D : va_G) (cI : ClassId) (a : pAd) (σ : z_St) (r : Int32) (sz : Nat) : Array Value → State → Outcome → State → Prop := va_Qi (fun r' (_ : Unit) => r' = r) (fun _ => pPo D cI a σ sz) (pA a sz)
abbrev pQl (D : va_G) (cI : ClassId) (a : pAd) (σ : z_St) (r : Int64) (sz : Nat) : Array Value → State → Outcome → State → Prop := va_Ql (fun r' (_ : Unit) => r' = r) (fun _ => pPo D cI a σ sz) (pA a sz)
abbrev pQv (D : va_G) (cI : ClassId) (a : pAd) (σ : z_St) (sz : Nat) : Array Value → State → Outcome → State → Prop := va_Qv (fun (_ : Unit) => True) (fun _ => pPo D cI a σ sz) (pA a sz)
def pCi (l : Launch) (y : MethodName) (ws : List Cond) (fr lo : Nat) (D : va_G) (cI : ClassId) (a : pAd) (as : List Value) (σ σ' : z_St) (r : Int32) : Prop := ∀ sz : Nat, Met l y ws (rmz fr lo) (va_Pc as (pPr D cI a σ sz)) (pQi D cI a σ' r sz) 0 0 (pA a sz)
def pCl (l : Launch) (y : MethodName) (ws : List Cond) (fr lo : Nat) (D : va_G) (cI : ClassId) (a : pAd) (as : List Value) (σ σ' : z_St) (r : Int64) : Prop := ∀ sz : Nat, Met l y ws (rmz fr lo) (va_Pc as (pPr D cI a σ sz)) (pQl D cI a σ' r sz) 0 0 (pA a sz)
def pCv (l : Launch) (y : MethodName) (ws : List Cond) (fr lo : Nat) (D : va_G) (cI : ClassId) (a : pAd) (as : List Value) (σ σ' : z_St) : Prop := ∀ sz : Nat, Met l y ws (rmz fr lo) (va_Pc as (pPr D cI a σ sz)) (pQv D cI a σ' sz) 0 0 (pA a sz)
theorem pblind {D : va_G} {cI : ClassId} {a : pAd} {σ : z_St} {sz : Nat} {as : List Value} : FrameBlind (va_Pc as (pPr D cI a σ sz)) := fun a U g mk q => by
  obtain ⟨q0, q1, qP, qK, qD⟩ := q
  exact ⟨q0, q1, qP, va_K.moved (u := U) (U := U.calling g mk a) (Vm.Alike.refl U.vm) qK, qD⟩
theorem pci_of {l : Launch} {y : MethodName} {ws ws' : List Cond} {fr lo maxL : Nat} {cc : ByteArray} {ret : Option FieldType} {D : va_G} {cI : ClassId} {a : pAd} {as : List Value} {σ σ' : z_St} {r : Int32} (hy : plainName y.cls = true) (hw : ws = Cond.code y cc maxL ret :: ws') (hm : (lg_sl as).length ≤ maxL)
    (body : ∀ (p : Program) (e : Env) (s : State) (m : MethodId) (below : List Frame) (meth : Method) (c : Code) (ls : Array Slot), CallFix p m c cc maxL s as.toArray ws y.cls → meth.sig.returnType = ret → meth.locks = false → lv_has ls maxL (lv_args 0 as) → pW D cI (pA a s.heap.size) a σ s s.heap [] → W p l e (rmz fr lo) s m as.toArray below meth c s.heap [] 0 0 (MQ below (pQi D cI a σ' r s.heap.size) as.toArray s 0 0 (pA a s.heap.size)) (F0 m 0 ls [])) : pCi l y ws fr lo D cI a as σ σ' r := by
  intro sz
  refine Met.ofW (cc := cc) (maxL := maxL) (ret := ret) hy hw ?_
  intro p e s m args below meth c s₁ B hml hv
  obtain ⟨rfl, hsz, hP, hK, hD0⟩ := hv
  subst hsz
  have hown : s.vm.findClass y.cls = some m.cls := findClass_of_methodNamed B.named
  have hl := lv_entry as (n := maxL) hm
  rw [lg_entry_eq]
  exact body p e s m below meth c _ ⟨B.exec, B.bytes, hml, hown, atoms_spec (ws := ws) B.pre⟩ B.returns B.notSynchronized hl ⟨hP, pA_in hD0, va_S.rf, hK, fun q h => by unfold pA; simp [h]⟩
theorem pcl_of {l : Launch} {y : MethodName} {ws ws' : List Cond} {fr lo maxL : Nat} {cc : ByteArray} {ret : Option FieldType} {D : va_G} {cI : ClassId} {a : pAd} {as : List Value} {σ σ' : z_St} {r : Int64} (hy : plainName y.cls = true) (hw : ws = Cond.code y cc maxL ret :: ws') (hm : (lg_sl as).length ≤ maxL)
    (body : ∀ (p : Program) (e : Env) (s : State) (m : MethodId) (below : List Frame) (meth : Method) (c : Code) (ls : Array Slot), CallFix p m c cc maxL s as.toArray ws y.cls → meth.sig.returnType = ret → meth.locks = false → lv_has ls maxL (lv_args 0 as) → pW D cI (pA a s.heap.size) a σ s s.heap [] → W p l e (rmz fr lo) s m as.toArray below meth c s.heap [] 0 0 (MQ below (pQl D cI a σ' r s.heap.size) as.toArray s 0 0 (pA a s.heap.size)) (F0 m 0 ls [])) : pCl l y ws fr lo D cI a as σ σ' r := by
  intro sz
  refine Met.ofW (cc := cc) (maxL := maxL) (ret := ret) hy hw ?_
  intro p e s m args below meth c s₁ B hml hv
  obtain ⟨rfl, hsz, hP, hK, hD0⟩ := hv
  subst hsz
  have hown : s.vm.findClass y.cls = some m.cls := findClass_of_methodNamed B.named
  have hl := lv_entry as (n := maxL) hm
  rw [lg_entry_eq]
  exact body p e s m below meth c _ ⟨B.exec, B.bytes, hml, hown, atoms_spec (ws := ws) B.pre⟩ B.returns B.notSynchronized hl ⟨hP, pA_in hD0, va_S.rf, hK, fun q h => by unfold pA; simp [h]⟩
theorem pcv_of {l : Launch} {y : MethodName} {ws ws' : List Cond} {fr lo maxL : Nat} {cc : ByteArray} {ret : Option FieldType} {D : va_G} {cI : ClassId} {a : pAd} {as : List Value} {σ σ' : z_St} (hy : plainName y.cls = true) (hw : ws = Cond.code y cc maxL ret :: ws') (hm : (lg_sl as).length ≤ maxL)
    (body : ∀ (p : Program) (e : Env) (s : State) (m : MethodId) (below : List Frame) (meth : Method) (c : Code) (ls : Array Slot), CallFix p m c cc maxL s as.toArray ws y.cls → meth.sig.returnType = ret → meth.locks = false → lv_has ls maxL (lv_args 0 as) → pW D cI (pA a s.heap.size) a σ s s.heap [] → W p l e (rmz fr lo) s m as.toArray below meth c s.heap [] 0 0 (MQ below (pQv D cI a σ' s.heap.size) as.toArray s 0 0 (pA a s.heap.size)) (F0 m 0 ls [])) : pCv l y ws fr lo D cI a as σ σ' := by
  intro sz
  refine Met.ofW (cc := cc) (maxL := maxL) (ret := ret) hy hw ?_
  intro p e s m args below meth c s₁ B hml hv
  obtain ⟨rfl, hsz, hP, hK, hD0⟩ := hv
  subst hsz
  have hown : s.vm.findClass y.cls = some m.cls := findClass_of_methodNamed B.named
  have hl := lv_entry as (n := maxL) hm
  rw [lg_entry_eq]
  exact body p e s m below meth c _ ⟨B.exec, B.bytes, hml, hown, atoms_spec (ws := ws) B.pre⟩ B.returns B.notSynchronized hl ⟨hP, pA_in hD0, va_S.rf, hK, fun q h => by unfold pA; simp [h]⟩
section
variable {p : Program} {l : Launch} {e : Env} {R : Room} {s : State} {m : MethodId} {args : Array Value} {below : List Frame} {meth : Method} {c : Code} {H : Heap} {locs : List Loc} {cells slots : Nat} {Q : State → Prop} {cc : ByteArray} {nL : Nat} {Ts : List Cond} {own : String} {pc : Nat} {ls : Array Slot} {rest : List Value} {D : va_G} {cI : ClassId} {A : Nat → Prop} {a : pAd} {σ σ' σ1 : z_St}
theorem pri {x r : Int32} (K : CallFix p m c cc nL s args Ts own) (hr : meth.sig.returnType = some .int) (hlk : meth.locks = false) (hw : pW D cI (pA a s.heap.size) a σ1 s H locs) (hs : σ1 = σ') (he : x = r) (hd : decode cc pc = .ok (.ireturn, 1)) : W p l e R s m args below meth c H locs 0 0 (MQ below (pQi D cI a σ' r s.heap.size) args s 0 0 (pA a s.heap.size)) (F0 m pc ls [.int x]) := by
  subst hs; subst he
  exact W.iret K.1 K.2.1 hr (fun t ht hW => ⟨⟨x, (), rfl, rfl, by rw [ht]; exact hw.1, va_K.moved hW.alike hw.2.2.2.1, hw.2.1⟩, hw.2.2.1.F ht⟩) hw.2.2.1.2.2 hd hlk
theorem prz {x : Nat} {r : Int32} (K : CallFix p m c cc nL s args Ts own) (hr : meth.sig.returnType = some .boolean) (hlk : meth.locks = false) (hw : pW D cI (pA a s.heap.size) a σ1 s H locs) (hs : σ1 = σ') (hx : x < 2) (he : nI x = r) (hd : decode cc pc = .ok (.ireturn, 1)) : W p l e R s m args below meth c H locs 0 0 (MQ below (pQi D cI a σ' r s.heap.size) args s 0 0 (pA a s.heap.size)) (F0 m pc ls [.int (nI x)]) := by
  subst hs; subst he
  exact W.zret K.1 K.2.1 hr (nz_nar hx) (fun t ht hW => ⟨⟨nI x, (), rfl, rfl, by rw [ht]; exact hw.1, va_K.moved hW.alike hw.2.2.2.1, hw.2.1⟩, hw.2.2.1.F ht⟩) hw.2.2.1.2.2 hd hlk
theorem prl {x r : Int64} (K : CallFix p m c cc nL s args Ts own) (hr : meth.sig.returnType = some .long) (hlk : meth.locks = false) (hw : pW D cI (pA a s.heap.size) a σ1 s H locs) (hs : σ1 = σ') (he : x = r) (hd : decode cc pc = .ok (.lreturn, 1)) : W p l e R s m args below meth c H locs 0 0 (MQ below (pQl D cI a σ' r s.heap.size) args s 0 0 (pA a s.heap.size)) (F0 m pc ls [.long x]) := by
  subst hs; subst he
  exact W.lret K.1 K.2.1 hr (fun t ht hW => ⟨⟨x, (), rfl, rfl, by rw [ht]; exact hw.1, va_K.moved hW.alike hw.2.2.2.1, hw.2.1⟩, hw.2.2.1.F ht⟩) hw.2.2.1.2.2 hd hlk
theorem prv (K : CallFix p m c cc nL s args Ts own) (hr : meth.sig.returnType = none) (hlk : meth.locks = false) (hw : pW D cI (pA a s.heap.size) a σ1 s H locs) (hs : σ1 = σ') (hd : decode cc pc = .ok (.return_, 1)) : W p l e R s m args below meth c H locs 0 0 (MQ below (pQv D cI a σ' s.heap.size) args s 0 0 (pA a s.heap.size)) (F0 m pc ls []) := by
  subst hs
  exact W.vret K.1 K.2.1 hr (fun t ht hW => ⟨⟨(), rfl, trivial, by rw [ht]; exact hw.1, va_K.moved hW.alike hw.2.2.2.1, hw.2.1⟩, hw.2.2.1.F ht⟩) hw.2.2.1.2.2 hd hlk
theorem pki {y : MethodName} {ws : List Cond} {fr lo idx maxL n b : Nat} {bytes : ByteArray} {ret : Option FieldType} {as st0 : List Value} {C : String} {r : Int32} (K : CallFix p m c cc nL s args Ts own) (hM : pCi l y ws fr lo D cI a (.ref b :: as) σ σ' r) (cw : CallW R s args own C idx y bytes maxL ret ws (rmz fr lo) 0 0 n) (hw : pW D cI A a σ s H locs) (hrc : ∃ cellB : Cell, H[b]? = some cellB ∧ cellB.vm.isStatics = false ∧ s.vm.findClass C = some cellB.cls) (hn : as.length = n) (hl : ls.size = nL) (hst : st0 = as.reverse ++ .ref b :: rest) (hroom : (rest.map fun v => v.category).sum ≤ 8) (hd : decode cc pc = .ok (.invokevirtual idx, 3)) (hf : cells ≤ R.cells ∧ slots ≤ R.slots) (k : ∀ (H : Heap) (locs : List Loc), pW D cI A a σ' s H locs → W p l e R s m args below meth c H locs cells slots Q (F0 m (pc + 3) ls (.int r :: rest))) : W p l e R s m args below meth c H locs cells slots Q (F0 m pc ls st0) :=
  va_calli (va_runV K (hM H.size) cw ⟨pblind, hrc, fun U hU hW => ⟨rfl, by rw [hU], by rw [hU]; exact hw.1, va_K.moved hW.alike hw.2.2.2.1, hw.2.1.weaken (fun _ _ _ _ => trivial)⟩⟩ rfl hn hl hst (lv_room hroom) hd hf) hw.2.2.1 (fun q _ h => pA_sub hw q h) (pA_sub hw) (fun r' u t H1 locs1 ht hvm hq hB hz hk hS => by subst hq; exact k H1 locs1 (pW_kept hw ht hB rfl hS))
theorem psi {y : MethodName} {ws : List Cond} {fr lo idx maxL n: Nat} {bytes : ByteArray} {ret : Option FieldType} {as st0 : List Value} {r : Int32} (K : CallFix p m c cc nL s args Ts own) (hM : pCi l y ws fr lo D cI a as σ σ' r) (cw : CallB R s args own idx y bytes maxL ret ws (rmz fr lo) 0 0 n ∧ (Cond.static y).before args s = true) (hw : pW D cI A a σ s H locs) (hn : as.length = n) (hl : ls.size = nL) (hst : st0 = as.reverse ++ rest) (hroom : (rest.map fun v => v.category).sum ≤ 8) (hd : decode cc pc = .ok (.invokestatic idx, 3)) (hf : cells ≤ R.cells ∧ slots ≤ R.slots) (k : ∀ (H : Heap) (locs : List Loc), pW D cI A a σ' s H locs → W p l e R s m args below meth c H locs cells slots Q (F0 m (pc + 3) ls (.int r :: rest))) : W p l e R s m args below meth c H locs cells slots Q (F0 m pc ls st0) :=
  va_calli (va_runS K (hM H.size) cw ⟨pblind, fun U hU hW => ⟨rfl, by rw [hU], by rw [hU]; exact hw.1, va_K.moved hW.alike hw.2.2.2.1, hw.2.1.weaken (fun _ _ _ _ => trivial)⟩⟩ rfl hn hl hst (lv_room hroom) hd hf) hw.2.2.1 (fun q _ h => pA_sub hw q h) (pA_sub hw) (fun r' u t H1 locs1 ht hvm hq hB hz hk hS => by subst hq; exact k H1 locs1 (pW_kept hw ht hB rfl hS))
theorem pkl {y : MethodName} {ws : List Cond} {fr lo idx maxL n b : Nat} {bytes : ByteArray} {ret : Option FieldType} {as st0 : List Value} {C : String} {r : Int64} (K : CallFix p m c cc nL s args Ts own) (hM : pCl l y ws fr lo D cI a (.ref b :: as) σ σ' r) (cw : CallW R s args own C idx y bytes maxL ret ws (rmz fr lo) 0 0 n) (hw : pW D cI A a σ s H locs) (hrc : ∃ cellB : Cell, H[b]? = some cellB ∧ cellB.vm.isStatics = false ∧ s.vm.findClass C = some cellB.cls) (hn : as.length = n) (hl : ls.size = nL) (hst : st0 = as.reverse ++ .ref b :: rest) (hroom : (rest.map fun v => v.category).sum ≤ 8) (hd : decode cc pc = .ok (.invokevirtual idx, 3)) (hf : cells ≤ R.cells ∧ slots ≤ R.slots) (k : ∀ (H : Heap) (locs : List Loc), pW D cI A a σ' s H locs → W p l e R s m args below meth c H locs cells slots Q (F0 m (pc + 3) ls (.long r :: rest))) : W p l e R s m args below meth c H locs cells slots Q (F0 m pc ls st0) :=
  va_calll (va_runV K (hM H.size) cw ⟨pblind, hrc, fun U hU hW => ⟨rfl, by rw [hU], by rw [hU]; exact hw.1, va_K.moved hW.alike hw.2.2.2.1, hw.2.1.weaken (fun _ _ _ _ => trivial)⟩⟩ rfl hn hl hst (lv_room hroom) hd hf) hw.2.2.1 (fun q _ h => pA_sub hw q h) (pA_sub hw) (fun r' u t H1 locs1 ht hvm hq hB hz hk hS => by subst hq; exact k H1 locs1 (pW_kept hw ht hB rfl hS))
theorem psl {y : MethodName} {ws : List Cond} {fr lo idx maxL n: Nat} {bytes : ByteArray} {ret : Option FieldType} {as st0 : List Value} {r : Int64} (K : CallFix p m c cc nL s args Ts own) (hM : pCl l y ws fr lo D cI a as σ σ' r) (cw : CallB R s args own idx y bytes maxL ret ws (rmz fr lo) 0 0 n ∧ (Cond.static y).before args s = true) (hw : pW D cI A a σ s H locs) (hn : as.length = n) (hl : ls.size = nL) (hst : st0 = as.reverse ++ rest) (hroom : (rest.map fun v => v.category).sum ≤ 8) (hd : decode cc pc = .ok (.invokestatic idx, 3)) (hf : cells ≤ R.cells ∧ slots ≤ R.slots) (k : ∀ (H : Heap) (locs : List Loc), pW D cI A a σ' s H locs → W p l e R s m args below meth c H locs cells slots Q (F0 m (pc + 3) ls (.long r :: rest))) : W p l e R s m args below meth c H locs cells slots Q (F0 m pc ls st0) :=
  va_calll (va_runS K (hM H.size) cw ⟨pblind, fun U hU hW => ⟨rfl, by rw [hU], by rw [hU]; exact hw.1, va_K.moved hW.alike hw.2.2.2.1, hw.2.1.weaken (fun _ _ _ _ => trivial)⟩⟩ rfl hn hl hst (lv_room hroom) hd hf) hw.2.2.1 (fun q _ h => pA_sub hw q h) (pA_sub hw) (fun r' u t H1 locs1 ht hvm hq hB hz hk hS => by subst hq; exact k H1 locs1 (pW_kept hw ht hB rfl hS))
theorem pkv {y : MethodName} {ws : List Cond} {fr lo idx maxL n b : Nat} {bytes : ByteArray} {ret : Option FieldType} {as st0 : List Value} {C : String}  (K : CallFix p m c cc nL s args Ts own) (hM : pCv l y ws fr lo D cI a (.ref b :: as) σ σ') (cw : CallW R s args own C idx y bytes maxL ret ws (rmz fr lo) 0 0 n) (hw : pW D cI A a σ s H locs) (hrc : ∃ cellB : Cell, H[b]? = some cellB ∧ cellB.vm.isStatics = false ∧ s.vm.findClass C = some cellB.cls) (hn : as.length = n) (hl : ls.size = nL) (hst : st0 = as.reverse ++ .ref b :: rest) (hroom : (rest.map fun v => v.category).sum ≤ 8) (hd : decode cc pc = .ok (.invokevirtual idx, 3)) (hf : cells ≤ R.cells ∧ slots ≤ R.slots) (k : ∀ (H : Heap) (locs : List Loc), pW D cI A a σ' s H locs → W p l e R s m args below meth c H locs cells slots Q (F0 m (pc + 3) ls (rest))) : W p l e R s m args below meth c H locs cells slots Q (F0 m pc ls st0) :=
  va_callv (va_runV K (hM H.size) cw ⟨pblind, hrc, fun U hU hW => ⟨rfl, by rw [hU], by rw [hU]; exact hw.1, va_K.moved hW.alike hw.2.2.2.1, hw.2.1.weaken (fun _ _ _ _ => trivial)⟩⟩ rfl hn hl hst (lv_room hroom) hd hf) hw.2.2.1 (fun q _ h => pA_sub hw q h) (pA_sub hw) (fun u t H1 locs1 ht hvm hq hB hz hk hS => k H1 locs1 (pW_kept hw ht hB rfl hS))
theorem psv {y : MethodName} {ws : List Cond} {fr lo idx maxL n: Nat} {bytes : ByteArray} {ret : Option FieldType} {as st0 : List Value}  (K : CallFix p m c cc nL s args Ts own) (hM : pCv l y ws fr lo D cI a as σ σ') (cw : CallB R s args own idx y bytes maxL ret ws (rmz fr lo) 0 0 n ∧ (Cond.static y).before args s = true) (hw : pW D cI A a σ s H locs) (hn : as.length = n) (hl : ls.size = nL) (hst : st0 = as.reverse ++ rest) (hroom : (rest.map fun v => v.category).sum ≤ 8) (hd : decode cc pc = .ok (.invokestatic idx, 3)) (hf : cells ≤ R.cells ∧ slots ≤ R.slots) (k : ∀ (H : Heap) (locs : List Loc), pW D cI A a σ' s H locs → W p l e R s m args below meth c H locs cells slots Q (F0 m (pc + 3) ls (rest))) : W p l e R s m args below meth c H locs cells slots Q (F0 m pc ls st0) :=
  va_callv (va_runS K (hM H.size) cw ⟨pblind, fun U hU hW => ⟨rfl, by rw [hU], by rw [hU]; exact hw.1, va_K.moved hW.alike hw.2.2.2.1, hw.2.1.weaken (fun _ _ _ _ => trivial)⟩⟩ rfl hn hl hst (lv_room hroom) hd hf) hw.2.2.1 (fun q _ h => pA_sub hw q h) (pA_sub hw) (fun u t H1 locs1 ht hvm hq hB hz hk hS => k H1 locs1 (pW_kept hw ht hB rfl hS))
end
section
variable {p : Program} {l : Launch} {e : Env} {R : Room} {s : State} {m : MethodId} {args : Array Value} {below : List Frame} {meth : Method} {c : Code} {H : Heap} {locs : List Loc} {cells slots : Nat} {Q : State → Prop} {cc : ByteArray} {nL : Nat} {pc : Nat} {ls : Array Slot} {rest : List Value} {c0 : Cond} {D : va_G} {cI : ClassId} {A : Nat → Prop} {a : pAd} {σ : z_St}
theorem pg_memory (K : CallFix p m c cc nL s args (c0 :: T0) "PortProcessor") (hw : pW D cI A a σ s H locs) (hd : decode cc pc = .ok (.getfield 10, 3)) (k : W p l e R s m args below meth c H locs cells slots Q (F0 m (pc + 3) ls (.ref a.2.1 :: rest))) : W p l e R s m args below meth c H locs cells slots Q (F0 m pc ls (.ref a.1 :: rest)) := va_get (D := D) (ci := 0) (v := .ref a.2.1) (C := "PortProcessor") (T := T_P) (N := 12) K.1 K.2.1 K.2.2.2.2 (fun w h => List.mem_cons_of_mem _ (in_P w h)) K.2.2.2.1 hw.2.2.2.1 hw.1 0 rfl rfl 0 (by decide) (K.2.2.2.2 _ (List.mem_cons_of_mem _ m_fieldLink_PortProcessor_10)) (fun _ h => h) rfl hd k
theorem pg_flags (K : CallFix p m c cc nL s args (c0 :: T0) "PortProcessor") (hw : pW D cI A a σ s H locs) (hd : decode cc pc = .ok (.getfield 19, 3)) (k : W p l e R s m args below meth c H locs cells slots Q (F0 m (pc + 3) ls (.ref a.2.2.1 :: rest))) : W p l e R s m args below meth c H locs cells slots Q (F0 m pc ls (.ref a.1 :: rest)) := va_get (D := D) (ci := 0) (v := .ref a.2.2.1) (C := "PortProcessor") (T := T_P) (N := 12) K.1 K.2.1 K.2.2.2.2 (fun w h => List.mem_cons_of_mem _ (in_P w h)) K.2.2.2.1 hw.2.2.2.1 hw.1 0 rfl rfl 1 (by decide) (K.2.2.2.2 _ (List.mem_cons_of_mem _ m_fieldLink_PortProcessor_19)) (fun _ h => h) rfl hd k
theorem pg_registers (K : CallFix p m c cc nL s args (c0 :: T0) "PortProcessor") (hw : pW D cI A a σ s H locs) (hd : decode cc pc = .ok (.getfield 23, 3)) (k : W p l e R s m args below meth c H locs cells slots Q (F0 m (pc + 3) ls (.ref a.2.2.2.1 :: rest))) : W p l e R s m args below meth c H locs cells slots Q (F0 m pc ls (.ref a.1 :: rest)) := va_get (D := D) (ci := 0) (v := .ref a.2.2.2.1) (C := "PortProcessor") (T := T_P) (N := 12) K.1 K.2.1 K.2.2.2.2 (fun w h => List.mem_cons_of_mem _ (in_P w h)) K.2.2.2.1 hw.2.2.2.1 hw.1 0 rfl rfl 2 (by decide) (K.2.2.2.2 _ (List.mem_cons_of_mem _ m_fieldLink_PortProcessor_23)) (fun _ h => h) rfl hd k
theorem pg_broughtIn (K : CallFix p m c cc nL s args (c0 :: T0) "PortProcessor") (hw : pW D cI A a σ s H locs) (hd : decode cc pc = .ok (.getfield 27, 3)) (k : W p l e R s m args below meth c H locs cells slots Q (F0 m (pc + 3) ls (.ref a.2.2.2.2.1 :: rest))) : W p l e R s m args below meth c H locs cells slots Q (F0 m pc ls (.ref a.1 :: rest)) := va_get (D := D) (ci := 0) (v := .ref a.2.2.2.2.1) (C := "PortProcessor") (T := T_P) (N := 12) K.1 K.2.1 K.2.2.2.2 (fun w h => List.mem_cons_of_mem _ (in_P w h)) K.2.2.2.1 hw.2.2.2.1 hw.1 0 rfl rfl 3 (by decide) (K.2.2.2.2 _ (List.mem_cons_of_mem _ m_fieldLink_PortProcessor_27)) (fun _ h => h) rfl hd k
theorem pg_putOut (K : CallFix p m c cc nL s args (c0 :: T0) "PortProcessor") (hw : pW D cI A a σ s H locs) (hd : decode cc pc = .ok (.getfield 30, 3)) (k : W p l e R s m args below meth c H locs cells slots Q (F0 m (pc + 3) ls (.ref a.2.2.2.2.2.1 :: rest))) : W p l e R s m args below meth c H locs cells slots Q (F0 m pc ls (.ref a.1 :: rest)) := va_get (D := D) (ci := 0) (v := .ref a.2.2.2.2.2.1) (C := "PortProcessor") (T := T_P) (N := 12) K.1 K.2.1 K.2.2.2.2 (fun w h => List.mem_cons_of_mem _ (in_P w h)) K.2.2.2.1 hw.2.2.2.1 hw.1 0 rfl rfl 4 (by decide) (K.2.2.2.2 _ (List.mem_cons_of_mem _ m_fieldLink_PortProcessor_30)) (fun _ h => h) rfl hd k
theorem pg_stackPointer (K : CallFix p m c cc nL s args (c0 :: T0) "PortProcessor") (hw : pW D cI A a σ s H locs) {v : Nat} (hv : z_x_sp σ = v) (hd : decode cc pc = .ok (.getfield 88, 3)) (k : W p l e R s m args below meth c H locs cells slots Q (F0 m (pc + 3) ls (.int (nI v) :: rest))) : W p l e R s m args below meth c H locs cells slots Q (F0 m pc ls (.ref a.1 :: rest)) := va_get (D := D) (ci := 0) (v := .int (nI v)) (C := "PortProcessor") (T := T_P) (N := 12) K.1 K.2.1 K.2.2.2.2 (fun w h => List.mem_cons_of_mem _ (in_P w h)) K.2.2.2.1 hw.2.2.2.1 hw.1 0 rfl rfl 5 (by decide) (K.2.2.2.2 _ (List.mem_cons_of_mem _ m_fieldLink_PortProcessor_88)) (fun _ h => h) (by rw [← hv]; rfl) hd k
theorem pp_stackPointer (K : CallFix p m c cc nL s args (c0 :: T0) "PortProcessor") (hw : pW D cI A a σ s H locs) {v : Nat} (hd : decode cc pc = .ok (.putfield 88, 3)) (k : ∀ (H : Heap) (locs : List Loc), pW D cI A a (z_s_sp σ v) s H locs → W p l e R s m args below meth c H locs cells slots Q (F0 m (pc + 3) ls (rest))) : W p l e R s m args below meth c H locs cells slots Q (F0 m pc ls (.int (nI v) :: .ref a.1 :: rest)) := va_put (D := D) (ci := 0) (v := .int (nI v)) (ty := .int) (C := "PortProcessor") (T := T_P) (N := 12) K.1 K.2.1 K.2.2.2.2 (fun w h => List.mem_cons_of_mem _ (in_P w h)) ty_P ok9_P nm_P K.2.2.2.1 hw.2.2.2.1 hw.1 hw.2.1 hw.2.2.1 0 rfl rfl 5 (by decide) (K.2.2.2.2 _ (List.mem_cons_of_mem _ m_fieldLink_PortProcessor_88)) (fun _ h => h) rfl (by decide +kernel) rfl rfl (Nat.le_of_ble_eq_true rfl) hd (fun H locs hP hD hS => k H locs ⟨hP, hD, hS, hw.2.2.2.1, hw.2.2.2.2⟩)
theorem pg_programCounter (K : CallFix p m c cc nL s args (c0 :: T0) "PortProcessor") (hw : pW D cI A a σ s H locs) {v : Nat} (hv : z_x_pc σ = v) (hd : decode cc pc = .ok (.getfield 59, 3)) (k : W p l e R s m args below meth c H locs cells slots Q (F0 m (pc + 3) ls (.int (nI v) :: rest))) : W p l e R s m args below meth c H locs cells slots Q (F0 m pc ls (.ref a.1 :: rest)) := va_get (D := D) (ci := 0) (v := .int (nI v)) (C := "PortProcessor") (T := T_P) (N := 12) K.1 K.2.1 K.2.2.2.2 (fun w h => List.mem_cons_of_mem _ (in_P w h)) K.2.2.2.1 hw.2.2.2.1 hw.1 0 rfl rfl 6 (by decide) (K.2.2.2.2 _ (List.mem_cons_of_mem _ m_fieldLink_PortProcessor_59)) (fun _ h => h) (by rw [← hv]; rfl) hd k
theorem pp_programCounter (K : CallFix p m c cc nL s args (c0 :: T0) "PortProcessor") (hw : pW D cI A a σ s H locs) {v : Nat} (hd : decode cc pc = .ok (.putfield 59, 3)) (k : ∀ (H : Heap) (locs : List Loc), pW D cI A a (z_s_pc σ v) s H locs → W p l e R s m args below meth c H locs cells slots Q (F0 m (pc + 3) ls (rest))) : W p l e R s m args below meth c H locs cells slots Q (F0 m pc ls (.int (nI v) :: .ref a.1 :: rest)) := va_put (D := D) (ci := 0) (v := .int (nI v)) (ty := .int) (C := "PortProcessor") (T := T_P) (N := 12) K.1 K.2.1 K.2.2.2.2 (fun w h => List.mem_cons_of_mem _ (in_P w h)) ty_P ok9_P nm_P K.2.2.2.1 hw.2.2.2.1 hw.1 hw.2.1 hw.2.2.1 0 rfl rfl 6 (by decide) (K.2.2.2.2 _ (List.mem_cons_of_mem _ m_fieldLink_PortProcessor_59)) (fun _ h => h) rfl (by decide +kernel) rfl rfl (Nat.le_of_ble_eq_true rfl) hd (fun H locs hP hD hS => k H locs ⟨hP, hD, hS, hw.2.2.2.1, hw.2.2.2.2⟩)
theorem pg_halted (K : CallFix p m c cc nL s args (c0 :: T0) "PortProcessor") (hw : pW D cI A a σ s H locs) {v : Nat} (hv : z_x_ha σ = v) (hd : decode cc pc = .ok (.getfield 62, 3)) (k : W p l e R s m args below meth c H locs cells slots Q (F0 m (pc + 3) ls (.int (nI v) :: rest))) : W p l e R s m args below meth c H locs cells slots Q (F0 m pc ls (.ref a.1 :: rest)) := va_get (D := D) (ci := 0) (v := .int (nI v)) (C := "PortProcessor") (T := T_P) (N := 12) K.1 K.2.1 K.2.2.2.2 (fun w h => List.mem_cons_of_mem _ (in_P w h)) K.2.2.2.1 hw.2.2.2.1 hw.1 0 rfl rfl 7 (by decide) (K.2.2.2.2 _ (List.mem_cons_of_mem _ m_fieldLink_PortProcessor_62)) (fun _ h => h) (by rw [← hv]; rfl) hd k
theorem pp_halted (K : CallFix p m c cc nL s args (c0 :: T0) "PortProcessor") (hw : pW D cI A a σ s H locs) {v : Nat} (hv : v < 2) (hd : decode cc pc = .ok (.putfield 62, 3)) (k : ∀ (H : Heap) (locs : List Loc), pW D cI A a (z_s_ha σ v) s H locs → W p l e R s m args below meth c H locs cells slots Q (F0 m (pc + 3) ls (rest))) : W p l e R s m args below meth c H locs cells slots Q (F0 m pc ls (.int (nI v) :: .ref a.1 :: rest)) := va_put (D := D) (ci := 0) (v := .int (nI v)) (ty := .boolean) (C := "PortProcessor") (T := T_P) (N := 12) K.1 K.2.1 K.2.2.2.2 (fun w h => List.mem_cons_of_mem _ (in_P w h)) ty_P ok9_P nm_P K.2.2.2.1 hw.2.2.2.1 hw.1 hw.2.1 hw.2.2.1 0 rfl rfl 7 (by decide) (K.2.2.2.2 _ (List.mem_cons_of_mem _ m_fieldLink_PortProcessor_62)) (fun _ h => h) rfl (by decide +kernel) (nz_nar hv) (nz_fit hv) (Nat.le_of_ble_eq_true rfl) hd (fun H locs hP hD hS => k H locs ⟨hP, hD, hS, hw.2.2.2.1, hw.2.2.2.2⟩)
theorem pg_interruptsOn (K : CallFix p m c cc nL s args (c0 :: T0) "PortProcessor") (hw : pW D cI A a σ s H locs) {v : Nat} (hv : z_x_it σ = v) (hd : decode cc pc = .ok (.getfield 102, 3)) (k : W p l e R s m args below meth c H locs cells slots Q (F0 m (pc + 3) ls (.int (nI v) :: rest))) : W p l e R s m args below meth c H locs cells slots Q (F0 m pc ls (.ref a.1 :: rest)) := va_get (D := D) (ci := 0) (v := .int (nI v)) (C := "PortProcessor") (T := T_P) (N := 12) K.1 K.2.1 K.2.2.2.2 (fun w h => List.mem_cons_of_mem _ (in_P w h)) K.2.2.2.1 hw.2.2.2.1 hw.1 0 rfl rfl 8 (by decide) (K.2.2.2.2 _ (List.mem_cons_of_mem _ m_fieldLink_PortProcessor_102)) (fun _ h => h) (by rw [← hv]; rfl) hd k
theorem pp_interruptsOn (K : CallFix p m c cc nL s args (c0 :: T0) "PortProcessor") (hw : pW D cI A a σ s H locs) {v : Nat} (hv : v < 2) (hd : decode cc pc = .ok (.putfield 102, 3)) (k : ∀ (H : Heap) (locs : List Loc), pW D cI A a (z_s_it σ v) s H locs → W p l e R s m args below meth c H locs cells slots Q (F0 m (pc + 3) ls (rest))) : W p l e R s m args below meth c H locs cells slots Q (F0 m pc ls (.int (nI v) :: .ref a.1 :: rest)) := va_put (D := D) (ci := 0) (v := .int (nI v)) (ty := .boolean) (C := "PortProcessor") (T := T_P) (N := 12) K.1 K.2.1 K.2.2.2.2 (fun w h => List.mem_cons_of_mem _ (in_P w h)) ty_P ok9_P nm_P K.2.2.2.1 hw.2.2.2.1 hw.1 hw.2.1 hw.2.2.1 0 rfl rfl 8 (by decide) (K.2.2.2.2 _ (List.mem_cons_of_mem _ m_fieldLink_PortProcessor_102)) (fun _ h => h) rfl (by decide +kernel) (nz_nar hv) (nz_fit hv) (Nat.le_of_ble_eq_true rfl) hd (fun H locs hP hD hS => k H locs ⟨hP, hD, hS, hw.2.2.2.1, hw.2.2.2.2⟩)
theorem pg_lastLetInterruptsIn (K : CallFix p m c cc nL s args (c0 :: T0) "PortProcessor") (hw : pW D cI A a σ s H locs) {v : Nat} (hv : z_x_la σ = v) (hd : decode cc pc = .ok (.getfield 111, 3)) (k : W p l e R s m args below meth c H locs cells slots Q (F0 m (pc + 3) ls (.int (nI v) :: rest))) : W p l e R s m args below meth c H locs cells slots Q (F0 m pc ls (.ref a.1 :: rest)) := va_get (D := D) (ci := 0) (v := .int (nI v)) (C := "PortProcessor") (T := T_P) (N := 12) K.1 K.2.1 K.2.2.2.2 (fun w h => List.mem_cons_of_mem _ (in_P w h)) K.2.2.2.1 hw.2.2.2.1 hw.1 0 rfl rfl 9 (by decide) (K.2.2.2.2 _ (List.mem_cons_of_mem _ m_fieldLink_PortProcessor_111)) (fun _ h => h) (by rw [← hv]; rfl) hd k
theorem pp_lastLetInterruptsIn (K : CallFix p m c cc nL s args (c0 :: T0) "PortProcessor") (hw : pW D cI A a σ s H locs) {v : Nat} (hv : v < 2) (hd : decode cc pc = .ok (.putfield 111, 3)) (k : ∀ (H : Heap) (locs : List Loc), pW D cI A a (z_s_la σ v) s H locs → W p l e R s m args below meth c H locs cells slots Q (F0 m (pc + 3) ls (rest))) : W p l e R s m args below meth c H locs cells slots Q (F0 m pc ls (.int (nI v) :: .ref a.1 :: rest)) := va_put (D := D) (ci := 0) (v := .int (nI v)) (ty := .boolean) (C := "PortProcessor") (T := T_P) (N := 12) K.1 K.2.1 K.2.2.2.2 (fun w h => List.mem_cons_of_mem _ (in_P w h)) ty_P ok9_P nm_P K.2.2.2.1 hw.2.2.2.1 hw.1 hw.2.1 hw.2.2.1 0 rfl rfl 9 (by decide) (K.2.2.2.2 _ (List.mem_cons_of_mem _ m_fieldLink_PortProcessor_111)) (fun _ h => h) rfl (by decide +kernel) (nz_nar hv) (nz_fit hv) (Nat.le_of_ble_eq_true rfl) hd (fun H locs hP hD hS => k H locs ⟨hP, hD, hS, hw.2.2.2.1, hw.2.2.2.2⟩)
theorem pg_waitingInterrupt (K : CallFix p m c cc nL s args (c0 :: T0) "PortProcessor") (hw : pW D cI A a σ s H locs) {v : Nat} (hv : z_x_wa σ = v) (hd : decode cc pc = .ok (.getfield 33, 3)) (k : W p l e R s m args below meth c H locs cells slots Q (F0 m (pc + 3) ls (.int (nI v - 1) :: rest))) : W p l e R s m args below meth c H locs cells slots Q (F0 m pc ls (.ref a.1 :: rest)) := va_get (D := D) (ci := 0) (v := .int (nI v - 1)) (C := "PortProcessor") (T := T_P) (N := 12) K.1 K.2.1 K.2.2.2.2 (fun w h => List.mem_cons_of_mem _ (in_P w h)) K.2.2.2.1 hw.2.2.2.1 hw.1 0 rfl rfl 10 (by decide) (K.2.2.2.2 _ (List.mem_cons_of_mem _ m_fieldLink_PortProcessor_33)) (fun _ h => h) (by rw [← hv]; rfl) hd k
theorem pp_waitingInterrupt0 (K : CallFix p m c cc nL s args (c0 :: T0) "PortProcessor") (hw : pW D cI A a σ s H locs) (hd : decode cc pc = .ok (.putfield 33, 3)) (k : ∀ (H : Heap) (locs : List Loc), pW D cI A a (z_s_wa σ 0) s H locs → W p l e R s m args below meth c H locs cells slots Q (F0 m (pc + 3) ls (rest))) : W p l e R s m args below meth c H locs cells slots Q (F0 m pc ls (.int (-1) :: .ref a.1 :: rest)) := va_put (D := D) (ci := 0) (v := .int (-1)) (ty := .int) (C := "PortProcessor") (T := T_P) (N := 12) K.1 K.2.1 K.2.2.2.2 (fun w h => List.mem_cons_of_mem _ (in_P w h)) ty_P ok9_P nm_P K.2.2.2.1 hw.2.2.2.1 hw.1 hw.2.1 hw.2.2.1 0 rfl rfl 10 (by decide) (K.2.2.2.2 _ (List.mem_cons_of_mem _ m_fieldLink_PortProcessor_33)) (fun _ h => h) rfl (by decide +kernel) rfl rfl (Nat.le_of_ble_eq_true rfl) hd (fun H locs hP hD hS => k H locs ⟨hP, hD, hS, hw.2.2.2.1, hw.2.2.2.2⟩)
theorem pp_waitingInterrupt (K : CallFix p m c cc nL s args (c0 :: T0) "PortProcessor") (hw : pW D cI A a σ s H locs) {v : Nat} (hd : decode cc pc = .ok (.putfield 33, 3)) (k : ∀ (H : Heap) (locs : List Loc), pW D cI A a (z_s_wa σ (v + 1)) s H locs → W p l e R s m args below meth c H locs cells slots Q (F0 m (pc + 3) ls (rest))) : W p l e R s m args below meth c H locs cells slots Q (F0 m pc ls (.int (nI v) :: .ref a.1 :: rest)) := by
  rw [← nI_pred v]
  exact va_put (D := D) (ci := 0) (v := .int (nI (v + 1) - 1)) (ty := .int) (C := "PortProcessor") (T := T_P) (N := 12) K.1 K.2.1 K.2.2.2.2 (fun w h => List.mem_cons_of_mem _ (in_P w h)) ty_P ok9_P nm_P K.2.2.2.1 hw.2.2.2.1 hw.1 hw.2.1 hw.2.2.1 0 rfl rfl 10 (by decide) (K.2.2.2.2 _ (List.mem_cons_of_mem _ m_fieldLink_PortProcessor_33)) (fun _ h => h) rfl (by decide +kernel) rfl rfl (Nat.le_of_ble_eq_true rfl) hd (fun H locs hP hD hS => k H locs ⟨hP, hD, hS, hw.2.2.2.1, hw.2.2.2.2⟩)
theorem pg_stateCount (K : CallFix p m c cc nL s args (c0 :: T0) "PortProcessor") (hw : pW D cI A a σ s H locs) {v : Nat} (hv : z_x_st σ = v) (hd : decode cc pc = .ok (.getfield 107, 3)) (k : W p l e R s m args below meth c H locs cells slots Q (F0 m (pc + 3) ls (.long (lN v) :: rest))) : W p l e R s m args below meth c H locs cells slots Q (F0 m pc ls (.ref a.1 :: rest)) := va_get (D := D) (ci := 0) (v := .long (lN v)) (C := "PortProcessor") (T := T_P) (N := 12) K.1 K.2.1 K.2.2.2.2 (fun w h => List.mem_cons_of_mem _ (in_P w h)) K.2.2.2.1 hw.2.2.2.1 hw.1 0 rfl rfl 11 (by decide) (K.2.2.2.2 _ (List.mem_cons_of_mem _ m_fieldLink_PortProcessor_107)) (fun _ h => h) (by rw [← hv]; rfl) hd k
theorem pp_stateCount (K : CallFix p m c cc nL s args (c0 :: T0) "PortProcessor") (hw : pW D cI A a σ s H locs) {v : Nat} (hd : decode cc pc = .ok (.putfield 107, 3)) (k : ∀ (H : Heap) (locs : List Loc), pW D cI A a (z_s_st σ v) s H locs → W p l e R s m args below meth c H locs cells slots Q (F0 m (pc + 3) ls (rest))) : W p l e R s m args below meth c H locs cells slots Q (F0 m pc ls (.long (lN v) :: .ref a.1 :: rest)) := va_put (D := D) (ci := 0) (v := .long (lN v)) (ty := .long) (C := "PortProcessor") (T := T_P) (N := 12) K.1 K.2.1 K.2.2.2.2 (fun w h => List.mem_cons_of_mem _ (in_P w h)) ty_P ok9_P nm_P K.2.2.2.1 hw.2.2.2.1 hw.1 hw.2.1 hw.2.2.1 0 rfl rfl 11 (by decide) (K.2.2.2.2 _ (List.mem_cons_of_mem _ m_fieldLink_PortProcessor_107)) (fun _ h => h) rfl (by decide +kernel) rfl rfl (Nat.le_of_ble_eq_true rfl) hd (fun H locs hP hD hS => k H locs ⟨hP, hD, hS, hw.2.2.2.1, hw.2.2.2.2⟩)
theorem pg_M_cells (K : CallFix p m c cc nL s args (c0 :: T0) "PortProcessor$Memory") (hw : pW D cI A a σ s H locs) (hd : decode cc pc = .ok (.getfield 11, 3)) (k : W p l e R s m args below meth c H locs cells slots Q (F0 m (pc + 3) ls (.ref a.2.2.2.2.2.2 :: rest))) : W p l e R s m args below meth c H locs cells slots Q (F0 m pc ls (.ref a.2.1 :: rest)) := va_get (D := D) (ci := 1) (v := .ref a.2.2.2.2.2.2) (C := "PortProcessor$Memory") (T := T_M) (N := 1) K.1 K.2.1 K.2.2.2.2 (fun w h => List.mem_cons_of_mem _ (in_M w h)) K.2.2.2.1 hw.2.2.2.1 hw.1 1 rfl rfl 0 (by decide) (K.2.2.2.2 _ (List.mem_cons_of_mem _ m_fieldLink_PortProcessor_Memory_11)) (fun _ h => h) rfl hd k
theorem pg_F_sign (K : CallFix p m c cc nL s args (c0 :: T0) "PortProcessor$Flags") (hw : pW D cI A a σ s H locs) {v : Nat} (hv : z_x_sg σ = v) (hd : decode cc pc = .ok (.getfield 11, 3)) (k : W p l e R s m args below meth c H locs cells slots Q (F0 m (pc + 3) ls (.int (nI v) :: rest))) : W p l e R s m args below meth c H locs cells slots Q (F0 m pc ls (.ref a.2.2.1 :: rest)) := va_get (D := D) (ci := 2) (v := .int (nI v)) (C := "PortProcessor$Flags") (T := T_F) (N := 5) K.1 K.2.1 K.2.2.2.2 (fun w h => List.mem_cons_of_mem _ (in_F w h)) K.2.2.2.1 hw.2.2.2.1 hw.1 2 rfl rfl 0 (by decide) (K.2.2.2.2 _ (List.mem_cons_of_mem _ m_fieldLink_PortProcessor_Flags_11)) (fun _ h => h) (by rw [← hv]; rfl) hd k
theorem pp_F_sign (K : CallFix p m c cc nL s args (c0 :: T0) "PortProcessor$Flags") (hw : pW D cI A a σ s H locs) {v : Nat} (hv : v < 2) (hd : decode cc pc = .ok (.putfield 11, 3)) (k : ∀ (H : Heap) (locs : List Loc), pW D cI A a (z_s_sg σ v) s H locs → W p l e R s m args below meth c H locs cells slots Q (F0 m (pc + 3) ls (rest))) : W p l e R s m args below meth c H locs cells slots Q (F0 m pc ls (.int (nI v) :: .ref a.2.2.1 :: rest)) := va_put (D := D) (ci := 2) (v := .int (nI v)) (ty := .boolean) (C := "PortProcessor$Flags") (T := T_F) (N := 5) K.1 K.2.1 K.2.2.2.2 (fun w h => List.mem_cons_of_mem _ (in_F w h)) ty_F ok9_F nm_F K.2.2.2.1 hw.2.2.2.1 hw.1 hw.2.1 hw.2.2.1 2 rfl rfl 0 (by decide) (K.2.2.2.2 _ (List.mem_cons_of_mem _ m_fieldLink_PortProcessor_Flags_11)) (fun _ h => h) rfl (by decide +kernel) (nz_nar hv) (nz_fit hv) (Nat.le_of_ble_eq_true rfl) hd (fun H locs hP hD hS => k H locs ⟨hP, hD, hS, hw.2.2.2.1, hw.2.2.2.2⟩)
theorem pg_F_zero (K : CallFix p m c cc nL s args (c0 :: T0) "PortProcessor$Flags") (hw : pW D cI A a σ s H locs) {v : Nat} (hv : z_x_ze σ = v) (hd : decode cc pc = .ok (.getfield 15, 3)) (k : W p l e R s m args below meth c H locs cells slots Q (F0 m (pc + 3) ls (.int (nI v) :: rest))) : W p l e R s m args below meth c H locs cells slots Q (F0 m pc ls (.ref a.2.2.1 :: rest)) := va_get (D := D) (ci := 2) (v := .int (nI v)) (C := "PortProcessor$Flags") (T := T_F) (N := 5) K.1 K.2.1 K.2.2.2.2 (fun w h => List.mem_cons_of_mem _ (in_F w h)) K.2.2.2.1 hw.2.2.2.1 hw.1 2 rfl rfl 1 (by decide) (K.2.2.2.2 _ (List.mem_cons_of_mem _ m_fieldLink_PortProcessor_Flags_15)) (fun _ h => h) (by rw [← hv]; rfl) hd k
theorem pp_F_zero (K : CallFix p m c cc nL s args (c0 :: T0) "PortProcessor$Flags") (hw : pW D cI A a σ s H locs) {v : Nat} (hv : v < 2) (hd : decode cc pc = .ok (.putfield 15, 3)) (k : ∀ (H : Heap) (locs : List Loc), pW D cI A a (z_s_ze σ v) s H locs → W p l e R s m args below meth c H locs cells slots Q (F0 m (pc + 3) ls (rest))) : W p l e R s m args below meth c H locs cells slots Q (F0 m pc ls (.int (nI v) :: .ref a.2.2.1 :: rest)) := va_put (D := D) (ci := 2) (v := .int (nI v)) (ty := .boolean) (C := "PortProcessor$Flags") (T := T_F) (N := 5) K.1 K.2.1 K.2.2.2.2 (fun w h => List.mem_cons_of_mem _ (in_F w h)) ty_F ok9_F nm_F K.2.2.2.1 hw.2.2.2.1 hw.1 hw.2.1 hw.2.2.1 2 rfl rfl 1 (by decide) (K.2.2.2.2 _ (List.mem_cons_of_mem _ m_fieldLink_PortProcessor_Flags_15)) (fun _ h => h) rfl (by decide +kernel) (nz_nar hv) (nz_fit hv) (Nat.le_of_ble_eq_true rfl) hd (fun H locs hP hD hS => k H locs ⟨hP, hD, hS, hw.2.2.2.1, hw.2.2.2.2⟩)
theorem pg_F_auxiliary (K : CallFix p m c cc nL s args (c0 :: T0) "PortProcessor$Flags") (hw : pW D cI A a σ s H locs) {v : Nat} (hv : z_x_au σ = v) (hd : decode cc pc = .ok (.getfield 18, 3)) (k : W p l e R s m args below meth c H locs cells slots Q (F0 m (pc + 3) ls (.int (nI v) :: rest))) : W p l e R s m args below meth c H locs cells slots Q (F0 m pc ls (.ref a.2.2.1 :: rest)) := va_get (D := D) (ci := 2) (v := .int (nI v)) (C := "PortProcessor$Flags") (T := T_F) (N := 5) K.1 K.2.1 K.2.2.2.2 (fun w h => List.mem_cons_of_mem _ (in_F w h)) K.2.2.2.1 hw.2.2.2.1 hw.1 2 rfl rfl 2 (by decide) (K.2.2.2.2 _ (List.mem_cons_of_mem _ m_fieldLink_PortProcessor_Flags_18)) (fun _ h => h) (by rw [← hv]; rfl) hd k
theorem pp_F_auxiliary (K : CallFix p m c cc nL s args (c0 :: T0) "PortProcessor$Flags") (hw : pW D cI A a σ s H locs) {v : Nat} (hv : v < 2) (hd : decode cc pc = .ok (.putfield 18, 3)) (k : ∀ (H : Heap) (locs : List Loc), pW D cI A a (z_s_au σ v) s H locs → W p l e R s m args below meth c H locs cells slots Q (F0 m (pc + 3) ls (rest))) : W p l e R s m args below meth c H locs cells slots Q (F0 m pc ls (.int (nI v) :: .ref a.2.2.1 :: rest)) := va_put (D := D) (ci := 2) (v := .int (nI v)) (ty := .boolean) (C := "PortProcessor$Flags") (T := T_F) (N := 5) K.1 K.2.1 K.2.2.2.2 (fun w h => List.mem_cons_of_mem _ (in_F w h)) ty_F ok9_F nm_F K.2.2.2.1 hw.2.2.2.1 hw.1 hw.2.1 hw.2.2.1 2 rfl rfl 2 (by decide) (K.2.2.2.2 _ (List.mem_cons_of_mem _ m_fieldLink_PortProcessor_Flags_18)) (fun _ h => h) rfl (by decide +kernel) (nz_nar hv) (nz_fit hv) (Nat.le_of_ble_eq_true rfl) hd (fun H locs hP hD hS => k H locs ⟨hP, hD, hS, hw.2.2.2.1, hw.2.2.2.2⟩)
theorem pg_F_parity (K : CallFix p m c cc nL s args (c0 :: T0) "PortProcessor$Flags") (hw : pW D cI A a σ s H locs) {v : Nat} (hv : z_x_pa σ = v) (hd : decode cc pc = .ok (.getfield 21, 3)) (k : W p l e R s m args below meth c H locs cells slots Q (F0 m (pc + 3) ls (.int (nI v) :: rest))) : W p l e R s m args below meth c H locs cells slots Q (F0 m pc ls (.ref a.2.2.1 :: rest)) := va_get (D := D) (ci := 2) (v := .int (nI v)) (C := "PortProcessor$Flags") (T := T_F) (N := 5) K.1 K.2.1 K.2.2.2.2 (fun w h => List.mem_cons_of_mem _ (in_F w h)) K.2.2.2.1 hw.2.2.2.1 hw.1 2 rfl rfl 3 (by decide) (K.2.2.2.2 _ (List.mem_cons_of_mem _ m_fieldLink_PortProcessor_Flags_21)) (fun _ h => h) (by rw [← hv]; rfl) hd k
theorem pp_F_parity (K : CallFix p m c cc nL s args (c0 :: T0) "PortProcessor$Flags") (hw : pW D cI A a σ s H locs) {v : Nat} (hv : v < 2) (hd : decode cc pc = .ok (.putfield 21, 3)) (k : ∀ (H : Heap) (locs : List Loc), pW D cI A a (z_s_pa σ v) s H locs → W p l e R s m args below meth c H locs cells slots Q (F0 m (pc + 3) ls (rest))) : W p l e R s m args below meth c H locs cells slots Q (F0 m pc ls (.int (nI v) :: .ref a.2.2.1 :: rest)) := va_put (D := D) (ci := 2) (v := .int (nI v)) (ty := .boolean) (C := "PortProcessor$Flags") (T := T_F) (N := 5) K.1 K.2.1 K.2.2.2.2 (fun w h => List.mem_cons_of_mem _ (in_F w h)) ty_F ok9_F nm_F K.2.2.2.1 hw.2.2.2.1 hw.1 hw.2.1 hw.2.2.1 2 rfl rfl 3 (by decide) (K.2.2.2.2 _ (List.mem_cons_of_mem _ m_fieldLink_PortProcessor_Flags_21)) (fun _ h => h) rfl (by decide +kernel) (nz_nar hv) (nz_fit hv) (Nat.le_of_ble_eq_true rfl) hd (fun H locs hP hD hS => k H locs ⟨hP, hD, hS, hw.2.2.2.1, hw.2.2.2.2⟩)
theorem pg_F_carry (K : CallFix p m c cc nL s args (c0 :: T0) "PortProcessor$Flags") (hw : pW D cI A a σ s H locs) {v : Nat} (hv : z_x_ca σ = v) (hd : decode cc pc = .ok (.getfield 24, 3)) (k : W p l e R s m args below meth c H locs cells slots Q (F0 m (pc + 3) ls (.int (nI v) :: rest))) : W p l e R s m args below meth c H locs cells slots Q (F0 m pc ls (.ref a.2.2.1 :: rest)) := va_get (D := D) (ci := 2) (v := .int (nI v)) (C := "PortProcessor$Flags") (T := T_F) (N := 5) K.1 K.2.1 K.2.2.2.2 (fun w h => List.mem_cons_of_mem _ (in_F w h)) K.2.2.2.1 hw.2.2.2.1 hw.1 2 rfl rfl 4 (by decide) (K.2.2.2.2 _ (List.mem_cons_of_mem _ m_fieldLink_PortProcessor_Flags_24)) (fun _ h => h) (by rw [← hv]; rfl) hd k
theorem pp_F_carry (K : CallFix p m c cc nL s args (c0 :: T0) "PortProcessor$Flags") (hw : pW D cI A a σ s H locs) {v : Nat} (hv : v < 2) (hd : decode cc pc = .ok (.putfield 24, 3)) (k : ∀ (H : Heap) (locs : List Loc), pW D cI A a (z_s_ca σ v) s H locs → W p l e R s m args below meth c H locs cells slots Q (F0 m (pc + 3) ls (rest))) : W p l e R s m args below meth c H locs cells slots Q (F0 m pc ls (.int (nI v) :: .ref a.2.2.1 :: rest)) := va_put (D := D) (ci := 2) (v := .int (nI v)) (ty := .boolean) (C := "PortProcessor$Flags") (T := T_F) (N := 5) K.1 K.2.1 K.2.2.2.2 (fun w h => List.mem_cons_of_mem _ (in_F w h)) ty_F ok9_F nm_F K.2.2.2.1 hw.2.2.2.1 hw.1 hw.2.1 hw.2.2.1 2 rfl rfl 4 (by decide) (K.2.2.2.2 _ (List.mem_cons_of_mem _ m_fieldLink_PortProcessor_Flags_24)) (fun _ h => h) rfl (by decide +kernel) (nz_nar hv) (nz_fit hv) (Nat.le_of_ble_eq_true rfl) hd (fun H locs hP hD hS => k H locs ⟨hP, hD, hS, hw.2.2.2.1, hw.2.2.2.2⟩)
theorem pl_reg {Ts : List Cond} {own : String} {i v : Nat} (K : CallFix p m c cc nL s args Ts own) (hw : pW D cI A a σ s H locs) (hi : i < 8) (hv : z_x_reg σ i = v) (hd : decode cc pc = .ok (.iaload, 1)) (k : W p l e R s m args below meth c H locs cells slots Q (F0 m (pc + 1) ls (.int (nI v) :: rest))) : W p l e R s m args below meth c H locs cells slots Q (F0 m pc ls (.int (nI i) :: .ref a.2.2.2.1 :: rest)) := by
  refine va_iald K.1 K.2.1 hw.2.2.2.1 hw.1 3 0 rfl rfl (vp_in_nI hi (by omega)) hd ?_
  rw [nI_clamp (show i < 2 ^ 31 by omega), hv]
  exact k
theorem ps_reg {Ts : List Cond} {own : String} {i v : Nat} (K : CallFix p m c cc nL s args Ts own) (hw : pW D cI A a σ s H locs) (hi : i < 8) (hd : decode cc pc = .ok (.iastore, 1)) (k : ∀ (H : Heap) (locs : List Loc), pW D cI A a (z_s_reg σ (z_fs (z_x_reg σ) i (v))) s H locs → W p l e R s m args below meth c H locs cells slots Q (F0 m (pc + 1) ls (rest))) : W p l e R s m args below meth c H locs cells slots Q (F0 m pc ls (.int (nI v) :: .int (nI i) :: .ref a.2.2.2.1 :: rest)) := by
  refine va_iast K.1 K.2.1 hw.2.2.2.1 hw.1 hw.2.1 hw.2.2.1 3 0 rfl rfl (vp_in_nI hi (by omega)) hd (fun H1 locs1 hP hD hS => ?_)
  rw [nI_clamp (show i < 2 ^ 31 by omega), nz_upd] at hP hD
  exact k H1 locs1 ⟨hP, hD, hS, hw.2.2.2.1, hw.2.2.2.2⟩
theorem pl_inn {Ts : List Cond} {own : String} {i v : Nat} (K : CallFix p m c cc nL s args Ts own) (hw : pW D cI A a σ s H locs) (hi : i < 256) (hv : z_x_inn σ i = v) (hd : decode cc pc = .ok (.iaload, 1)) (k : W p l e R s m args below meth c H locs cells slots Q (F0 m (pc + 1) ls (.int (nI v) :: rest))) : W p l e R s m args below meth c H locs cells slots Q (F0 m pc ls (.int (nI i) :: .ref a.2.2.2.2.1 :: rest)) := by
  refine va_iald K.1 K.2.1 hw.2.2.2.1 hw.1 4 0 rfl rfl (vp_in_nI hi (by omega)) hd ?_
  rw [nI_clamp (show i < 2 ^ 31 by omega), hv]
  exact k
theorem ps_inn {Ts : List Cond} {own : String} {i v : Nat} (K : CallFix p m c cc nL s args Ts own) (hw : pW D cI A a σ s H locs) (hi : i < 256) (hd : decode cc pc = .ok (.iastore, 1)) (k : ∀ (H : Heap) (locs : List Loc), pW D cI A a (z_s_inn σ (z_fs (z_x_inn σ) i (v))) s H locs → W p l e R s m args below meth c H locs cells slots Q (F0 m (pc + 1) ls (rest))) : W p l e R s m args below meth c H locs cells slots Q (F0 m pc ls (.int (nI v) :: .int (nI i) :: .ref a.2.2.2.2.1 :: rest)) := by
  refine va_iast K.1 K.2.1 hw.2.2.2.1 hw.1 hw.2.1 hw.2.2.1 4 0 rfl rfl (vp_in_nI hi (by omega)) hd (fun H1 locs1 hP hD hS => ?_)
  rw [nI_clamp (show i < 2 ^ 31 by omega), nz_upd] at hP hD
  exact k H1 locs1 ⟨hP, hD, hS, hw.2.2.2.1, hw.2.2.2.2⟩
theorem pl_put {Ts : List Cond} {own : String} {i v : Nat} (K : CallFix p m c cc nL s args Ts own) (hw : pW D cI A a σ s H locs) (hi : i < 256) (hv : z_x_put σ i = v) (hd : decode cc pc = .ok (.iaload, 1)) (k : W p l e R s m args below meth c H locs cells slots Q (F0 m (pc + 1) ls (.int (nI v - 1) :: rest))) : W p l e R s m args below meth c H locs cells slots Q (F0 m pc ls (.int (nI i) :: .ref a.2.2.2.2.2.1 :: rest)) := by
  refine va_iald K.1 K.2.1 hw.2.2.2.1 hw.1 5 0 rfl rfl (vp_in_nI hi (by omega)) hd ?_
  rw [nI_clamp (show i < 2 ^ 31 by omega), hv]
  exact k
theorem ps_put {Ts : List Cond} {own : String} {i v : Nat} (K : CallFix p m c cc nL s args Ts own) (hw : pW D cI A a σ s H locs) (hi : i < 256) (hd : decode cc pc = .ok (.iastore, 1)) (k : ∀ (H : Heap) (locs : List Loc), pW D cI A a (z_s_put σ (z_fs (z_x_put σ) i (v + 1))) s H locs → W p l e R s m args below meth c H locs cells slots Q (F0 m (pc + 1) ls (rest))) : W p l e R s m args below meth c H locs cells slots Q (F0 m pc ls (.int (nI v) :: .int (nI i) :: .ref a.2.2.2.2.2.1 :: rest)) := by
  refine va_iast K.1 K.2.1 hw.2.2.2.1 hw.1 hw.2.1 hw.2.2.1 5 0 rfl rfl (vp_in_nI hi (by omega)) hd (fun H1 locs1 hP hD hS => ?_)
  rw [nI_clamp (show i < 2 ^ 31 by omega), nz_updm] at hP hD
  exact k H1 locs1 ⟨hP, hD, hS, hw.2.2.2.1, hw.2.2.2.2⟩
theorem pl_mem {Ts : List Cond} {own : String} {i v : Nat} (K : CallFix p m c cc nL s args Ts own) (hw : pW D cI A a σ s H locs) (hi : i < 1024) (hv : z_x_mem σ i = v) (hd : decode cc pc = .ok (.iaload, 1)) (k : W p l e R s m args below meth c H locs cells slots Q (F0 m (pc + 1) ls (.int (nI v) :: rest))) : W p l e R s m args below meth c H locs cells slots Q (F0 m pc ls (.int (nI i) :: .ref a.2.2.2.2.2.2 :: rest)) := by
  refine va_iald K.1 K.2.1 hw.2.2.2.1 hw.1 6 0 rfl rfl (vp_in_nI hi (by omega)) hd ?_
  rw [nI_clamp (show i < 2 ^ 31 by omega), hv]
  exact k
theorem ps_mem {Ts : List Cond} {own : String} {i v : Nat} (K : CallFix p m c cc nL s args Ts own) (hw : pW D cI A a σ s H locs) (hi : i < 1024) (hd : decode cc pc = .ok (.iastore, 1)) (k : ∀ (H : Heap) (locs : List Loc), pW D cI A a (z_s_mem σ (z_fs (z_x_mem σ) i (v))) s H locs → W p l e R s m args below meth c H locs cells slots Q (F0 m (pc + 1) ls (rest))) : W p l e R s m args below meth c H locs cells slots Q (F0 m pc ls (.int (nI v) :: .int (nI i) :: .ref a.2.2.2.2.2.2 :: rest)) := by
  refine va_iast K.1 K.2.1 hw.2.2.2.1 hw.1 hw.2.1 hw.2.2.1 6 0 rfl rfl (vp_in_nI hi (by omega)) hd (fun H1 locs1 hP hD hS => ?_)
  rw [nI_clamp (show i < 2 ^ 31 by omega), nz_upd] at hP hD
  exact k H1 locs1 ⟨hP, hD, hS, hw.2.2.2.1, hw.2.2.2.2⟩
end
end
section
set_option maxHeartbeats 4000000 in
set_option maxRecDepth 100000 in
theorem c_read {σ : z_St} {x : Nat} (l : Launch) (D : va_G) (cI : ClassId) (a : pAd) (hO : z_Ok σ) (hx : x < 65536) : pCi l y_M_read w_M_read 0 0 D cI a [.ref a.2.1, .int (nI x)] σ σ (nI (z_rd σ x)) := by
  refine pci_of (cc := b_M_read) (maxL := 2) (ret := (some .int)) (by decide) rfl (Nat.le_of_ble_eq_true rfl) ?_
  intro p e s m below meth c ls K hr hlk hl hw
  have K : CallFix p m c b_M_read 2 s _ (_ :: T0) "PortProcessor$Memory" := K
  have hl : lv_has ls 2 [(0, .ref a.2.1), (1, .int (nI x))] := hl
  refine lv_iload_n K.1 K.2.1 d_M_read_0 rfl (lv_at hl 1 rfl) ?_
  refine nv_if_lt K (by omega) d_M_read_1 rfl ?_
  refine lv_iload_n K.1 K.2.1 d_M_read_4 rfl (lv_at hl 1 rfl) ?_
  refine nv_sipush (v := 1024) K d_M_read_5 (by decide) ?_
  have hb1 : z_x_mem σ x < 256 := z_k_mem hO _
  refine nf_icmp_ge (u := 255) (v := z_x_mem σ x) (Y := 23) K (by omega) (by omega) d_M_read_8 rfl (fun _ k => nv_sipush (v := 255) K d_M_read_20 (by decide) k) (fun _ k => lv_aload_n K.1 K.2.1 d_M_read_11 rfl (lv_at hl 0 rfl) (pg_M_cells K hw d_M_read_12 (lv_iload_n K.1 K.2.1 d_M_read_15 rfl (lv_at hl 1 rfl) (pl_mem (i := x) (v := z_x_mem σ x) K hw (by omega) rfl d_M_read_16 (lv_goto K.1 K.2.1 d_M_read_17 rfl k))))) ?_
  have hb2 : (if 1024 ≤ x then 255 else z_x_mem σ x) < 256 := z_ite_ltB _ (by omega) (by omega)
  exact pri K hr hlk hw (by first | rfl | (simp; done) | (skip; rfl)) (by unfold z_rd; split <;> split <;> first | rfl | omega) d_M_read_23
set_option maxHeartbeats 4000000 in
set_option maxRecDepth 100000 in
theorem c_write {σ : z_St} {x v : Nat} (l : Launch) (D : va_G) (cI : ClassId) (a : pAd) (hO : z_Ok σ) (hx : x < 65536) (hv : v < 256) : pCv l y_M_write w_M_write 0 0 D cI a [.ref a.2.1, .int (nI x), .int (nI v)] σ (z_wr σ x v) := by
  refine pcv_of (cc := b_M_write) (maxL := 3) (ret := none) (by decide) rfl (Nat.le_of_ble_eq_true rfl) ?_
  intro p e s m below meth c ls K hr hlk hl hw
  have K : CallFix p m c b_M_write 3 s _ (_ :: T0) "PortProcessor$Memory" := K
  have hl : lv_has ls 3 [(0, .ref a.2.1), (1, .int (nI x)), (2, .int (nI v))] := hl
  refine lv_iload_n K.1 K.2.1 d_M_write_0 rfl (lv_at hl 1 rfl) ?_
  refine nv_if_lt K (by omega) d_M_write_1 rfl ?_
  refine lv_iload_n K.1 K.2.1 d_M_write_4 rfl (lv_at hl 1 rfl) ?_
  refine nv_sipush (v := 1024) K d_M_write_5 (by decide) ?_
  refine nv_icmp_ge K (by omega) (by omega) d_M_write_8 rfl (fun h1 => ?_) (fun h1 => ?_)
  · exact prv K hr hlk hw (by first | (unfold z_wr z_fw; rw [if_pos (by omega)]; done) | (unfold z_wr z_fw; rw [if_neg (by omega)]; rfl)) d_M_write_18
  · refine lv_aload_n K.1 K.2.1 d_M_write_11 rfl (lv_at hl 0 rfl) ?_
    refine pg_M_cells K hw d_M_write_12 ?_
    refine lv_iload_n K.1 K.2.1 d_M_write_15 rfl (lv_at hl 1 rfl) ?_
    refine lv_iload_n K.1 K.2.1 d_M_write_16 rfl (lv_at hl 2 rfl) ?_
    refine ps_mem (i := x) (v := v) K hw (by omega) d_M_write_17 (fun H locs hw => ?_)
    have hO2 : z_Ok (z_s_mem σ (z_fs (z_x_mem σ) x v)) := z_ok_mem hO (z_fs_lt (z_k_mem hO) (by omega))
    exact prv K hr hlk hw (by first | (unfold z_wr z_fw; rw [if_pos (by omega)]; done) | (unfold z_wr z_fw; rw [if_neg (by omega)]; rfl)) d_M_write_18
set_option maxHeartbeats 4000000 in
set_option maxRecDepth 100000 in
theorem c_readPair {σ : z_St} {k : Nat} (l : Launch) (D : va_G) (cI : ClassId) (a : pAd) (hO : z_Ok σ) (hk : k < 4) : pCi l y_P_readPair w_P_readPair 0 0 D cI a [.ref a.1, .int (nI k)] σ σ (nI (z_pg σ k)) := by
  refine pci_of (cc := b_P_readPair) (maxL := 2) (ret := (some .int)) (by decide) rfl (Nat.le_of_ble_eq_true rfl) ?_
  intro p e s m below meth c ls K hr hlk hl hw
  have K : CallFix p m c b_P_readPair 2 s _ (_ :: T0) "PortProcessor" := K
  have hl : lv_has ls 2 [(0, .ref a.1), (1, .int (nI k))] := hl
  refine lv_iload_n K.1 K.2.1 d_P_readPair_0 rfl (lv_at hl 1 rfl) ?_
  refine nv_iconst (v := 3) K d_P_readPair_1 (by decide) ?_
  refine nv_icmp_ne K (by omega) (by omega) d_P_readPair_2 rfl (fun h1 => ?_) (fun h1 => ?_)
  · refine lv_aload_n K.1 K.2.1 d_P_readPair_12 rfl (lv_at hl 0 rfl) ?_
    refine pg_registers K hw d_P_readPair_13 ?_
    refine nv_iconst (v := 2) K d_P_readPair_16 (by decide) ?_
    refine lv_iload_n K.1 K.2.1 d_P_readPair_17 rfl (lv_at hl 1 rfl) ?_
    refine nv_imul K d_P_readPair_18 ?_
    refine pl_reg (i := 2 * k) (v := z_x_reg σ (2 * k)) K hw (by omega) rfl d_P_readPair_19 ?_
    have hb2 : z_x_reg σ (2 * k) < 256 := z_k_reg hO _
    refine nv_bipush (v := 8) K d_P_readPair_20 (by decide) ?_
    refine nv_ishl (M := 256) K (by omega) rfl (by omega) d_P_readPair_22 ?_
    refine lv_aload_n K.1 K.2.1 d_P_readPair_23 rfl (lv_at hl 0 rfl) ?_
    refine pg_registers K hw d_P_readPair_24 ?_
    refine nv_iconst (v := 2) K d_P_readPair_27 (by decide) ?_
    refine lv_iload_n K.1 K.2.1 d_P_readPair_28 rfl (lv_at hl 1 rfl) ?_
    refine nv_imul K d_P_readPair_29 ?_
    refine nv_iconst (v := 1) K d_P_readPair_30 (by decide) ?_
    refine nv_iadd K d_P_readPair_31 ?_
    refine pl_reg (i := (2 * k) + 1) (v := z_x_reg σ ((2 * k) + 1)) K hw (by omega) rfl d_P_readPair_32 ?_
    have hb3 : z_x_reg σ ((2 * k) + 1) < 256 := z_k_reg hO _
    refine nv_or256 K (by omega) d_P_readPair_33 ?_
    exact pri K hr hlk hw (by first | rfl | (simp [h1]; done) | (simp only [h1]; rfl)) (by first | (unfold z_pg; rw [if_pos (by omega)]; done) | (unfold z_pg; rw [if_neg (by omega)]; done)) d_P_readPair_34
  · refine lv_aload_n K.1 K.2.1 d_P_readPair_5 rfl (lv_at hl 0 rfl) ?_
    refine pg_stackPointer (v := z_x_sp σ) K hw rfl d_P_readPair_6 ?_
    have hb4 : z_x_sp σ < 65536 := z_k_sp hO
    refine lv_goto K.1 K.2.1 d_P_readPair_9 rfl ?_
    exact pri K hr hlk hw (by first | rfl | (simp [h1]; done) | (simp only [h1]; rfl)) (by first | (unfold z_pg; rw [if_pos (by omega)]; done) | (unfold z_pg; rw [if_neg (by omega)]; done)) d_P_readPair_34
set_option maxHeartbeats 4000000 in
set_option maxRecDepth 100000 in
theorem c_writePair {σ : z_St} {k v : Nat} (l : Launch) (D : va_G) (cI : ClassId) (a : pAd) (hO : z_Ok σ) (hk : k < 4) (hv : v < 65536) : pCv l y_P_writePair w_P_writePair 0 0 D cI a [.ref a.1, .int (nI k), .int (nI v)] σ (z_ps σ k v) := by
  refine pcv_of (cc := b_P_writePair) (maxL := 3) (ret := none) (by decide) rfl (Nat.le_of_ble_eq_true rfl) ?_
  intro p e s m below meth c ls K hr hlk hl hw
  have K : CallFix p m c b_P_writePair 3 s _ (_ :: T0) "PortProcessor" := K
  have hl : lv_has ls 3 [(0, .ref a.1), (1, .int (nI k)), (2, .int (nI v))] := hl
  refine lv_iload_n K.1 K.2.1 d_P_writePair_0 rfl (lv_at hl 1 rfl) ?_
  refine nv_iconst (v := 3) K d_P_writePair_1 (by decide) ?_
  refine nv_icmp_ne K (by omega) (by omega) d_P_writePair_2 rfl (fun h1 => ?_) (fun h1 => ?_)
  · refine lv_aload_n K.1 K.2.1 d_P_writePair_13 rfl (lv_at hl 0 rfl) ?_
    refine pg_registers K hw d_P_writePair_14 ?_
    refine nv_iconst (v := 2) K d_P_writePair_17 (by decide) ?_
    refine lv_iload_n K.1 K.2.1 d_P_writePair_18 rfl (lv_at hl 1 rfl) ?_
    refine nv_imul K d_P_writePair_19 ?_
    refine lv_iload_n K.1 K.2.1 d_P_writePair_20 rfl (lv_at hl 2 rfl) ?_
    refine nv_bipush (v := 8) K d_P_writePair_21 (by decide) ?_
    refine nv_ishr (M := 256) K (by omega) rfl (by omega) d_P_writePair_23 ?_
    refine ps_reg (i := 2 * k) (v := v / 256) K hw (by omega) d_P_writePair_24 (fun H locs hw => ?_)
    have hO2 : z_Ok (z_s_reg σ (z_fs (z_x_reg σ) (2 * k) (v / 256))) := z_ok_reg hO (z_fs_lt (z_k_reg hO) (by omega))
    refine lv_aload_n K.1 K.2.1 d_P_writePair_25 rfl (lv_at hl 0 rfl) ?_
    refine pg_registers K hw d_P_writePair_26 ?_
    refine nv_iconst (v := 2) K d_P_writePair_29 (by decide) ?_
    refine lv_iload_n K.1 K.2.1 d_P_writePair_30 rfl (lv_at hl 1 rfl) ?_
    refine nv_imul K d_P_writePair_31 ?_
    refine nv_iconst (v := 1) K d_P_writePair_32 (by decide) ?_
    refine nv_iadd K d_P_writePair_33 ?_
    refine lv_iload_n K.1 K.2.1 d_P_writePair_34 rfl (lv_at hl 2 rfl) ?_
    refine nv_sipush (v := 255) K d_P_writePair_35 (by decide) ?_
    refine nv_mask (M := 256) K 8 rfl rfl d_P_writePair_38 ?_
    refine ps_reg (i := (2 * k) + 1) (v := v % 256) K hw (by omega) d_P_writePair_39 (fun H locs hw => ?_)
    have hO3 : z_Ok (z_s_reg (z_s_reg σ (z_fs (z_x_reg σ) (2 * k) (v / 256))) (z_fs (z_fs (z_x_reg σ) (2 * k) (v / 256)) ((2 * k) + 1) (v % 256))) := z_ok_reg hO2 (z_fs_lt (z_k_reg hO2) (by omega))
    exact prv K hr hlk hw (by first | (unfold z_ps; rw [if_pos (by omega), if_pos (by omega)]; rfl) | (unfold z_ps; rw [if_neg (by omega), if_neg (by omega)]; rfl)) d_P_writePair_40
  · refine lv_aload_n K.1 K.2.1 d_P_writePair_5 rfl (lv_at hl 0 rfl) ?_
    refine lv_iload_n K.1 K.2.1 d_P_writePair_6 rfl (lv_at hl 2 rfl) ?_
    refine pp_stackPointer (v := v) K hw d_P_writePair_7 (fun H locs hw => ?_)
    have hO4 : z_Ok (z_s_sp σ v) := z_ok_sp hO (by omega)
    refine lv_goto K.1 K.2.1 d_P_writePair_10 rfl ?_
    exact prv K hr hlk hw (by first | (unfold z_ps; rw [if_pos (by omega), if_pos (by omega)]; rfl) | (unfold z_ps; rw [if_neg (by omega), if_neg (by omega)]; rfl)) d_P_writePair_40
set_option maxHeartbeats 4000000 in
set_option maxRecDepth 100000 in
theorem c_readRegister {σ : z_St} {r : Nat} (l : Launch) (D : va_G) (cI : ClassId) (a : pAd) (hO : z_Ok σ) (hr8 : r < 8) : pCi l y_P_readRegister w_P_readRegister 1 21 D cI a [.ref a.1, .int (nI r)] σ σ (nI (z_rg σ r)) := by
  refine pci_of (cc := b_P_readRegister) (maxL := 2) (ret := (some .int)) (by decide) rfl (Nat.le_of_ble_eq_true rfl) ?_
  intro p e s m below meth c ls K hr hlk hl hw
  have K : CallFix p m c b_P_readRegister 2 s _ (_ :: T0) "PortProcessor" := K
  have hl : lv_has ls 2 [(0, .ref a.1), (1, .int (nI r))] := hl
  refine lv_iload_n K.1 K.2.1 d_P_readRegister_0 rfl (lv_at hl 1 rfl) ?_
  refine nv_bipush (v := 6) K d_P_readRegister_1 (by decide) ?_
  refine nv_icmp_ne K (by omega) (by omega) d_P_readRegister_3 rfl (fun h1 => ?_) (fun h1 => ?_)
  · refine lv_aload_n K.1 K.2.1 d_P_readRegister_21 rfl (lv_at hl 0 rfl) ?_
    refine pg_registers K hw d_P_readRegister_22 ?_
    refine lv_iload_n K.1 K.2.1 d_P_readRegister_25 rfl (lv_at hl 1 rfl) ?_
    refine pl_reg (i := r) (v := z_x_reg σ r) K hw (by omega) rfl d_P_readRegister_26 ?_
    have hb2 : z_x_reg σ r < 256 := z_k_reg hO _
    exact pri K hr hlk hw (by first | rfl | (simp [h1]; done) | (simp only [h1]; rfl)) (by first | (unfold z_rg; rw [if_pos (by omega)]; done) | (unfold z_rg; rw [if_neg (by omega)]; done)) d_P_readRegister_27
  · refine lv_aload_n K.1 K.2.1 d_P_readRegister_6 rfl (lv_at hl 0 rfl) ?_
    refine pg_memory K hw d_P_readRegister_7 ?_
    refine lv_aload_n K.1 K.2.1 d_P_readRegister_10 rfl (lv_at hl 0 rfl) ?_
    refine nv_iconst (v := 2) K d_P_readRegister_11 (by decide) ?_
    refine pki K (c_readPair (σ := σ) (k := 2) l D cI a hO (by omega)) (cw_P_199 K (Nat.le_of_ble_eq_true rfl) (Nat.le_of_ble_eq_true rfl)) hw (va_recv (ci := 0) (q0 := 0) hw.2.2.2.1 hw.1 rfl rfl) rfl hl.1 rfl (Nat.le_of_ble_eq_true rfl) d_P_readRegister_12 ⟨Nat.zero_le _, Nat.zero_le _⟩ (fun H locs hw => ?_)
    have hb3 : z_pg σ 2 < 65536 := z_pg_lt hO _
    refine pki K (c_read (σ := σ) (x := z_pg σ 2) l D cI a hO (by omega)) (cw_P_52 K (Nat.le_of_ble_eq_true rfl) (Nat.le_of_ble_eq_true rfl)) hw (va_recv (ci := 1) (q0 := 1) hw.2.2.2.1 hw.1 rfl rfl) rfl hl.1 rfl (Nat.le_of_ble_eq_true rfl) d_P_readRegister_15 ⟨Nat.zero_le _, Nat.zero_le _⟩ (fun H locs hw => ?_)
    have hb4 : z_rd σ (z_pg σ 2) < 256 := z_rd_lt hO _
    refine lv_goto K.1 K.2.1 d_P_readRegister_18 rfl ?_
    exact pri K hr hlk hw (by first | rfl | (simp [h1]; done) | (simp only [h1]; rfl)) (by first | (unfold z_rg; rw [if_pos (by omega)]; done) | (unfold z_rg; rw [if_neg (by omega)]; done)) d_P_readRegister_27
set_option maxHeartbeats 4000000 in
set_option maxRecDepth 100000 in
theorem c_writeRegister {σ : z_St} {r v : Nat} (l : Launch) (D : va_G) (cI : ClassId) (a : pAd) (hO : z_Ok σ) (hr8 : r < 8) (hv : v < 256) : pCv l y_P_writeRegister w_P_writeRegister 1 22 D cI a [.ref a.1, .int (nI r), .int (nI v)] σ (z_rs σ r v) := by
  refine pcv_of (cc := b_P_writeRegister) (maxL := 3) (ret := none) (by decide) rfl (Nat.le_of_ble_eq_true rfl) ?_
  intro p e s m below meth c ls K hr hlk hl hw
  have K : CallFix p m c b_P_writeRegister 3 s _ (_ :: T0) "PortProcessor" := K
  have hl : lv_has ls 3 [(0, .ref a.1), (1, .int (nI r)), (2, .int (nI v))] := hl
  refine lv_iload_n K.1 K.2.1 d_P_writeRegister_0 rfl (lv_at hl 1 rfl) ?_
  refine nv_bipush (v := 6) K d_P_writeRegister_1 (by decide) ?_
  refine nv_icmp_ne K (by omega) (by omega) d_P_writeRegister_3 rfl (fun h1 => ?_) (fun h1 => ?_)
  · refine lv_aload_n K.1 K.2.1 d_P_writeRegister_22 rfl (lv_at hl 0 rfl) ?_
    refine pg_registers K hw d_P_writeRegister_23 ?_
    refine lv_iload_n K.1 K.2.1 d_P_writeRegister_26 rfl (lv_at hl 1 rfl) ?_
    refine lv_iload_n K.1 K.2.1 d_P_writeRegister_27 rfl (lv_at hl 2 rfl) ?_
    refine ps_reg (i := r) (v := v) K hw (by omega) d_P_writeRegister_28 (fun H locs hw => ?_)
    have hO2 : z_Ok (z_s_reg σ (z_fs (z_x_reg σ) r v)) := z_ok_reg hO (z_fs_lt (z_k_reg hO) (by omega))
    exact prv K hr hlk hw (by first | (unfold z_rs; rw [if_pos (by omega), if_pos (by omega)]; rfl) | (unfold z_rs; rw [if_neg (by omega), if_neg (by omega)]; rfl)) d_P_writeRegister_29
  · refine lv_aload_n K.1 K.2.1 d_P_writeRegister_6 rfl (lv_at hl 0 rfl) ?_
    refine pg_memory K hw d_P_writeRegister_7 ?_
    refine lv_aload_n K.1 K.2.1 d_P_writeRegister_10 rfl (lv_at hl 0 rfl) ?_
    refine nv_iconst (v := 2) K d_P_writeRegister_11 (by decide) ?_
    refine pki K (c_readPair (σ := σ) (k := 2) l D cI a hO (by omega)) (cw_P_199 K (Nat.le_of_ble_eq_true rfl) (Nat.le_of_ble_eq_true rfl)) hw (va_recv (ci := 0) (q0 := 0) hw.2.2.2.1 hw.1 rfl rfl) rfl hl.1 rfl (Nat.le_of_ble_eq_true rfl) d_P_writeRegister_12 ⟨Nat.zero_le _, Nat.zero_le _⟩ (fun H locs hw => ?_)
    have hb3 : z_pg σ 2 < 65536 := z_pg_lt hO _
    refine lv_iload_n K.1 K.2.1 d_P_writeRegister_15 rfl (lv_at hl 2 rfl) ?_
    refine pkv K (c_write (σ := σ) (x := z_pg σ 2) (v := v) l D cI a hO (by omega) (by omega)) (cw_P_46 K (Nat.le_of_ble_eq_true rfl) (Nat.le_of_ble_eq_true rfl)) hw (va_recv (ci := 1) (q0 := 1) hw.2.2.2.1 hw.1 rfl rfl) rfl hl.1 rfl (Nat.le_of_ble_eq_true rfl) d_P_writeRegister_16 ⟨Nat.zero_le _, Nat.zero_le _⟩ (fun H locs hw => ?_)
    have hO4 : z_Ok (z_wr σ (z_pg σ 2) v) := z_ok_wr hO _ (by omega)
    refine lv_goto K.1 K.2.1 d_P_writeRegister_19 rfl ?_
    exact prv K hr hlk hw (by first | (unfold z_rs; rw [if_pos (by omega), if_pos (by omega)]; rfl) | (unfold z_rs; rw [if_neg (by omega), if_neg (by omega)]; rfl)) d_P_writeRegister_29
set_option maxHeartbeats 4000000 in
set_option maxRecDepth 100000 in
theorem c_nextByte {σ : z_St} (l : Launch) (D : va_G) (cI : ClassId) (a : pAd) (hO : z_Ok σ) : pCi l y_P_nextByte w_P_nextByte 1 21 D cI a [.ref a.1] σ (z_nx σ) (nI (z_nb σ)) := by
  refine pci_of (cc := b_P_nextByte) (maxL := 2) (ret := (some .int)) (by decide) rfl (Nat.le_of_ble_eq_true rfl) ?_
  intro p e s m below meth c ls K hr hlk hl hw
  have K : CallFix p m c b_P_nextByte 2 s _ (_ :: T0) "PortProcessor" := K
  have hl : lv_has ls 2 [(0, .ref a.1)] := hl
  refine lv_aload_n K.1 K.2.1 d_P_nextByte_0 rfl (lv_at hl 0 rfl) ?_
  refine pg_memory K hw d_P_nextByte_1 ?_
  refine lv_aload_n K.1 K.2.1 d_P_nextByte_4 rfl (lv_at hl 0 rfl) ?_
  refine pg_programCounter (v := z_x_pc σ) K hw rfl d_P_nextByte_5 ?_
  have hb1 : z_x_pc σ < 65536 := z_k_pc hO
  refine pki K (c_read (σ := σ) (x := z_x_pc σ) l D cI a hO (by omega)) (cw_P_52 K (Nat.le_of_ble_eq_true rfl) (Nat.le_of_ble_eq_true rfl)) hw (va_recv (ci := 1) (q0 := 1) hw.2.2.2.1 hw.1 rfl rfl) rfl hl.1 rfl (Nat.le_of_ble_eq_true rfl) d_P_nextByte_8 ⟨Nat.zero_le _, Nat.zero_le _⟩ (fun H locs hw => ?_)
  have hb2 : z_rd σ (z_x_pc σ) < 256 := z_rd_lt hO _
  refine lv_istore_n (lv' := [(1, .int (nI (z_rd σ (z_x_pc σ)))), (0, .ref a.1)]) K.1 K.2.1 d_P_nextByte_11 rfl hl (by decide) rfl (fun ls hl => ?_)
  refine lv_aload_n K.1 K.2.1 d_P_nextByte_12 rfl (lv_at hl 1 rfl) ?_
  refine lv_aload_n K.1 K.2.1 d_P_nextByte_13 rfl (lv_at hl 1 rfl) ?_
  refine pg_programCounter (v := z_x_pc σ) K hw rfl d_P_nextByte_14 ?_
  refine nv_iconst (v := 1) K d_P_nextByte_17 (by decide) ?_
  refine nv_iadd K d_P_nextByte_18 ?_
  refine nv_ldc (v := 65535) K d_P_nextByte_19 (K.2.2.2.2 _ (List.mem_cons_of_mem _ m_constant_PortProcessor_56_65535)) ?_
  refine nv_mask (M := 65536) K 16 rfl rfl d_P_nextByte_21 ?_
  refine pp_programCounter (v := ((z_x_pc σ) + 1) % 65536) K hw d_P_nextByte_22 (fun H locs hw => ?_)
  have hO3 : z_Ok (z_s_pc σ (((z_x_pc σ) + 1) % 65536)) := z_ok_pc hO (by omega)
  refine lv_iload_n K.1 K.2.1 d_P_nextByte_25 rfl (lv_at hl 0 rfl) ?_
  exact pri K hr hlk hw (by first | rfl | (simp [z_nx]; done) | (simp only [z_nx]; rfl)) (by first | rfl | (simp [z_nx]; done) | (congr 1; omega) | (simp [z_nx]; omega)) d_P_nextByte_26
set_option maxHeartbeats 4000000 in
set_option maxRecDepth 100000 in
theorem c_nextTwoBytes {σ : z_St} (l : Launch) (D : va_G) (cI : ClassId) (a : pAd) (hO : z_Ok σ) : pCi l y_P_nextTwoBytes w_P_nextTwoBytes 2 42 D cI a [.ref a.1] σ (z_nn σ) (nI (z_nw σ)) := by
  refine pci_of (cc := b_P_nextTwoBytes) (maxL := 2) (ret := (some .int)) (by decide) rfl (Nat.le_of_ble_eq_true rfl) ?_
  intro p e s m below meth c ls K hr hlk hl hw
  have K : CallFix p m c b_P_nextTwoBytes 2 s _ (_ :: T0) "PortProcessor" := K
  have hl : lv_has ls 2 [(0, .ref a.1)] := hl
  refine lv_aload_n K.1 K.2.1 d_P_nextTwoBytes_0 rfl (lv_at hl 0 rfl) ?_
  refine pki K (c_nextByte (σ := σ) l D cI a hO) (cw_P_121 K (Nat.le_of_ble_eq_true rfl) (Nat.le_of_ble_eq_true rfl)) hw (va_recv (ci := 0) (q0 := 0) hw.2.2.2.1 hw.1 rfl rfl) rfl hl.1 rfl (Nat.le_of_ble_eq_true rfl) d_P_nextTwoBytes_1 ⟨Nat.zero_le _, Nat.zero_le _⟩ (fun H locs hw => ?_)
  have hO1 : z_Ok (z_nx σ) := z_ok_nx hO
  have hb2 : z_nb σ < 256 := z_nb_lt hO
  refine lv_istore_n (lv' := [(1, .int (nI (z_nb σ))), (0, .ref a.1)]) K.1 K.2.1 d_P_nextTwoBytes_4 rfl hl (by decide) rfl (fun ls hl => ?_)
  refine lv_aload_n K.1 K.2.1 d_P_nextTwoBytes_5 rfl (lv_at hl 1 rfl) ?_
  refine pki K (c_nextByte (σ := z_nx σ) l D cI a hO1) (cw_P_121 K (Nat.le_of_ble_eq_true rfl) (Nat.le_of_ble_eq_true rfl)) hw (va_recv (ci := 0) (q0 := 0) hw.2.2.2.1 hw.1 rfl rfl) rfl hl.1 rfl (Nat.le_of_ble_eq_true rfl) d_P_nextTwoBytes_6 ⟨Nat.zero_le _, Nat.zero_le _⟩ (fun H locs hw => ?_)
  have hO3 : z_Ok (z_nx (z_nx σ)) := z_ok_nx hO1
  have hb4 : z_nb (z_nx σ) < 256 := z_nb_lt hO1
  refine nv_bipush (v := 8) K d_P_nextTwoBytes_9 (by decide) ?_
  refine nv_ishl (M := 256) K (by omega) rfl (by omega) d_P_nextTwoBytes_11 ?_
  refine lv_iload_n K.1 K.2.1 d_P_nextTwoBytes_12 rfl (lv_at hl 0 rfl) ?_
  refine nv_or256 K (by omega) d_P_nextTwoBytes_13 ?_
  exact pri K hr hlk hw (by first | rfl | (simp [z_nn, z_nx]; done) | (simp only [z_nn, z_nx]; rfl)) (by first | rfl | (simp [z_nn, z_nx]; done) | (congr 1; omega) | (simp [z_nn, z_nx]; omega)) d_P_nextTwoBytes_14
set_option maxHeartbeats 4000000 in
set_option maxRecDepth 100000 in
theorem c_push {σ : z_St} {v : Nat} (l : Launch) (D : va_G) (cI : ClassId) (a : pAd) (hO : z_Ok σ) (hv : v < 65536) : pCv l y_P_push w_P_push 1 22 D cI a [.ref a.1, .int (nI v)] σ (z_pu σ v) := by
  refine pcv_of (cc := b_P_push) (maxL := 2) (ret := none) (by decide) rfl (Nat.le_of_ble_eq_true rfl) ?_
  intro p e s m below meth c ls K hr hlk hl hw
  have K : CallFix p m c b_P_push 2 s _ (_ :: T0) "PortProcessor" := K
  have hl : lv_has ls 2 [(0, .ref a.1), (1, .int (nI v))] := hl
  refine lv_aload_n K.1 K.2.1 d_P_push_0 rfl (lv_at hl 0 rfl) ?_
  refine lv_aload_n K.1 K.2.1 d_P_push_1 rfl (lv_at hl 0 rfl) ?_
  refine pg_stackPointer (v := z_x_sp σ) K hw rfl d_P_push_2 ?_
  have hb1 : z_x_sp σ < 65536 := z_k_sp hO
  refine nv_iconst (v := 1) K d_P_push_5 (by decide) ?_
  refine lv_isub K.1 K.2.1 d_P_push_6 ?_
  refine nv_ldc (v := 65535) K d_P_push_7 (K.2.2.2.2 _ (List.mem_cons_of_mem _ m_constant_PortProcessor_56_65535)) ?_
  refine lv_iand K.1 K.2.1 d_P_push_9 (nv_as K (nz_dec (by omega)) ?_)
  refine pp_stackPointer (v := ((z_x_sp σ) + 65535) % 65536) K hw d_P_push_10 (fun H locs hw => ?_)
  have hO2 : z_Ok (z_s_sp σ (((z_x_sp σ) + 65535) % 65536)) := z_ok_sp hO (by omega)
  refine lv_aload_n K.1 K.2.1 d_P_push_13 rfl (lv_at hl 0 rfl) ?_
  refine pg_memory K hw d_P_push_14 ?_
  refine lv_aload_n K.1 K.2.1 d_P_push_17 rfl (lv_at hl 0 rfl) ?_
  refine pg_stackPointer (v := ((z_x_sp σ) + 65535) % 65536) K hw rfl d_P_push_18 ?_
  have hb3 : ((z_x_sp σ) + 65535) % 65536 < 65536 := by omega
  refine lv_iload_n K.1 K.2.1 d_P_push_21 rfl (lv_at hl 1 rfl) ?_
  refine nv_bipush (v := 8) K d_P_push_22 (by decide) ?_
  refine nv_ishr (M := 256) K (by omega) rfl (by omega) d_P_push_24 ?_
  refine pkv K (c_write (σ := z_s_sp σ (((z_x_sp σ) + 65535) % 65536)) (x := ((z_x_sp σ) + 65535) % 65536) (v := v / 256) l D cI a hO2 (by omega) (by omega)) (cw_P_46 K (Nat.le_of_ble_eq_true rfl) (Nat.le_of_ble_eq_true rfl)) hw (va_recv (ci := 1) (q0 := 1) hw.2.2.2.1 hw.1 rfl rfl) rfl hl.1 rfl (Nat.le_of_ble_eq_true rfl) d_P_push_25 ⟨Nat.zero_le _, Nat.zero_le _⟩ (fun H locs hw => ?_)
  have hO4 : z_Ok (z_wr (z_s_sp σ (((z_x_sp σ) + 65535) % 65536)) (((z_x_sp σ) + 65535) % 65536) (v / 256)) := z_ok_wr hO2 _ (by omega)
  refine lv_aload_n K.1 K.2.1 d_P_push_28 rfl (lv_at hl 0 rfl) ?_
  refine lv_aload_n K.1 K.2.1 d_P_push_29 rfl (lv_at hl 0 rfl) ?_
  refine pg_stackPointer (v := ((z_x_sp σ) + 65535) % 65536) K hw rfl d_P_push_30 ?_
  refine nv_iconst (v := 1) K d_P_push_33 (by decide) ?_
  refine lv_isub K.1 K.2.1 d_P_push_34 ?_
  refine nv_ldc (v := 65535) K d_P_push_35 (K.2.2.2.2 _ (List.mem_cons_of_mem _ m_constant_PortProcessor_56_65535)) ?_
  refine lv_iand K.1 K.2.1 d_P_push_37 (nv_as K (nz_dec (by omega)) ?_)
  refine pp_stackPointer (v := ((((z_x_sp σ) + 65535) % 65536) + 65535) % 65536) K hw d_P_push_38 (fun H locs hw => ?_)
  have hO5 : z_Ok (z_s_sp (z_wr (z_s_sp σ (((z_x_sp σ) + 65535) % 65536)) (((z_x_sp σ) + 65535) % 65536) (v / 256)) (((((z_x_sp σ) + 65535) % 65536) + 65535) % 65536)) := z_ok_sp hO4 (by omega)
  refine lv_aload_n K.1 K.2.1 d_P_push_41 rfl (lv_at hl 0 rfl) ?_
  refine pg_memory K hw d_P_push_42 ?_
  refine lv_aload_n K.1 K.2.1 d_P_push_45 rfl (lv_at hl 0 rfl) ?_
  refine pg_stackPointer (v := ((((z_x_sp σ) + 65535) % 65536) + 65535) % 65536) K hw rfl d_P_push_46 ?_
  have hb6 : ((((z_x_sp σ) + 65535) % 65536) + 65535) % 65536 < 65536 := by omega
  refine lv_iload_n K.1 K.2.1 d_P_push_49 rfl (lv_at hl 1 rfl) ?_
  refine nv_sipush (v := 255) K d_P_push_50 (by decide) ?_
  refine nv_mask (M := 256) K 8 rfl rfl d_P_push_53 ?_
  refine pkv K (c_write (σ := z_s_sp (z_wr (z_s_sp σ (((z_x_sp σ) + 65535) % 65536)) (((z_x_sp σ) + 65535) % 65536) (v / 256)) (((((z_x_sp σ) + 65535) % 65536) + 65535) % 65536)) (x := ((((z_x_sp σ) + 65535) % 65536) + 65535) % 65536) (v := v % 256) l D cI a hO5 (by omega) (by omega)) (cw_P_46 K (Nat.le_of_ble_eq_true rfl) (Nat.le_of_ble_eq_true rfl)) hw (va_recv (ci := 1) (q0 := 1) hw.2.2.2.1 hw.1 rfl rfl) rfl hl.1 rfl (Nat.le_of_ble_eq_true rfl) d_P_push_54 ⟨Nat.zero_le _, Nat.zero_le _⟩ (fun H locs hw => ?_)
  have hO7 : z_Ok (z_wr (z_s_sp (z_wr (z_s_sp σ (((z_x_sp σ) + 65535) % 65536)) (((z_x_sp σ) + 65535) % 65536) (v / 256)) (((((z_x_sp σ) + 65535) % 65536) + 65535) % 65536)) (((((z_x_sp σ) + 65535) % 65536) + 65535) % 65536) (v % 256)) := z_ok_wr hO5 _ (by omega)
  exact prv K hr hlk hw (by first | rfl | (simp [z_pu, z_p1, z_wr]; done) | (simp only [z_pu, z_p1, z_wr]; rfl)) d_P_push_57
set_option maxHeartbeats 4000000 in
set_option maxRecDepth 100000 in
theorem c_pop {σ : z_St} (l : Launch) (D : va_G) (cI : ClassId) (a : pAd) (hO : z_Ok σ) : pCi l y_P_pop w_P_pop 1 21 D cI a [.ref a.1] σ (z_po σ) (nI (z_pv σ)) := by
  refine pci_of (cc := b_P_pop) (maxL := 3) (ret := (some .int)) (by decide) rfl (Nat.le_of_ble_eq_true rfl) ?_
  intro p e s m below meth c ls K hr hlk hl hw
  have K : CallFix p m c b_P_pop 3 s _ (_ :: T0) "PortProcessor" := K
  have hl : lv_has ls 3 [(0, .ref a.1)] := hl
  refine lv_aload_n K.1 K.2.1 d_P_pop_0 rfl (lv_at hl 0 rfl) ?_
  refine pg_memory K hw d_P_pop_1 ?_
  refine lv_aload_n K.1 K.2.1 d_P_pop_4 rfl (lv_at hl 0 rfl) ?_
  refine pg_stackPointer (v := z_x_sp σ) K hw rfl d_P_pop_5 ?_
  have hb1 : z_x_sp σ < 65536 := z_k_sp hO
  refine pki K (c_read (σ := σ) (x := z_x_sp σ) l D cI a hO (by omega)) (cw_P_52 K (Nat.le_of_ble_eq_true rfl) (Nat.le_of_ble_eq_true rfl)) hw (va_recv (ci := 1) (q0 := 1) hw.2.2.2.1 hw.1 rfl rfl) rfl hl.1 rfl (Nat.le_of_ble_eq_true rfl) d_P_pop_8 ⟨Nat.zero_le _, Nat.zero_le _⟩ (fun H locs hw => ?_)
  have hb2 : z_rd σ (z_x_sp σ) < 256 := z_rd_lt hO _
  refine lv_istore_n (lv' := [(1, .int (nI (z_rd σ (z_x_sp σ)))), (0, .ref a.1)]) K.1 K.2.1 d_P_pop_11 rfl hl (by decide) rfl (fun ls hl => ?_)
  refine lv_aload_n K.1 K.2.1 d_P_pop_12 rfl (lv_at hl 1 rfl) ?_
  refine lv_aload_n K.1 K.2.1 d_P_pop_13 rfl (lv_at hl 1 rfl) ?_
  refine pg_stackPointer (v := z_x_sp σ) K hw rfl d_P_pop_14 ?_
  refine nv_iconst (v := 1) K d_P_pop_17 (by decide) ?_
  refine nv_iadd K d_P_pop_18 ?_
  refine nv_ldc (v := 65535) K d_P_pop_19 (K.2.2.2.2 _ (List.mem_cons_of_mem _ m_constant_PortProcessor_56_65535)) ?_
  refine nv_mask (M := 65536) K 16 rfl rfl d_P_pop_21 ?_
  refine pp_stackPointer (v := ((z_x_sp σ) + 1) % 65536) K hw d_P_pop_22 (fun H locs hw => ?_)
  have hO3 : z_Ok (z_s_sp σ (((z_x_sp σ) + 1) % 65536)) := z_ok_sp hO (by omega)
  refine lv_aload_n K.1 K.2.1 d_P_pop_25 rfl (lv_at hl 1 rfl) ?_
  refine pg_memory K hw d_P_pop_26 ?_
  refine lv_aload_n K.1 K.2.1 d_P_pop_29 rfl (lv_at hl 1 rfl) ?_
  refine pg_stackPointer (v := ((z_x_sp σ) + 1) % 65536) K hw rfl d_P_pop_30 ?_
  have hb4 : ((z_x_sp σ) + 1) % 65536 < 65536 := by omega
  refine pki K (c_read (σ := z_s_sp σ (((z_x_sp σ) + 1) % 65536)) (x := ((z_x_sp σ) + 1) % 65536) l D cI a hO3 (by omega)) (cw_P_52 K (Nat.le_of_ble_eq_true rfl) (Nat.le_of_ble_eq_true rfl)) hw (va_recv (ci := 1) (q0 := 1) hw.2.2.2.1 hw.1 rfl rfl) rfl hl.1 rfl (Nat.le_of_ble_eq_true rfl) d_P_pop_33 ⟨Nat.zero_le _, Nat.zero_le _⟩ (fun H locs hw => ?_)
  refine nv_as K (y := nI (z_rd σ (((z_x_sp σ) + 1) % 65536))) rfl ?_
  have hb5 : z_rd σ (((z_x_sp σ) + 1) % 65536) < 256 := z_rd_lt hO3 _
  refine lv_istore_n (lv' := [(2, .int (nI (z_rd σ (((z_x_sp σ) + 1) % 65536)))), (1, .int (nI (z_rd σ (z_x_sp σ)))), (0, .ref a.1)]) K.1 K.2.1 d_P_pop_36 rfl hl (by decide) rfl (fun ls hl => ?_)
  refine lv_aload_n K.1 K.2.1 d_P_pop_37 rfl (lv_at hl 2 rfl) ?_
  refine lv_aload_n K.1 K.2.1 d_P_pop_38 rfl (lv_at hl 2 rfl) ?_
  refine pg_stackPointer (v := ((z_x_sp σ) + 1) % 65536) K hw rfl d_P_pop_39 ?_
  refine nv_iconst (v := 1) K d_P_pop_42 (by decide) ?_
  refine nv_iadd K d_P_pop_43 ?_
  refine nv_ldc (v := 65535) K d_P_pop_44 (K.2.2.2.2 _ (List.mem_cons_of_mem _ m_constant_PortProcessor_56_65535)) ?_
  refine nv_mask (M := 65536) K 16 rfl rfl d_P_pop_46 ?_
  refine pp_stackPointer (v := ((((z_x_sp σ) + 1) % 65536) + 1) % 65536) K hw d_P_pop_47 (fun H locs hw => ?_)
  have hO6 : z_Ok (z_s_sp (z_s_sp σ (((z_x_sp σ) + 1) % 65536)) (((((z_x_sp σ) + 1) % 65536) + 1) % 65536)) := z_ok_sp hO3 (by omega)
  refine lv_iload_n K.1 K.2.1 d_P_pop_50 rfl (lv_at hl 0 rfl) ?_
  refine nv_bipush (v := 8) K d_P_pop_51 (by decide) ?_
  refine nv_ishl (M := 256) K (by omega) rfl (by omega) d_P_pop_53 ?_
  refine lv_iload_n K.1 K.2.1 d_P_pop_54 rfl (lv_at hl 1 rfl) ?_
  refine nv_or256 K (by omega) d_P_pop_55 ?_
  exact pri K hr hlk hw (by unfold z_po; rw [show (z_x_sp σ + 2) % 65536 = ((z_x_sp σ + 1) % 65536 + 1) % 65536 from by omega]; rfl) (by first | rfl | (simp; done) | (congr 1; omega) | (simp; omega)) d_P_pop_56
set_option maxHeartbeats 4000000 in
set_option maxRecDepth 100000 in
theorem c_callTo {σ : z_St} {x : Nat} (l : Launch) (D : va_G) (cI : ClassId) (a : pAd) (hO : z_Ok σ) (hx : x < 65536) : pCv l y_P_callTo w_P_callTo 2 43 D cI a [.ref a.1, .int (nI x)] σ (z_ct σ x) := by
  refine pcv_of (cc := b_P_callTo) (maxL := 2) (ret := none) (by decide) rfl (Nat.le_of_ble_eq_true rfl) ?_
  intro p e s m below meth c ls K hr hlk hl hw
  have K : CallFix p m c b_P_callTo 2 s _ (_ :: T0) "PortProcessor" := K
  have hl : lv_has ls 2 [(0, .ref a.1), (1, .int (nI x))] := hl
  refine lv_aload_n K.1 K.2.1 d_P_callTo_0 rfl (lv_at hl 0 rfl) ?_
  refine lv_aload_n K.1 K.2.1 d_P_callTo_1 rfl (lv_at hl 0 rfl) ?_
  refine pg_programCounter (v := z_x_pc σ) K hw rfl d_P_callTo_2 ?_
  have hb1 : z_x_pc σ < 65536 := z_k_pc hO
  refine pkv K (c_push (σ := σ) (v := z_x_pc σ) l D cI a hO (by omega)) (cw_P_247 K (Nat.le_of_ble_eq_true rfl) (Nat.le_of_ble_eq_true rfl)) hw (va_recv (ci := 0) (q0 := 0) hw.2.2.2.1 hw.1 rfl rfl) rfl hl.1 rfl (Nat.le_of_ble_eq_true rfl) d_P_callTo_5 ⟨Nat.zero_le _, Nat.zero_le _⟩ (fun H locs hw => ?_)
  have hO2 : z_Ok (z_pu σ (z_x_pc σ)) := z_ok_pu hO (by omega)
  refine lv_aload_n K.1 K.2.1 d_P_callTo_8 rfl (lv_at hl 0 rfl) ?_
  refine lv_iload_n K.1 K.2.1 d_P_callTo_9 rfl (lv_at hl 1 rfl) ?_
  refine pp_programCounter (v := x) K hw d_P_callTo_10 (fun H locs hw => ?_)
  have hO3 : z_Ok (z_s_pc (z_pu σ (z_x_pc σ)) x) := z_ok_pc hO2 (by omega)
  exact prv K hr hlk hw (by first | rfl | (simp [z_ct]; done) | (simp only [z_ct]; rfl)) d_P_callTo_13
end
section
theorem ss_mem (τ : z_St) (u v : Nat → Nat) : z_s_mem (z_s_mem τ u) v = z_s_mem τ v := by
  simp only [z_mkS, z_x_mem, z_x_reg, z_x_inn, z_x_put, z_x_sp, z_x_pc, z_x_ha, z_x_it, z_x_la, z_x_wa, z_x_sg, z_x_ze, z_x_au, z_x_pa, z_x_ca, z_x_st, z_x_th, z_s_mem, z_s_reg, z_s_inn, z_s_put, z_s_sp, z_s_pc, z_s_ha, z_s_it, z_s_la, z_s_wa, z_s_sg, z_s_ze, z_s_au, z_s_pa, z_s_ca, z_s_st, z_s_th]
theorem sx_mem (τ : z_St) : z_s_mem τ (z_x_mem τ) = τ := rfl
theorem ss_reg (τ : z_St) (u v : Nat → Nat) : z_s_reg (z_s_reg τ u) v = z_s_reg τ v := by
  simp only [z_mkS, z_x_mem, z_x_reg, z_x_inn, z_x_put, z_x_sp, z_x_pc, z_x_ha, z_x_it, z_x_la, z_x_wa, z_x_sg, z_x_ze, z_x_au, z_x_pa, z_x_ca, z_x_st, z_x_th, z_s_mem, z_s_reg, z_s_inn, z_s_put, z_s_sp, z_s_pc, z_s_ha, z_s_it, z_s_la, z_s_wa, z_s_sg, z_s_ze, z_s_au, z_s_pa, z_s_ca, z_s_st, z_s_th]
theorem sx_reg (τ : z_St) : z_s_reg τ (z_x_reg τ) = τ := rfl
theorem ss_inn (τ : z_St) (u v : Nat → Nat) : z_s_inn (z_s_inn τ u) v = z_s_inn τ v := by
  simp only [z_mkS, z_x_mem, z_x_reg, z_x_inn, z_x_put, z_x_sp, z_x_pc, z_x_ha, z_x_it, z_x_la, z_x_wa, z_x_sg, z_x_ze, z_x_au, z_x_pa, z_x_ca, z_x_st, z_x_th, z_s_mem, z_s_reg, z_s_inn, z_s_put, z_s_sp, z_s_pc, z_s_ha, z_s_it, z_s_la, z_s_wa, z_s_sg, z_s_ze, z_s_au, z_s_pa, z_s_ca, z_s_st, z_s_th]
theorem sx_inn (τ : z_St) : z_s_inn τ (z_x_inn τ) = τ := rfl
theorem ss_put (τ : z_St) (u v : Nat → Nat) : z_s_put (z_s_put τ u) v = z_s_put τ v := by
  simp only [z_mkS, z_x_mem, z_x_reg, z_x_inn, z_x_put, z_x_sp, z_x_pc, z_x_ha, z_x_it, z_x_la, z_x_wa, z_x_sg, z_x_ze, z_x_au, z_x_pa, z_x_ca, z_x_st, z_x_th, z_s_mem, z_s_reg, z_s_inn, z_s_put, z_s_sp, z_s_pc, z_s_ha, z_s_it, z_s_la, z_s_wa, z_s_sg, z_s_ze, z_s_au, z_s_pa, z_s_ca, z_s_st, z_s_th]
theorem sx_put (τ : z_St) : z_s_put τ (z_x_put τ) = τ := rfl
theorem ss_sp (τ : z_St) (u v : Nat) : z_s_sp (z_s_sp τ u) v = z_s_sp τ v := by
  simp only [z_mkS, z_x_mem, z_x_reg, z_x_inn, z_x_put, z_x_sp, z_x_pc, z_x_ha, z_x_it, z_x_la, z_x_wa, z_x_sg, z_x_ze, z_x_au, z_x_pa, z_x_ca, z_x_st, z_x_th, z_s_mem, z_s_reg, z_s_inn, z_s_put, z_s_sp, z_s_pc, z_s_ha, z_s_it, z_s_la, z_s_wa, z_s_sg, z_s_ze, z_s_au, z_s_pa, z_s_ca, z_s_st, z_s_th]
theorem sx_sp (τ : z_St) : z_s_sp τ (z_x_sp τ) = τ := rfl
theorem ss_pc (τ : z_St) (u v : Nat) : z_s_pc (z_s_pc τ u) v = z_s_pc τ v := by
  simp only [z_mkS, z_x_mem, z_x_reg, z_x_inn, z_x_put, z_x_sp, z_x_pc, z_x_ha, z_x_it, z_x_la, z_x_wa, z_x_sg, z_x_ze, z_x_au, z_x_pa, z_x_ca, z_x_st, z_x_th, z_s_mem, z_s_reg, z_s_inn, z_s_put, z_s_sp, z_s_pc, z_s_ha, z_s_it, z_s_la, z_s_wa, z_s_sg, z_s_ze, z_s_au, z_s_pa, z_s_ca, z_s_st, z_s_th]
theorem sx_pc (τ : z_St) : z_s_pc τ (z_x_pc τ) = τ := rfl
theorem ss_ha (τ : z_St) (u v : Nat) : z_s_ha (z_s_ha τ u) v = z_s_ha τ v := by
  simp only [z_mkS, z_x_mem, z_x_reg, z_x_inn, z_x_put, z_x_sp, z_x_pc, z_x_ha, z_x_it, z_x_la, z_x_wa, z_x_sg, z_x_ze, z_x_au, z_x_pa, z_x_ca, z_x_st, z_x_th, z_s_mem, z_s_reg, z_s_inn, z_s_put, z_s_sp, z_s_pc, z_s_ha, z_s_it, z_s_la, z_s_wa, z_s_sg, z_s_ze, z_s_au, z_s_pa, z_s_ca, z_s_st, z_s_th]
theorem sx_ha (τ : z_St) : z_s_ha τ (z_x_ha τ) = τ := rfl
theorem ss_it (τ : z_St) (u v : Nat) : z_s_it (z_s_it τ u) v = z_s_it τ v := by
  simp only [z_mkS, z_x_mem, z_x_reg, z_x_inn, z_x_put, z_x_sp, z_x_pc, z_x_ha, z_x_it, z_x_la, z_x_wa, z_x_sg, z_x_ze, z_x_au, z_x_pa, z_x_ca, z_x_st, z_x_th, z_s_mem, z_s_reg, z_s_inn, z_s_put, z_s_sp, z_s_pc, z_s_ha, z_s_it, z_s_la, z_s_wa, z_s_sg, z_s_ze, z_s_au, z_s_pa, z_s_ca, z_s_st, z_s_th]
theorem sx_it (τ : z_St) : z_s_it τ (z_x_it τ) = τ := rfl
theorem ss_la (τ : z_St) (u v : Nat) : z_s_la (z_s_la τ u) v = z_s_la τ v := by
  simp only [z_mkS, z_x_mem, z_x_reg, z_x_inn, z_x_put, z_x_sp, z_x_pc, z_x_ha, z_x_it, z_x_la, z_x_wa, z_x_sg, z_x_ze, z_x_au, z_x_pa, z_x_ca, z_x_st, z_x_th, z_s_mem, z_s_reg, z_s_inn, z_s_put, z_s_sp, z_s_pc, z_s_ha, z_s_it, z_s_la, z_s_wa, z_s_sg, z_s_ze, z_s_au, z_s_pa, z_s_ca, z_s_st, z_s_th]
theorem sx_la (τ : z_St) : z_s_la τ (z_x_la τ) = τ := rfl
theorem ss_wa (τ : z_St) (u v : Nat) : z_s_wa (z_s_wa τ u) v = z_s_wa τ v := by
  simp only [z_mkS, z_x_mem, z_x_reg, z_x_inn, z_x_put, z_x_sp, z_x_pc, z_x_ha, z_x_it, z_x_la, z_x_wa, z_x_sg, z_x_ze, z_x_au, z_x_pa, z_x_ca, z_x_st, z_x_th, z_s_mem, z_s_reg, z_s_inn, z_s_put, z_s_sp, z_s_pc, z_s_ha, z_s_it, z_s_la, z_s_wa, z_s_sg, z_s_ze, z_s_au, z_s_pa, z_s_ca, z_s_st, z_s_th]
theorem sx_wa (τ : z_St) : z_s_wa τ (z_x_wa τ) = τ := rfl
theorem ss_sg (τ : z_St) (u v : Nat) : z_s_sg (z_s_sg τ u) v = z_s_sg τ v := by
  simp only [z_mkS, z_x_mem, z_x_reg, z_x_inn, z_x_put, z_x_sp, z_x_pc, z_x_ha, z_x_it, z_x_la, z_x_wa, z_x_sg, z_x_ze, z_x_au, z_x_pa, z_x_ca, z_x_st, z_x_th, z_s_mem, z_s_reg, z_s_inn, z_s_put, z_s_sp, z_s_pc, z_s_ha, z_s_it, z_s_la, z_s_wa, z_s_sg, z_s_ze, z_s_au, z_s_pa, z_s_ca, z_s_st, z_s_th]
theorem sx_sg (τ : z_St) : z_s_sg τ (z_x_sg τ) = τ := rfl
theorem ss_ze (τ : z_St) (u v : Nat) : z_s_ze (z_s_ze τ u) v = z_s_ze τ v := by
  simp only [z_mkS, z_x_mem, z_x_reg, z_x_inn, z_x_put, z_x_sp, z_x_pc, z_x_ha, z_x_it, z_x_la, z_x_wa, z_x_sg, z_x_ze, z_x_au, z_x_pa, z_x_ca, z_x_st, z_x_th, z_s_mem, z_s_reg, z_s_inn, z_s_put, z_s_sp, z_s_pc, z_s_ha, z_s_it, z_s_la, z_s_wa, z_s_sg, z_s_ze, z_s_au, z_s_pa, z_s_ca, z_s_st, z_s_th]
theorem sx_ze (τ : z_St) : z_s_ze τ (z_x_ze τ) = τ := rfl
theorem ss_au (τ : z_St) (u v : Nat) : z_s_au (z_s_au τ u) v = z_s_au τ v := by
  simp only [z_mkS, z_x_mem, z_x_reg, z_x_inn, z_x_put, z_x_sp, z_x_pc, z_x_ha, z_x_it, z_x_la, z_x_wa, z_x_sg, z_x_ze, z_x_au, z_x_pa, z_x_ca, z_x_st, z_x_th, z_s_mem, z_s_reg, z_s_inn, z_s_put, z_s_sp, z_s_pc, z_s_ha, z_s_it, z_s_la, z_s_wa, z_s_sg, z_s_ze, z_s_au, z_s_pa, z_s_ca, z_s_st, z_s_th]
theorem sx_au (τ : z_St) : z_s_au τ (z_x_au τ) = τ := rfl
theorem ss_pa (τ : z_St) (u v : Nat) : z_s_pa (z_s_pa τ u) v = z_s_pa τ v := by
  simp only [z_mkS, z_x_mem, z_x_reg, z_x_inn, z_x_put, z_x_sp, z_x_pc, z_x_ha, z_x_it, z_x_la, z_x_wa, z_x_sg, z_x_ze, z_x_au, z_x_pa, z_x_ca, z_x_st, z_x_th, z_s_mem, z_s_reg, z_s_inn, z_s_put, z_s_sp, z_s_pc, z_s_ha, z_s_it, z_s_la, z_s_wa, z_s_sg, z_s_ze, z_s_au, z_s_pa, z_s_ca, z_s_st, z_s_th]
theorem sx_pa (τ : z_St) : z_s_pa τ (z_x_pa τ) = τ := rfl
theorem ss_ca (τ : z_St) (u v : Nat) : z_s_ca (z_s_ca τ u) v = z_s_ca τ v := by
  simp only [z_mkS, z_x_mem, z_x_reg, z_x_inn, z_x_put, z_x_sp, z_x_pc, z_x_ha, z_x_it, z_x_la, z_x_wa, z_x_sg, z_x_ze, z_x_au, z_x_pa, z_x_ca, z_x_st, z_x_th, z_s_mem, z_s_reg, z_s_inn, z_s_put, z_s_sp, z_s_pc, z_s_ha, z_s_it, z_s_la, z_s_wa, z_s_sg, z_s_ze, z_s_au, z_s_pa, z_s_ca, z_s_st, z_s_th]
theorem sx_ca (τ : z_St) : z_s_ca τ (z_x_ca τ) = τ := rfl
theorem ss_st (τ : z_St) (u v : Nat) : z_s_st (z_s_st τ u) v = z_s_st τ v := by
  simp only [z_mkS, z_x_mem, z_x_reg, z_x_inn, z_x_put, z_x_sp, z_x_pc, z_x_ha, z_x_it, z_x_la, z_x_wa, z_x_sg, z_x_ze, z_x_au, z_x_pa, z_x_ca, z_x_st, z_x_th, z_s_mem, z_s_reg, z_s_inn, z_s_put, z_s_sp, z_s_pc, z_s_ha, z_s_it, z_s_la, z_s_wa, z_s_sg, z_s_ze, z_s_au, z_s_pa, z_s_ca, z_s_st, z_s_th]
theorem sx_st (τ : z_St) : z_s_st τ (z_x_st τ) = τ := rfl
theorem ss_th (τ : z_St) (u v : Nat) : z_s_th (z_s_th τ u) v = z_s_th τ v := by
  simp only [z_mkS, z_x_mem, z_x_reg, z_x_inn, z_x_put, z_x_sp, z_x_pc, z_x_ha, z_x_it, z_x_la, z_x_wa, z_x_sg, z_x_ze, z_x_au, z_x_pa, z_x_ca, z_x_st, z_x_th, z_s_mem, z_s_reg, z_s_inn, z_s_put, z_s_sp, z_s_pc, z_s_ha, z_s_it, z_s_la, z_s_wa, z_s_sg, z_s_ze, z_s_au, z_s_pa, z_s_ca, z_s_st, z_s_th]
theorem sx_th (τ : z_St) : z_s_th τ (z_x_th τ) = τ := rfl
theorem nz_c16 {s : Nat} (h : s < 131072) : (if s ≤ 65535 then 0 else 1) = s / 65536 := by
  split <;> omega
end
section
set_option maxHeartbeats 4000000 in
set_option maxRecDepth 100000 in
theorem c_asByte {σ : z_St} (l : Launch) (D : va_G) (cI : ClassId) (a : pAd) (hO : z_Ok σ) : pCi l y_F_asByte w_F_asByte 0 0 D cI a [.ref a.2.2.1] σ σ (nI (z_fb σ)) := by
  refine pci_of (cc := b_F_asByte) (maxL := 1) (ret := (some .int)) (by decide) rfl (Nat.le_of_ble_eq_true rfl) ?_
  intro p e s m below meth c ls K hr hlk hl hw
  have K : CallFix p m c b_F_asByte 1 s _ (_ :: T0) "PortProcessor$Flags" := K
  have hl : lv_has ls 1 [(0, .ref a.2.2.1)] := hl
  refine nv_iconst (v := 2) K d_F_asByte_0 (by decide) ?_
  refine lv_aload_n K.1 K.2.1 d_F_asByte_1 rfl (lv_at hl 0 rfl) ?_
  refine pg_F_sign (v := z_x_sg σ) K hw rfl d_F_asByte_2 ?_
  have hb1 : z_x_sg σ < 2 := z_k_sg hO
  refine nf_if_eq (u := 0) (v := 128) (Y := 15) K (by omega) d_F_asByte_5 rfl (fun _ k => nv_iconst (v := 0) K d_F_asByte_14 (by decide) k) (fun _ k => nv_sipush (v := 128) K d_F_asByte_8 (by decide) (lv_goto K.1 K.2.1 d_F_asByte_11 rfl k)) ?_
  have hb2 : (if (z_x_sg σ) = 0 then 0 else 128) < 129 := z_ite_ltB _ (by omega) (by omega)
  refine nv_ior K d_F_asByte_15 ?_
  refine lv_aload_n K.1 K.2.1 d_F_asByte_16 rfl (lv_at hl 0 rfl) ?_
  refine pg_F_zero (v := z_x_ze σ) K hw rfl d_F_asByte_17 ?_
  have hb3 : z_x_ze σ < 2 := z_k_ze hO
  refine nf_if_eq (u := 0) (v := 64) (Y := 29) K (by omega) d_F_asByte_20 rfl (fun _ k => nv_iconst (v := 0) K d_F_asByte_28 (by decide) k) (fun _ k => nv_bipush (v := 64) K d_F_asByte_23 (by decide) (lv_goto K.1 K.2.1 d_F_asByte_25 rfl k)) ?_
  have hb4 : (if (z_x_ze σ) = 0 then 0 else 64) < 65 := z_ite_ltB _ (by omega) (by omega)
  refine nv_ior K d_F_asByte_29 ?_
  refine lv_aload_n K.1 K.2.1 d_F_asByte_30 rfl (lv_at hl 0 rfl) ?_
  refine pg_F_auxiliary (v := z_x_au σ) K hw rfl d_F_asByte_31 ?_
  have hb5 : z_x_au σ < 2 := z_k_au hO
  refine nf_if_eq (u := 0) (v := 16) (Y := 43) K (by omega) d_F_asByte_34 rfl (fun _ k => nv_iconst (v := 0) K d_F_asByte_42 (by decide) k) (fun _ k => nv_bipush (v := 16) K d_F_asByte_37 (by decide) (lv_goto K.1 K.2.1 d_F_asByte_39 rfl k)) ?_
  have hb6 : (if (z_x_au σ) = 0 then 0 else 16) < 17 := z_ite_ltB _ (by omega) (by omega)
  refine nv_ior K d_F_asByte_43 ?_
  refine lv_aload_n K.1 K.2.1 d_F_asByte_44 rfl (lv_at hl 0 rfl) ?_
  refine pg_F_parity (v := z_x_pa σ) K hw rfl d_F_asByte_45 ?_
  have hb7 : z_x_pa σ < 2 := z_k_pa hO
  refine nf_if_eq (u := 0) (v := 4) (Y := 56) K (by omega) d_F_asByte_48 rfl (fun _ k => nv_iconst (v := 0) K d_F_asByte_55 (by decide) k) (fun _ k => nv_iconst (v := 4) K d_F_asByte_51 (by decide) (lv_goto K.1 K.2.1 d_F_asByte_52 rfl k)) ?_
  have hb8 : (if (z_x_pa σ) = 0 then 0 else 4) < 5 := z_ite_ltB _ (by omega) (by omega)
  refine nv_ior K d_F_asByte_56 ?_
  refine lv_aload_n K.1 K.2.1 d_F_asByte_57 rfl (lv_at hl 0 rfl) ?_
  refine pg_F_carry (v := z_x_ca σ) K hw rfl d_F_asByte_58 ?_
  have hb9 : z_x_ca σ < 2 := z_k_ca hO
  refine nf_if_eq (u := 0) (v := 1) (Y := 69) K (by omega) d_F_asByte_61 rfl (fun _ k => nv_iconst (v := 0) K d_F_asByte_68 (by decide) k) (fun _ k => nv_iconst (v := 1) K d_F_asByte_64 (by decide) (lv_goto K.1 K.2.1 d_F_asByte_65 rfl k)) ?_
  have hb10 : (if (z_x_ca σ) = 0 then 0 else 1) < 2 := z_ite_ltB _ (by omega) (by omega)
  refine nv_ior K d_F_asByte_69 ?_
  exact pri K hr hlk hw (by first | rfl | (simp; done) | (skip; rfl)) (nz_fb hO) d_F_asByte_70
end
section
set_option maxHeartbeats 4000000 in
set_option maxRecDepth 100000 in
theorem c_takeByte {σ : z_St} {v : Nat} (l : Launch) (D : va_G) (cI : ClassId) (a : pAd) (hO : z_Ok σ) (hv : v < 256) : pCv l y_F_takeByte w_F_takeByte 0 0 D cI a [.ref a.2.2.1, .int (nI v)] σ (z_ff σ v) := by
  refine pcv_of (cc := b_F_takeByte) (maxL := 2) (ret := none) (by decide) rfl (Nat.le_of_ble_eq_true rfl) ?_
  intro p e s m below meth c ls K hr hlk hl hw
  have K : CallFix p m c b_F_takeByte 2 s _ (_ :: T0) "PortProcessor$Flags" := K
  have hl : lv_has ls 2 [(0, .ref a.2.2.1), (1, .int (nI v))] := hl
  refine lv_aload_n K.1 K.2.1 d_F_takeByte_0 rfl (lv_at hl 0 rfl) ?_
  refine lv_iload_n K.1 K.2.1 d_F_takeByte_1 rfl (lv_at hl 1 rfl) ?_
  refine nv_sipush (v := 128) K d_F_takeByte_2 (by decide) ?_
  refine nv_iand K d_F_takeByte_5 ?_
  have hb1 : v &&& 128 ≤ 128 := Nat.and_le_right
  refine nf_if_eq (u := 0) (v := 1) (Y := 14) K (by omega) d_F_takeByte_6 rfl (fun _ k => nv_iconst (v := 0) K d_F_takeByte_13 (by decide) k) (fun _ k => nv_iconst (v := 1) K d_F_takeByte_9 (by decide) (lv_goto K.1 K.2.1 d_F_takeByte_10 rfl k)) ?_
  have hb2 : (if (v &&& 128) = 0 then 0 else 1) < 2 := z_ite_ltB _ (by omega) (by omega)
  refine pp_F_sign (v := (if (v &&& 128) = 0 then 0 else 1)) K hw (by omega) d_F_takeByte_14 (fun H locs hw => ?_)
  have hO3 : z_Ok (z_s_sg σ (if (v &&& 128) = 0 then 0 else 1)) := z_ok_sg hO (by omega)
  refine lv_aload_n K.1 K.2.1 d_F_takeByte_17 rfl (lv_at hl 0 rfl) ?_
  refine lv_iload_n K.1 K.2.1 d_F_takeByte_18 rfl (lv_at hl 1 rfl) ?_
  refine nv_bipush (v := 64) K d_F_takeByte_19 (by decide) ?_
  refine nv_iand K d_F_takeByte_21 ?_
  have hb4 : v &&& 64 ≤ 64 := Nat.and_le_right
  refine nf_if_eq (u := 0) (v := 1) (Y := 30) K (by omega) d_F_takeByte_22 rfl (fun _ k => nv_iconst (v := 0) K d_F_takeByte_29 (by decide) k) (fun _ k => nv_iconst (v := 1) K d_F_takeByte_25 (by decide) (lv_goto K.1 K.2.1 d_F_takeByte_26 rfl k)) ?_
  have hb5 : (if (v &&& 64) = 0 then 0 else 1) < 2 := z_ite_ltB _ (by omega) (by omega)
  refine pp_F_zero (v := (if (v &&& 64) = 0 then 0 else 1)) K hw (by omega) d_F_takeByte_30 (fun H locs hw => ?_)
  have hO6 : z_Ok (z_s_ze (z_s_sg σ (if (v &&& 128) = 0 then 0 else 1)) (if (v &&& 64) = 0 then 0 else 1)) := z_ok_ze hO3 (by omega)
  refine lv_aload_n K.1 K.2.1 d_F_takeByte_33 rfl (lv_at hl 0 rfl) ?_
  refine lv_iload_n K.1 K.2.1 d_F_takeByte_34 rfl (lv_at hl 1 rfl) ?_
  refine nv_bipush (v := 16) K d_F_takeByte_35 (by decide) ?_
  refine nv_iand K d_F_takeByte_37 ?_
  have hb7 : v &&& 16 ≤ 16 := Nat.and_le_right
  refine nf_if_eq (u := 0) (v := 1) (Y := 46) K (by omega) d_F_takeByte_38 rfl (fun _ k => nv_iconst (v := 0) K d_F_takeByte_45 (by decide) k) (fun _ k => nv_iconst (v := 1) K d_F_takeByte_41 (by decide) (lv_goto K.1 K.2.1 d_F_takeByte_42 rfl k)) ?_
  have hb8 : (if (v &&& 16) = 0 then 0 else 1) < 2 := z_ite_ltB _ (by omega) (by omega)
  refine pp_F_auxiliary (v := (if (v &&& 16) = 0 then 0 else 1)) K hw (by omega) d_F_takeByte_46 (fun H locs hw => ?_)
  have hO9 : z_Ok (z_s_au (z_s_ze (z_s_sg σ (if (v &&& 128) = 0 then 0 else 1)) (if (v &&& 64) = 0 then 0 else 1)) (if (v &&& 16) = 0 then 0 else 1)) := z_ok_au hO6 (by omega)
  refine lv_aload_n K.1 K.2.1 d_F_takeByte_49 rfl (lv_at hl 0 rfl) ?_
  refine lv_iload_n K.1 K.2.1 d_F_takeByte_50 rfl (lv_at hl 1 rfl) ?_
  refine nv_iconst (v := 4) K d_F_takeByte_51 (by decide) ?_
  refine nv_iand K d_F_takeByte_52 ?_
  have hb10 : v &&& 4 ≤ 4 := Nat.and_le_right
  refine nf_if_eq (u := 0) (v := 1) (Y := 61) K (by omega) d_F_takeByte_53 rfl (fun _ k => nv_iconst (v := 0) K d_F_takeByte_60 (by decide) k) (fun _ k => nv_iconst (v := 1) K d_F_takeByte_56 (by decide) (lv_goto K.1 K.2.1 d_F_takeByte_57 rfl k)) ?_
  have hb11 : (if (v &&& 4) = 0 then 0 else 1) < 2 := z_ite_ltB _ (by omega) (by omega)
  refine pp_F_parity (v := (if (v &&& 4) = 0 then 0 else 1)) K hw (by omega) d_F_takeByte_61 (fun H locs hw => ?_)
  have hO12 : z_Ok (z_s_pa (z_s_au (z_s_ze (z_s_sg σ (if (v &&& 128) = 0 then 0 else 1)) (if (v &&& 64) = 0 then 0 else 1)) (if (v &&& 16) = 0 then 0 else 1)) (if (v &&& 4) = 0 then 0 else 1)) := z_ok_pa hO9 (by omega)
  refine lv_aload_n K.1 K.2.1 d_F_takeByte_64 rfl (lv_at hl 0 rfl) ?_
  refine lv_iload_n K.1 K.2.1 d_F_takeByte_65 rfl (lv_at hl 1 rfl) ?_
  refine nv_iconst (v := 1) K d_F_takeByte_66 (by decide) ?_
  refine nv_mask (M := 2) K 1 rfl rfl d_F_takeByte_67 ?_
  refine nf_if_eq (u := 0) (v := 1) (Y := 76) K (by omega) d_F_takeByte_68 rfl (fun _ k => nv_iconst (v := 0) K d_F_takeByte_75 (by decide) k) (fun _ k => nv_iconst (v := 1) K d_F_takeByte_71 (by decide) (lv_goto K.1 K.2.1 d_F_takeByte_72 rfl k)) ?_
  have hb13 : (if (v % 2) = 0 then 0 else 1) < 2 := z_ite_ltB _ (by omega) (by omega)
  refine pp_F_carry (v := (if (v % 2) = 0 then 0 else 1)) K hw (by omega) d_F_takeByte_76 (fun H locs hw => ?_)
  have hO14 : z_Ok (z_s_ca (z_s_pa (z_s_au (z_s_ze (z_s_sg σ (if (v &&& 128) = 0 then 0 else 1)) (if (v &&& 64) = 0 then 0 else 1)) (if (v &&& 16) = 0 then 0 else 1)) (if (v &&& 4) = 0 then 0 else 1)) (if (v % 2) = 0 then 0 else 1)) := z_ok_ca hO12 (by omega)
  exact prv K hr hlk hw (by rw [nz_b128 _ hv, nz_b64 _ hv, nz_b16 _ hv, nz_b4 _ hv, nz_b1 v]; rfl) d_F_takeByte_79
end
section
set_option maxHeartbeats 4000000 in
set_option maxRecDepth 100000 in
theorem c_carryBit {σ : z_St} (l : Launch) (D : va_G) (cI : ClassId) (a : pAd) (hO : z_Ok σ) : pCi l y_F_carryBit w_F_carryBit 0 0 D cI a [.ref a.2.2.1] σ σ (nI (z_x_ca σ)) := by
  refine pci_of (cc := b_F_carryBit) (maxL := 1) (ret := (some .int)) (by decide) rfl (Nat.le_of_ble_eq_true rfl) ?_
  intro p e s m below meth c ls K hr hlk hl hw
  have K : CallFix p m c b_F_carryBit 1 s _ (_ :: T0) "PortProcessor$Flags" := K
  have hl : lv_has ls 1 [(0, .ref a.2.2.1)] := hl
  refine lv_aload_n K.1 K.2.1 d_F_carryBit_0 rfl (lv_at hl 0 rfl) ?_
  refine pg_F_carry (v := z_x_ca σ) K hw rfl d_F_carryBit_1 ?_
  have hb1 : z_x_ca σ < 2 := z_k_ca hO
  refine nf_if_eq (u := 0) (v := 1) (Y := 12) K (by omega) d_F_carryBit_4 rfl (fun _ k => nv_iconst (v := 0) K d_F_carryBit_11 (by decide) k) (fun _ k => nv_iconst (v := 1) K d_F_carryBit_7 (by decide) (lv_goto K.1 K.2.1 d_F_carryBit_8 rfl k)) ?_
  have hb2 : (if (z_x_ca σ) = 0 then 0 else 1) < 2 := z_ite_ltB _ (by omega) (by omega)
  exact pri K hr hlk hw (by first | rfl | (simp; done) | (skip; rfl)) (congrArg nI (nz_bit (z_k_ca hO))) d_F_carryBit_12
set_option maxHeartbeats 4000000 in
set_option maxRecDepth 100000 in
theorem c_takeCarry {σ : z_St} {v : Nat} (l : Launch) (D : va_G) (cI : ClassId) (a : pAd) (hO : z_Ok σ) (hv : v < 2) : pCv l y_F_takeCarry w_F_takeCarry 0 0 D cI a [.ref a.2.2.1, .int (nI v)] σ (z_s_ca σ v) := by
  refine pcv_of (cc := b_F_takeCarry) (maxL := 2) (ret := none) (by decide) rfl (Nat.le_of_ble_eq_true rfl) ?_
  intro p e s m below meth c ls K hr hlk hl hw
  have K : CallFix p m c b_F_takeCarry 2 s _ (_ :: T0) "PortProcessor$Flags" := K
  have hl : lv_has ls 2 [(0, .ref a.2.2.1), (1, .int (nI v))] := hl
  refine lv_aload_n K.1 K.2.1 d_F_takeCarry_0 rfl (lv_at hl 0 rfl) ?_
  refine lv_iload_n K.1 K.2.1 d_F_takeCarry_1 rfl (lv_at hl 1 rfl) ?_
  refine pp_F_carry (v := v) K hw (by omega) d_F_takeCarry_2 (fun H locs hw => ?_)
  have hO1 : z_Ok (z_s_ca σ v) := z_ok_ca hO (by omega)
  exact prv K hr hlk hw (by first | rfl | (simp; done) | (skip; rfl)) d_F_takeCarry_5
set_option maxHeartbeats 4000000 in
set_option maxRecDepth 100000 in
theorem c_flagOf {σ : z_St} {k : Nat} (l : Launch) (D : va_G) (cI : ClassId) (a : pAd) (hO : z_Ok σ) (hk : k < 4) : pCi l y_F_flagOfCondition w_F_flagOfCondition 0 0 D cI a [.ref a.2.2.1, .int (nI k)] σ σ (nI (z_fo σ k)) := by
  refine pci_of (cc := b_F_flagOfCondition) (maxL := 2) (ret := (some .boolean)) (by decide) rfl (Nat.le_of_ble_eq_true rfl) ?_
  intro p e s m below meth c ls K hr hlk hl hw
  have K : CallFix p m c b_F_flagOfCondition 2 s _ (_ :: T0) "PortProcessor$Flags" := K
  have hl : lv_has ls 2 [(0, .ref a.2.2.1), (1, .int (nI k))] := hl
  refine lv_iload_n K.1 K.2.1 d_F_flagOfCondition_0 rfl (lv_at hl 1 rfl) ?_
  rcases (by omega : k = 0 ∨ k = 1 ∨ k = 2 ∨ k = 3) with h1 | h1 | h1 | h1
  · refine nv_as K (congrArg nI h1) ?_
    refine nv_tabIn (a := 0) (tgt := 28) K d_F_flagOfCondition_1 (by decide) (by decide) (by decide) rfl rfl ?_
    refine lv_aload_n K.1 K.2.1 d_F_flagOfCondition_28 rfl (lv_at hl 0 rfl) ?_
    refine pg_F_zero (v := z_x_ze σ) K hw rfl d_F_flagOfCondition_29 ?_
    have hb2 : z_x_ze σ < 2 := z_k_ze hO
    exact prz K hr hlk hw (by first | rfl | (simp [h1]; done) | (simp only [h1]; rfl)) (by omega) (by rw [h1]; rfl) d_F_flagOfCondition_32
  · refine nv_as K (congrArg nI h1) ?_
    refine nv_tabIn (a := 1) (tgt := 33) K d_F_flagOfCondition_1 (by decide) (by decide) (by decide) rfl rfl ?_
    refine lv_aload_n K.1 K.2.1 d_F_flagOfCondition_33 rfl (lv_at hl 0 rfl) ?_
    refine pg_F_carry (v := z_x_ca σ) K hw rfl d_F_flagOfCondition_34 ?_
    have hb3 : z_x_ca σ < 2 := z_k_ca hO
    exact prz K hr hlk hw (by first | rfl | (simp [h1]; done) | (simp only [h1]; rfl)) (by omega) (by rw [h1]; rfl) d_F_flagOfCondition_37
  · refine nv_as K (congrArg nI h1) ?_
    refine nv_tabIn (a := 2) (tgt := 38) K d_F_flagOfCondition_1 (by decide) (by decide) (by decide) rfl rfl ?_
    refine lv_aload_n K.1 K.2.1 d_F_flagOfCondition_38 rfl (lv_at hl 0 rfl) ?_
    refine pg_F_parity (v := z_x_pa σ) K hw rfl d_F_flagOfCondition_39 ?_
    have hb4 : z_x_pa σ < 2 := z_k_pa hO
    exact prz K hr hlk hw (by first | rfl | (simp [h1]; done) | (simp only [h1]; rfl)) (by omega) (by rw [h1]; rfl) d_F_flagOfCondition_42
  · refine nv_as K (congrArg nI h1) ?_
    refine nv_tabOut (a := 3) (tgt := 43) K d_F_flagOfCondition_1 (by decide) (by decide) rfl ?_
    refine lv_aload_n K.1 K.2.1 d_F_flagOfCondition_43 rfl (lv_at hl 0 rfl) ?_
    refine pg_F_sign (v := z_x_sg σ) K hw rfl d_F_flagOfCondition_44 ?_
    have hb5 : z_x_sg σ < 2 := z_k_sg hO
    exact prz K hr hlk hw (by first | rfl | (simp [h1]; done) | (simp only [h1]; rfl)) (by omega) (by rw [h1]; rfl) d_F_flagOfCondition_47
set_option maxHeartbeats 4000000 in
set_option maxRecDepth 100000 in
theorem c_meet {σ : z_St} {k : Nat} (l : Launch) (D : va_G) (cI : ClassId) (a : pAd) (hO : z_Ok σ) (hk : k < 8) : pCi l y_F_meet w_F_meet 1 21 D cI a [.ref a.2.2.1, .int (nI k)] σ σ (nI (z_hold σ k)) := by
  refine pci_of (cc := b_F_meet) (maxL := 2) (ret := (some .boolean)) (by decide) rfl (Nat.le_of_ble_eq_true rfl) ?_
  intro p e s m below meth c ls K hr hlk hl hw
  have K : CallFix p m c b_F_meet 2 s _ (_ :: T0) "PortProcessor$Flags" := K
  have hl : lv_has ls 2 [(0, .ref a.2.2.1), (1, .int (nI k))] := hl
  refine lv_aload_n K.1 K.2.1 d_F_meet_0 rfl (lv_at hl 0 rfl) ?_
  refine lv_iload_n K.1 K.2.1 d_F_meet_1 rfl (lv_at hl 1 rfl) ?_
  refine nv_iconst (v := 1) K d_F_meet_2 (by decide) ?_
  refine nv_ishr (M := 2) K (by omega) rfl (by omega) d_F_meet_3 ?_
  refine pki K (c_flagOf (σ := σ) (k := k / 2) l D cI a hO (by omega)) (cw_F_27 K (Nat.le_of_ble_eq_true rfl) (Nat.le_of_ble_eq_true rfl)) hw (va_recv (ci := 2) (q0 := 2) hw.2.2.2.1 hw.1 rfl rfl) rfl hl.1 rfl (Nat.le_of_ble_eq_true rfl) d_F_meet_4 ⟨Nat.zero_le _, Nat.zero_le _⟩ (fun H locs hw => ?_)
  have hb1 : z_fo σ (k / 2) < 2 := z_fo_lt hO _
  refine lv_iload_n K.1 K.2.1 d_F_meet_7 rfl (lv_at hl 1 rfl) ?_
  refine nv_iconst (v := 1) K d_F_meet_8 (by decide) ?_
  refine nv_mask (M := 2) K 1 rfl rfl d_F_meet_9 ?_
  refine nv_iconst (v := 1) K d_F_meet_10 (by decide) ?_
  refine nf_icmp_ne (u := 0) (v := 1) (Y := 19) K (by omega) (by omega) d_F_meet_11 rfl (fun _ k => nv_iconst (v := 0) K d_F_meet_18 (by decide) k) (fun _ k => nv_iconst (v := 1) K d_F_meet_14 (by decide) (lv_goto K.1 K.2.1 d_F_meet_15 rfl k)) ?_
  have hb2 : (if (k % 2) = 1 then 1 else 0) < 2 := z_ite_ltB _ (by omega) (by omega)
  refine nf_icmp_ne (u := 0) (v := 1) (Y := 27) K (by omega) (by omega) d_F_meet_19 rfl (fun _ k => nv_iconst (v := 0) K d_F_meet_26 (by decide) k) (fun _ k => nv_iconst (v := 1) K d_F_meet_22 (by decide) (lv_goto K.1 K.2.1 d_F_meet_23 rfl k)) ?_
  have hb3 : (if (z_fo σ (k / 2)) = (if (k % 2) = 1 then 1 else 0) then 1 else 0) < 2 := z_ite_ltB _ (by omega) (by omega)
  exact prz K hr hlk hw (by first | rfl | (simp; done) | (skip; rfl)) (by omega) (by rw [nz_m1]; rfl) d_F_meet_27
end
section
theorem d_I_bitCount_0 : decode b_I_bitCount 0 = .ok (.iload_n 0, 1) := by decide +kernel
theorem d_I_bitCount_1 : decode b_I_bitCount 1 = .ok (.iload_n 0, 1) := by decide +kernel
theorem d_I_bitCount_2 : decode b_I_bitCount 2 = .ok (.iconst 1, 1) := by decide +kernel
theorem d_I_bitCount_3 : decode b_I_bitCount 3 = .ok (.iushr, 1) := by decide +kernel
theorem d_I_bitCount_4 : decode b_I_bitCount 4 = .ok (.ldc_w 265, 3) := by decide +kernel
theorem d_I_bitCount_7 : decode b_I_bitCount 7 = .ok (.iand, 1) := by decide +kernel
theorem d_I_bitCount_8 : decode b_I_bitCount 8 = .ok (.isub, 1) := by decide +kernel
theorem d_I_bitCount_9 : decode b_I_bitCount 9 = .ok (.istore_n 0, 1) := by decide +kernel
theorem d_I_bitCount_10 : decode b_I_bitCount 10 = .ok (.iload_n 0, 1) := by decide +kernel
theorem d_I_bitCount_11 : decode b_I_bitCount 11 = .ok (.ldc_w 266, 3) := by decide +kernel
theorem d_I_bitCount_14 : decode b_I_bitCount 14 = .ok (.iand, 1) := by decide +kernel
theorem d_I_bitCount_15 : decode b_I_bitCount 15 = .ok (.iload_n 0, 1) := by decide +kernel
theorem d_I_bitCount_16 : decode b_I_bitCount 16 = .ok (.iconst 2, 1) := by decide +kernel
theorem d_I_bitCount_17 : decode b_I_bitCount 17 = .ok (.iushr, 1) := by decide +kernel
theorem d_I_bitCount_18 : decode b_I_bitCount 18 = .ok (.ldc_w 266, 3) := by decide +kernel
theorem d_I_bitCount_21 : decode b_I_bitCount 21 = .ok (.iand, 1) := by decide +kernel
theorem d_I_bitCount_22 : decode b_I_bitCount 22 = .ok (.iadd, 1) := by decide +kernel
theorem d_I_bitCount_23 : decode b_I_bitCount 23 = .ok (.istore_n 0, 1) := by decide +kernel
theorem d_I_bitCount_24 : decode b_I_bitCount 24 = .ok (.iload_n 0, 1) := by decide +kernel
theorem d_I_bitCount_25 : decode b_I_bitCount 25 = .ok (.iload_n 0, 1) := by decide +kernel
theorem d_I_bitCount_26 : decode b_I_bitCount 26 = .ok (.iconst 4, 1) := by decide +kernel
theorem d_I_bitCount_27 : decode b_I_bitCount 27 = .ok (.iushr, 1) := by decide +kernel
theorem d_I_bitCount_28 : decode b_I_bitCount 28 = .ok (.iadd, 1) := by decide +kernel
theorem d_I_bitCount_29 : decode b_I_bitCount 29 = .ok (.ldc_w 267, 3) := by decide +kernel
theorem d_I_bitCount_32 : decode b_I_bitCount 32 = .ok (.iand, 1) := by decide +kernel
theorem d_I_bitCount_33 : decode b_I_bitCount 33 = .ok (.istore_n 0, 1) := by decide +kernel
theorem d_I_bitCount_34 : decode b_I_bitCount 34 = .ok (.iload_n 0, 1) := by decide +kernel
theorem d_I_bitCount_35 : decode b_I_bitCount 35 = .ok (.iload_n 0, 1) := by decide +kernel
theorem d_I_bitCount_36 : decode b_I_bitCount 36 = .ok (.bipush 8, 2) := by decide +kernel
theorem d_I_bitCount_38 : decode b_I_bitCount 38 = .ok (.iushr, 1) := by decide +kernel
theorem d_I_bitCount_39 : decode b_I_bitCount 39 = .ok (.iadd, 1) := by decide +kernel
theorem d_I_bitCount_40 : decode b_I_bitCount 40 = .ok (.istore_n 0, 1) := by decide +kernel
theorem d_I_bitCount_41 : decode b_I_bitCount 41 = .ok (.iload_n 0, 1) := by decide +kernel
theorem d_I_bitCount_42 : decode b_I_bitCount 42 = .ok (.iload_n 0, 1) := by decide +kernel
theorem d_I_bitCount_43 : decode b_I_bitCount 43 = .ok (.bipush 16, 2) := by decide +kernel
theorem d_I_bitCount_45 : decode b_I_bitCount 45 = .ok (.iushr, 1) := by decide +kernel
theorem d_I_bitCount_46 : decode b_I_bitCount 46 = .ok (.iadd, 1) := by decide +kernel
theorem d_I_bitCount_47 : decode b_I_bitCount 47 = .ok (.istore_n 0, 1) := by decide +kernel
theorem d_I_bitCount_48 : decode b_I_bitCount 48 = .ok (.iload_n 0, 1) := by decide +kernel
theorem d_I_bitCount_49 : decode b_I_bitCount 49 = .ok (.bipush 63, 2) := by decide +kernel
theorem d_I_bitCount_51 : decode b_I_bitCount 51 = .ok (.iand, 1) := by decide +kernel
theorem d_I_bitCount_52 : decode b_I_bitCount 52 = .ok (.ireturn, 1) := by decide +kernel
def bz1 (x : Int32) : Int32 := x - ((x.toUInt32 >>> ((nI 1).toUInt32 &&& Int32.toUInt32 31)).toInt32 &&& nI 1431655765)
def bz2 (x : Int32) : Int32 := (x &&& nI 858993459) + ((x.toUInt32 >>> ((nI 2).toUInt32 &&& Int32.toUInt32 31)).toInt32 &&& nI 858993459)
def bz3 (x : Int32) : Int32 := (x + (x.toUInt32 >>> ((nI 4).toUInt32 &&& Int32.toUInt32 31)).toInt32) &&& nI 252645135
def bz4 (x : Int32) : Int32 := x + (x.toUInt32 >>> ((nI 8).toUInt32 &&& Int32.toUInt32 31)).toInt32
def bz5 (x : Int32) : Int32 := x + (x.toUInt32 >>> ((nI 16).toUInt32 &&& Int32.toUInt32 31)).toInt32
theorem bz_ok : ∀ v, v < 256 → bz5 (bz4 (bz3 (bz2 (bz1 (nI v))))) &&& nI 63 = nI (z_pc_ v) := by decide +kernel
set_option maxHeartbeats 4000000 in
set_option maxRecDepth 100000 in
theorem c_bitCount {σ : z_St} {v : Nat} (l : Launch) (D : va_G) (cI : ClassId) (a : pAd) (hO : z_Ok σ) (hv : v < 256) : pCi l y_I_bitCount w_I_bitCount 0 0 D cI a [.int (nI v)] σ σ (nI (z_pc_ v)) := by
  refine pci_of (cc := b_I_bitCount) (maxL := 1) (ret := (some .int)) (by decide) rfl (Nat.le_of_ble_eq_true rfl) ?_
  intro p e s m below meth c ls K hr hlk hl hw
  have K : CallFix p m c b_I_bitCount 1 s _ (_ :: T0) "java/lang/Integer" := K
  have hl : lv_has ls 1 [(0, .int (nI v))] := hl
  refine lv_iload_n K.1 K.2.1 d_I_bitCount_0 rfl (lv_at hl 0 rfl) ?_
  refine lv_iload_n K.1 K.2.1 d_I_bitCount_1 rfl (lv_at hl 0 rfl) ?_
  refine nv_iconst (v := 1) K d_I_bitCount_2 (by decide) ?_
  refine lv_iushr K.1 K.2.1 d_I_bitCount_3 rfl ?_
  refine lv_ldcw (v := nI 1431655765) K.1 K.2.1 K.2.2.2.1 (K.2.2.2.2 _ (List.mem_cons_of_mem _ m_constant_java_lang_Integer_265_1431655765)) d_I_bitCount_4 ?_
  refine lv_iand K.1 K.2.1 d_I_bitCount_7 ?_
  refine lv_isub K.1 K.2.1 d_I_bitCount_8 ?_
  refine nv_as K (y := bz1 (nI v)) rfl ?_
  refine lv_istore_n (lv' := [(0, .int (bz1 (nI v)))]) K.1 K.2.1 d_I_bitCount_9 rfl hl (by decide) rfl (fun ls hl => ?_)
  refine lv_iload_n K.1 K.2.1 d_I_bitCount_10 rfl (lv_at hl 0 rfl) ?_
  refine lv_ldcw (v := nI 858993459) K.1 K.2.1 K.2.2.2.1 (K.2.2.2.2 _ (List.mem_cons_of_mem _ m_constant_java_lang_Integer_266_858993459)) d_I_bitCount_11 ?_
  refine lv_iand K.1 K.2.1 d_I_bitCount_14 ?_
  refine lv_iload_n K.1 K.2.1 d_I_bitCount_15 rfl (lv_at hl 0 rfl) ?_
  refine nv_iconst (v := 2) K d_I_bitCount_16 (by decide) ?_
  refine lv_iushr K.1 K.2.1 d_I_bitCount_17 rfl ?_
  refine lv_ldcw (v := nI 858993459) K.1 K.2.1 K.2.2.2.1 (K.2.2.2.2 _ (List.mem_cons_of_mem _ m_constant_java_lang_Integer_266_858993459)) d_I_bitCount_18 ?_
  refine lv_iand K.1 K.2.1 d_I_bitCount_21 ?_
  refine lv_iadd K.1 K.2.1 d_I_bitCount_22 ?_
  refine nv_as K (y := bz2 (bz1 (nI v))) rfl ?_
  refine lv_istore_n (lv' := [(0, .int (bz2 (bz1 (nI v))))]) K.1 K.2.1 d_I_bitCount_23 rfl hl (by decide) rfl (fun ls hl => ?_)
  refine lv_iload_n K.1 K.2.1 d_I_bitCount_24 rfl (lv_at hl 0 rfl) ?_
  refine lv_iload_n K.1 K.2.1 d_I_bitCount_25 rfl (lv_at hl 0 rfl) ?_
  refine nv_iconst (v := 4) K d_I_bitCount_26 (by decide) ?_
  refine lv_iushr K.1 K.2.1 d_I_bitCount_27 rfl ?_
  refine lv_iadd K.1 K.2.1 d_I_bitCount_28 ?_
  refine lv_ldcw (v := nI 252645135) K.1 K.2.1 K.2.2.2.1 (K.2.2.2.2 _ (List.mem_cons_of_mem _ m_constant_java_lang_Integer_267_252645135)) d_I_bitCount_29 ?_
  refine lv_iand K.1 K.2.1 d_I_bitCount_32 ?_
  refine nv_as K (y := bz3 (bz2 (bz1 (nI v)))) rfl ?_
  refine lv_istore_n (lv' := [(0, .int (bz3 (bz2 (bz1 (nI v)))))]) K.1 K.2.1 d_I_bitCount_33 rfl hl (by decide) rfl (fun ls hl => ?_)
  refine lv_iload_n K.1 K.2.1 d_I_bitCount_34 rfl (lv_at hl 0 rfl) ?_
  refine lv_iload_n K.1 K.2.1 d_I_bitCount_35 rfl (lv_at hl 0 rfl) ?_
  refine nv_bipush (v := 8) K d_I_bitCount_36 (by decide) ?_
  refine lv_iushr K.1 K.2.1 d_I_bitCount_38 rfl ?_
  refine lv_iadd K.1 K.2.1 d_I_bitCount_39 ?_
  refine nv_as K (y := bz4 (bz3 (bz2 (bz1 (nI v))))) rfl ?_
  refine lv_istore_n (lv' := [(0, .int (bz4 (bz3 (bz2 (bz1 (nI v))))))]) K.1 K.2.1 d_I_bitCount_40 rfl hl (by decide) rfl (fun ls hl => ?_)
  refine lv_iload_n K.1 K.2.1 d_I_bitCount_41 rfl (lv_at hl 0 rfl) ?_
  refine lv_iload_n K.1 K.2.1 d_I_bitCount_42 rfl (lv_at hl 0 rfl) ?_
  refine nv_bipush (v := 16) K d_I_bitCount_43 (by decide) ?_
  refine lv_iushr K.1 K.2.1 d_I_bitCount_45 rfl ?_
  refine lv_iadd K.1 K.2.1 d_I_bitCount_46 ?_
  refine nv_as K (y := bz5 (bz4 (bz3 (bz2 (bz1 (nI v)))))) rfl ?_
  refine lv_istore_n (lv' := [(0, .int (bz5 (bz4 (bz3 (bz2 (bz1 (nI v)))))))]) K.1 K.2.1 d_I_bitCount_47 rfl hl (by decide) rfl (fun ls hl => ?_)
  refine lv_iload_n K.1 K.2.1 d_I_bitCount_48 rfl (lv_at hl 0 rfl) ?_
  refine nv_bipush (v := 63) K d_I_bitCount_49 (by decide) ?_
  refine lv_iand K.1 K.2.1 d_I_bitCount_51 ?_
  exact pri K hr hlk hw rfl (bz_ok v hv) d_I_bitCount_52

set_option maxHeartbeats 4000000 in
set_option maxRecDepth 100000 in
theorem c_judge {σ : z_St} {v : Nat} (l : Launch) (D : va_G) (cI : ClassId) (a : pAd) (hO : z_Ok σ) (hv : v < 256) : pCv l y_F_judge w_F_judge 1 20 D cI a [.ref a.2.2.1, .int (nI v)] σ (z_jd σ v) := by
  refine pcv_of (cc := b_F_judge) (maxL := 2) (ret := none) (by decide) rfl (Nat.le_of_ble_eq_true rfl) ?_
  intro p e s m below meth c ls K hr hlk hl hw
  have K : CallFix p m c b_F_judge 2 s _ (_ :: T0) "PortProcessor$Flags" := K
  have hl : lv_has ls 2 [(0, .ref a.2.2.1), (1, .int (nI v))] := hl
  refine lv_aload_n K.1 K.2.1 d_F_judge_0 rfl (lv_at hl 0 rfl) ?_
  refine lv_iload_n K.1 K.2.1 d_F_judge_1 rfl (lv_at hl 1 rfl) ?_
  refine nv_sipush (v := 128) K d_F_judge_2 (by decide) ?_
  refine nv_iand K d_F_judge_5 ?_
  have hb1 : v &&& 128 ≤ 128 := Nat.and_le_right
  refine nf_if_eq (u := 0) (v := 1) (Y := 14) K (by omega) d_F_judge_6 rfl (fun _ k => nv_iconst (v := 0) K d_F_judge_13 (by decide) k) (fun _ k => nv_iconst (v := 1) K d_F_judge_9 (by decide) (lv_goto K.1 K.2.1 d_F_judge_10 rfl k)) ?_
  have hb2 : (if (v &&& 128) = 0 then 0 else 1) < 2 := z_ite_ltB _ (by omega) (by omega)
  refine pp_F_sign (v := (if (v &&& 128) = 0 then 0 else 1)) K hw (by omega) d_F_judge_14 (fun H locs hw => ?_)
  have hO3 : z_Ok (z_s_sg σ (if (v &&& 128) = 0 then 0 else 1)) := z_ok_sg hO (by omega)
  refine lv_aload_n K.1 K.2.1 d_F_judge_17 rfl (lv_at hl 0 rfl) ?_
  refine lv_iload_n K.1 K.2.1 d_F_judge_18 rfl (lv_at hl 1 rfl) ?_
  refine nf_if_ne (u := 0) (v := 1) (Y := 27) K (by omega) d_F_judge_19 rfl (fun _ k => nv_iconst (v := 0) K d_F_judge_26 (by decide) k) (fun _ k => nv_iconst (v := 1) K d_F_judge_22 (by decide) (lv_goto K.1 K.2.1 d_F_judge_23 rfl k)) ?_
  have hb4 : (if v = 0 then 1 else 0) < 2 := z_ite_ltB _ (by omega) (by omega)
  refine pp_F_zero (v := (if v = 0 then 1 else 0)) K hw (by omega) d_F_judge_27 (fun H locs hw => ?_)
  have hO5 : z_Ok (z_s_ze (z_s_sg σ (if (v &&& 128) = 0 then 0 else 1)) (if v = 0 then 1 else 0)) := z_ok_ze hO3 (by omega)
  refine lv_aload_n K.1 K.2.1 d_F_judge_30 rfl (lv_at hl 0 rfl) ?_
  refine lv_iload_n K.1 K.2.1 d_F_judge_31 rfl (lv_at hl 1 rfl) ?_
  refine psi K (c_bitCount (σ := z_s_ze (z_s_sg σ (if (v &&& 128) = 0 then 0 else 1)) (if v = 0 then 1 else 0)) (v := v) l D cI a hO5 (by omega)) (cw_F_50 K (Nat.le_of_ble_eq_true rfl) (Nat.le_of_ble_eq_true rfl)) hw rfl hl.1 rfl (Nat.le_of_ble_eq_true rfl) d_F_judge_32 ⟨Nat.zero_le _, Nat.zero_le _⟩ (fun H locs hw => ?_)
  have hb6 : z_pc_ v < 9 := z_pc_lt _
  refine nv_iconst (v := 1) K d_F_judge_35 (by decide) ?_
  refine nv_mask (M := 2) K 1 rfl rfl d_F_judge_36 ?_
  refine nf_if_ne (u := 0) (v := 1) (Y := 45) K (by omega) d_F_judge_37 rfl (fun _ k => nv_iconst (v := 0) K d_F_judge_44 (by decide) k) (fun _ k => nv_iconst (v := 1) K d_F_judge_40 (by decide) (lv_goto K.1 K.2.1 d_F_judge_41 rfl k)) ?_
  have hb7 : (if ((z_pc_ v) % 2) = 0 then 1 else 0) < 2 := z_ite_ltB _ (by omega) (by omega)
  refine pp_F_parity (v := (if ((z_pc_ v) % 2) = 0 then 1 else 0)) K hw (by omega) d_F_judge_45 (fun H locs hw => ?_)
  have hO8 : z_Ok (z_s_pa (z_s_ze (z_s_sg σ (if (v &&& 128) = 0 then 0 else 1)) (if v = 0 then 1 else 0)) (if ((z_pc_ v) % 2) = 0 then 1 else 0)) := z_ok_pa hO5 (by omega)
  exact prv K hr hlk hw (by rw [nz_s128 _ hv, nz_par _ hv]; rfl) d_F_judge_48
end
section
set_option maxHeartbeats 4000000 in
set_option maxRecDepth 100000 in
theorem c_logical {σ : z_St} {x z : Nat} (l : Launch) (D : va_G) (cI : ClassId) (a : pAd) (hO : z_Ok σ) (hx : x < 256) (hz : z < 2) : pCi l y_F_logical w_F_logical 0 0 D cI a [.ref a.2.2.1, .int (nI x), .int (nI z)] σ (z_s_ca (z_s_au σ z) 0) (nI x) := by
  refine pci_of (cc := b_F_logical) (maxL := 3) (ret := (some .int)) (by decide) rfl (Nat.le_of_ble_eq_true rfl) ?_
  intro p e s m below meth c ls K hr hlk hl hw
  have K : CallFix p m c b_F_logical 3 s _ (_ :: T0) "PortProcessor$Flags" := K
  have hl : lv_has ls 3 [(0, .ref a.2.2.1), (1, .int (nI x)), (2, .int (nI z))] := hl
  refine lv_aload_n K.1 K.2.1 d_F_logical_0 rfl (lv_at hl 0 rfl) ?_
  refine lv_iload_n K.1 K.2.1 d_F_logical_1 rfl (lv_at hl 2 rfl) ?_
  refine pp_F_auxiliary (v := z) K hw (by omega) d_F_logical_2 (fun H locs hw => ?_)
  have hO1 : z_Ok (z_s_au σ z) := z_ok_au hO (by omega)
  refine lv_aload_n K.1 K.2.1 d_F_logical_5 rfl (lv_at hl 0 rfl) ?_
  refine nv_iconst (v := 0) K d_F_logical_6 (by decide) ?_
  refine pp_F_carry (v := 0) K hw (by omega) d_F_logical_7 (fun H locs hw => ?_)
  have hO2 : z_Ok (z_s_ca (z_s_au σ z) 0) := z_ok_ca hO1 (by omega)
  refine lv_iload_n K.1 K.2.1 d_F_logical_10 rfl (lv_at hl 1 rfl) ?_
  exact pri K hr hlk hw (by first | rfl | (simp; done) | (skip; rfl)) (by first | rfl | (simp; done) | (congr 1; omega) | (simp; omega)) d_F_logical_11
end
section
set_option maxHeartbeats 4000000 in
set_option maxRecDepth 100000 in
theorem c_sum {σ : z_St} {x y z : Nat} (l : Launch) (D : va_G) (cI : ClassId) (a : pAd) (hO : z_Ok σ) (hx : x < 256) (hy : y < 256) (hz : z < 2) : pCi l y_F_sum w_F_sum 0 0 D cI a [.ref a.2.2.1, .int (nI x), .int (nI y), .int (nI z)] σ (z_s_ca (z_s_au σ (z_g1 x y z)) (z_g2 x y z)) (nI ((x + y + z) % 256)) := by
  refine pci_of (cc := b_F_sum) (maxL := 5) (ret := (some .int)) (by decide) rfl (Nat.le_of_ble_eq_true rfl) ?_
  intro p e s m below meth c ls K hr hlk hl hw
  have K : CallFix p m c b_F_sum 5 s _ (_ :: T0) "PortProcessor$Flags" := K
  have hl : lv_has ls 5 [(0, .ref a.2.2.1), (1, .int (nI x)), (2, .int (nI y)), (3, .int (nI z))] := hl
  refine lv_iload_n K.1 K.2.1 d_F_sum_0 rfl (lv_at hl 1 rfl) ?_
  refine lv_iload_n K.1 K.2.1 d_F_sum_1 rfl (lv_at hl 2 rfl) ?_
  refine nv_iadd K d_F_sum_2 ?_
  refine lv_iload_n K.1 K.2.1 d_F_sum_3 rfl (lv_at hl 3 rfl) ?_
  refine nv_iadd K d_F_sum_4 ?_
  refine lv_istore (lv' := [(4, .int (nI ((x + y) + z))), (0, .ref a.2.2.1), (1, .int (nI x)), (2, .int (nI y)), (3, .int (nI z))]) K.1 K.2.1 d_F_sum_5 hl (by decide) rfl (fun ls hl => ?_)
  refine lv_aload_n K.1 K.2.1 d_F_sum_7 rfl (lv_at hl 1 rfl) ?_
  refine lv_iload_n K.1 K.2.1 d_F_sum_8 rfl (lv_at hl 2 rfl) ?_
  refine nv_bipush (v := 15) K d_F_sum_9 (by decide) ?_
  refine nv_mask (M := 16) K 4 rfl rfl d_F_sum_11 ?_
  refine lv_iload_n K.1 K.2.1 d_F_sum_12 rfl (lv_at hl 3 rfl) ?_
  refine nv_bipush (v := 15) K d_F_sum_13 (by decide) ?_
  refine nv_mask (M := 16) K 4 rfl rfl d_F_sum_15 ?_
  refine nv_iadd K d_F_sum_16 ?_
  refine lv_iload_n K.1 K.2.1 d_F_sum_17 rfl (lv_at hl 4 rfl) ?_
  refine nv_iadd K d_F_sum_18 ?_
  refine nv_bipush (v := 15) K d_F_sum_19 (by decide) ?_
  refine nf_icmp_le (u := 0) (v := 1) (Y := 29) K (by omega) (by omega) d_F_sum_21 rfl (fun _ k => nv_iconst (v := 0) K d_F_sum_28 (by decide) k) (fun _ k => nv_iconst (v := 1) K d_F_sum_24 (by decide) (lv_goto K.1 K.2.1 d_F_sum_25 rfl k)) ?_
  have hb1 : (if (((x % 16) + (y % 16)) + z) ≤ 15 then 0 else 1) < 2 := z_ite_ltB _ (by omega) (by omega)
  refine pp_F_auxiliary (v := (if (((x % 16) + (y % 16)) + z) ≤ 15 then 0 else 1)) K hw (by omega) d_F_sum_29 (fun H locs hw => ?_)
  have hO2 : z_Ok (z_s_au σ (if (((x % 16) + (y % 16)) + z) ≤ 15 then 0 else 1)) := z_ok_au hO (by omega)
  refine lv_aload_n K.1 K.2.1 d_F_sum_32 rfl (lv_at hl 1 rfl) ?_
  refine lv_iload K.1 K.2.1 d_F_sum_33 (lv_at hl 0 rfl) ?_
  refine nv_sipush (v := 255) K d_F_sum_35 (by decide) ?_
  refine nf_icmp_le (u := 0) (v := 1) (Y := 46) K (by omega) (by omega) d_F_sum_38 rfl (fun _ k => nv_iconst (v := 0) K d_F_sum_45 (by decide) k) (fun _ k => nv_iconst (v := 1) K d_F_sum_41 (by decide) (lv_goto K.1 K.2.1 d_F_sum_42 rfl k)) ?_
  have hb3 : (if ((x + y) + z) ≤ 255 then 0 else 1) < 2 := z_ite_ltB _ (by omega) (by omega)
  refine pp_F_carry (v := (if ((x + y) + z) ≤ 255 then 0 else 1)) K hw (by omega) d_F_sum_46 (fun H locs hw => ?_)
  have hO4 : z_Ok (z_s_ca (z_s_au σ (if (((x % 16) + (y % 16)) + z) ≤ 15 then 0 else 1)) (if ((x + y) + z) ≤ 255 then 0 else 1)) := z_ok_ca hO2 (by omega)
  refine lv_iload K.1 K.2.1 d_F_sum_49 (lv_at hl 0 rfl) ?_
  refine nv_sipush (v := 255) K d_F_sum_51 (by decide) ?_
  refine nv_mask (M := 256) K 8 rfl rfl d_F_sum_54 ?_
  exact pri K hr hlk hw (by rw [nz_if, nz_if]; rfl) (by first | rfl | (simp; done) | (congr 1; omega) | (simp; omega)) d_F_sum_55
end
section
set_option maxHeartbeats 4000000 in
set_option maxRecDepth 100000 in
theorem c_difference {σ : z_St} {x y z : Nat} (l : Launch) (D : va_G) (cI : ClassId) (a : pAd) (hO : z_Ok σ) (hx : x < 256) (hy : y < 256) (hz : z < 2) : pCi l y_F_difference w_F_difference 1 24 D cI a [.ref a.2.2.1, .int (nI x), .int (nI y), .int (nI z)] σ (z_s_ca (z_s_au σ (z_g1 x (255 - y) (1 - z))) (1 - z_g2 x (255 - y) (1 - z))) (nI ((x + (255 - y) + (1 - z)) % 256)) := by
  refine pci_of (cc := b_F_difference) (maxL := 5) (ret := (some .int)) (by decide) rfl (Nat.le_of_ble_eq_true rfl) ?_
  intro p e s m below meth c ls K hr hlk hl hw
  have K : CallFix p m c b_F_difference 5 s _ (_ :: T0) "PortProcessor$Flags" := K
  have hl : lv_has ls 5 [(0, .ref a.2.2.1), (1, .int (nI x)), (2, .int (nI y)), (3, .int (nI z))] := hl
  refine lv_aload_n K.1 K.2.1 d_F_difference_0 rfl (lv_at hl 0 rfl) ?_
  refine lv_iload_n K.1 K.2.1 d_F_difference_1 rfl (lv_at hl 1 rfl) ?_
  refine nv_sipush (v := 255) K d_F_difference_2 (by decide) ?_
  refine lv_iload_n K.1 K.2.1 d_F_difference_5 rfl (lv_at hl 2 rfl) ?_
  refine nv_isub K (by omega) d_F_difference_6 ?_
  refine nv_iconst (v := 1) K d_F_difference_7 (by decide) ?_
  refine lv_iload_n K.1 K.2.1 d_F_difference_8 rfl (lv_at hl 3 rfl) ?_
  refine nv_isub K (by omega) d_F_difference_9 ?_
  refine pki K (c_sum (σ := σ) (x := x) (y := 255 - y) (z := 1 - z) l D cI a hO (by omega) (by omega) (by omega)) (cw_F_31 K (Nat.le_of_ble_eq_true rfl) (Nat.le_of_ble_eq_true rfl)) hw (va_recv (ci := 2) (q0 := 2) hw.2.2.2.1 hw.1 rfl rfl) rfl hl.1 rfl (Nat.le_of_ble_eq_true rfl) d_F_difference_10 ⟨Nat.zero_le _, Nat.zero_le _⟩ (fun H locs hw => ?_)
  have hO1 : z_Ok (z_s_ca (z_s_au σ (z_g1 x (255 - y) (1 - z))) (z_g2 x (255 - y) (1 - z))) := z_ok_ca (z_ok_au hO (z_g1_lt _ _ _)) (z_g2_lt _ _ _)
  refine lv_istore (lv' := [(4, .int (nI ((x + (255 - y) + (1 - z)) % 256))), (0, .ref a.2.2.1), (1, .int (nI x)), (2, .int (nI y)), (3, .int (nI z))]) K.1 K.2.1 d_F_difference_13 hl (by decide) rfl (fun ls hl => ?_)
  refine lv_aload_n K.1 K.2.1 d_F_difference_15 rfl (lv_at hl 1 rfl) ?_
  refine lv_aload_n K.1 K.2.1 d_F_difference_16 rfl (lv_at hl 1 rfl) ?_
  refine pg_F_carry (v := z_g2 x (255 - y) (1 - z)) K hw rfl d_F_difference_17 ?_
  have hb2 : z_g2 x (255 - y) (1 - z) < 2 := z_k_ca hO1
  refine nf_if_ne (u := 0) (v := 1) (Y := 28) K (by omega) d_F_difference_20 rfl (fun _ k => nv_iconst (v := 0) K d_F_difference_27 (by decide) k) (fun _ k => nv_iconst (v := 1) K d_F_difference_23 (by decide) (lv_goto K.1 K.2.1 d_F_difference_24 rfl k)) ?_
  have hb3 : (if (z_g2 x (255 - y) (1 - z)) = 0 then 1 else 0) < 2 := z_ite_ltB _ (by omega) (by omega)
  refine pp_F_carry (v := (if (z_g2 x (255 - y) (1 - z)) = 0 then 1 else 0)) K hw (by omega) d_F_difference_28 (fun H locs hw => ?_)
  have hO4 : z_Ok (z_s_ca (z_s_ca (z_s_au σ (z_g1 x (255 - y) (1 - z))) (z_g2 x (255 - y) (1 - z))) (if (z_g2 x (255 - y) (1 - z)) = 0 then 1 else 0)) := z_ok_ca hO1 (by omega)
  refine lv_iload K.1 K.2.1 d_F_difference_31 (lv_at hl 0 rfl) ?_
  exact pri K hr hlk hw (by rw [nz_not (z_g2_lt _ _ _), ss_ca]) (by first | rfl | (simp; done) | (congr 1; omega) | (simp; omega)) d_F_difference_33
end
section
set_option maxHeartbeats 4000000 in
set_option maxRecDepth 100000 in
theorem c_combined {σ : z_St} {k x y : Nat} (l : Launch) (D : va_G) (cI : ClassId) (a : pAd) (hO : z_Ok σ) (hk : k < 8) (hx : x < 256) (hy : y < 256) : pCi l y_F_combined w_F_combined 2 48 D cI a [.ref a.2.2.1, .int (nI k), .int (nI x), .int (nI y)] σ (z_cm σ k x y) (nI (z_cv σ k x y)) := by
  refine pci_of (cc := b_F_combined) (maxL := 5) (ret := (some .int)) (by decide) rfl (Nat.le_of_ble_eq_true rfl) ?_
  intro p e s m below meth c ls K hr hlk hl hw
  have K : CallFix p m c b_F_combined 5 s _ (_ :: T0) "PortProcessor$Flags" := K
  have hl : lv_has ls 5 [(0, .ref a.2.2.1), (1, .int (nI k)), (2, .int (nI x)), (3, .int (nI y))] := hl
  refine lv_iload_n K.1 K.2.1 d_F_combined_0 rfl (lv_at hl 1 rfl) ?_
  rcases (by omega : k = 0 ∨ k = 1 ∨ k = 2 ∨ k = 3 ∨ k = 4 ∨ k = 5 ∨ k = 6 ∨ k = 7) with h1 | h1 | h1 | h1 | h1 | h1 | h1 | h1
  · refine nv_as K (congrArg nI h1) ?_
    refine nv_tabIn (a := 0) (tgt := 44) K d_F_combined_1 (by decide) (by decide) (by decide) rfl rfl ?_
    refine lv_aload_n K.1 K.2.1 d_F_combined_44 rfl (lv_at hl 0 rfl) ?_
    refine lv_iload_n K.1 K.2.1 d_F_combined_45 rfl (lv_at hl 2 rfl) ?_
    refine lv_iload_n K.1 K.2.1 d_F_combined_46 rfl (lv_at hl 3 rfl) ?_
    refine nv_iconst (v := 0) K d_F_combined_47 (by decide) ?_
    refine pki K (c_sum (σ := σ) (x := x) (y := y) (z := 0) l D cI a hO (by omega) (by omega) (by omega)) (cw_F_31 K (Nat.le_of_ble_eq_true rfl) (Nat.le_of_ble_eq_true rfl)) hw (va_recv (ci := 2) (q0 := 2) hw.2.2.2.1 hw.1 rfl rfl) rfl hl.1 rfl (Nat.le_of_ble_eq_true rfl) d_F_combined_48 ⟨Nat.zero_le _, Nat.zero_le _⟩ (fun H locs hw => ?_)
    have hO2 : z_Ok (z_s_ca (z_s_au σ (z_g1 x y 0)) (z_g2 x y 0)) := z_ok_ca (z_ok_au hO (z_g1_lt _ _ _)) (z_g2_lt _ _ _)
    refine lv_istore (lv' := [(4, .int (nI ((x + y + 0) % 256))), (0, .ref a.2.2.1), (1, .int (nI k)), (2, .int (nI x)), (3, .int (nI y))]) K.1 K.2.1 d_F_combined_51 hl (by decide) rfl (fun ls hl => ?_)
    refine lv_goto K.1 K.2.1 d_F_combined_53 rfl ?_
    refine lv_aload_n K.1 K.2.1 d_F_combined_147 rfl (lv_at hl 1 rfl) ?_
    refine lv_iload K.1 K.2.1 d_F_combined_148 (lv_at hl 0 rfl) ?_
    refine pkv K (c_judge (σ := z_s_ca (z_s_au σ (z_g1 x y 0)) (z_g2 x y 0)) (v := (x + y + 0) % 256) l D cI a hO2 (by omega)) (cw_F_46 K (Nat.le_of_ble_eq_true rfl) (Nat.le_of_ble_eq_true rfl)) hw (va_recv (ci := 2) (q0 := 2) hw.2.2.2.1 hw.1 rfl rfl) rfl hl.1 rfl (Nat.le_of_ble_eq_true rfl) d_F_combined_150 ⟨Nat.zero_le _, Nat.zero_le _⟩ (fun H locs hw => ?_)
    have hO3 : z_Ok (z_jd (z_s_ca (z_s_au σ (z_g1 x y 0)) (z_g2 x y 0)) ((x + y + 0) % 256)) := z_ok_jd hO2 (by omega)
    refine lv_iload_n K.1 K.2.1 d_F_combined_153 rfl (lv_at hl 2 rfl) ?_
    refine nv_bipush (v := 7) K d_F_combined_154 (by decide) ?_
    refine nf_icmp_ne (u := (x + y + 0) % 256) (v := x) (Y := 165) K (by omega) (by omega) d_F_combined_156 rfl (fun _ k => lv_iload K.1 K.2.1 d_F_combined_163 (lv_at hl 0 rfl) k) (fun _ k => lv_iload_n K.1 K.2.1 d_F_combined_159 rfl (lv_at hl 3 rfl) (lv_goto K.1 K.2.1 d_F_combined_160 rfl k)) ?_
    exact pri K hr hlk hw (by subst h1; first | rfl | (rw [nz_a8 hx hy]; rfl)) (by subst h1; rfl) d_F_combined_165
  · refine nv_as K (congrArg nI h1) ?_
    refine nv_tabIn (a := 1) (tgt := 56) K d_F_combined_1 (by decide) (by decide) (by decide) rfl rfl ?_
    refine lv_aload_n K.1 K.2.1 d_F_combined_56 rfl (lv_at hl 0 rfl) ?_
    refine lv_iload_n K.1 K.2.1 d_F_combined_57 rfl (lv_at hl 2 rfl) ?_
    refine lv_iload_n K.1 K.2.1 d_F_combined_58 rfl (lv_at hl 3 rfl) ?_
    refine lv_aload_n K.1 K.2.1 d_F_combined_59 rfl (lv_at hl 0 rfl) ?_
    refine pki K (c_carryBit (σ := σ) l D cI a hO) (cw_F_35 K (Nat.le_of_ble_eq_true rfl) (Nat.le_of_ble_eq_true rfl)) hw (va_recv (ci := 2) (q0 := 2) hw.2.2.2.1 hw.1 rfl rfl) rfl hl.1 rfl (Nat.le_of_ble_eq_true rfl) d_F_combined_60 ⟨Nat.zero_le _, Nat.zero_le _⟩ (fun H locs hw => ?_)
    have hb4 : z_x_ca σ < 2 := z_k_ca hO
    refine pki K (c_sum (σ := σ) (x := x) (y := y) (z := z_x_ca σ) l D cI a hO (by omega) (by omega) (by omega)) (cw_F_31 K (Nat.le_of_ble_eq_true rfl) (Nat.le_of_ble_eq_true rfl)) hw (va_recv (ci := 2) (q0 := 2) hw.2.2.2.1 hw.1 rfl rfl) rfl hl.1 rfl (Nat.le_of_ble_eq_true rfl) d_F_combined_63 ⟨Nat.zero_le _, Nat.zero_le _⟩ (fun H locs hw => ?_)
    have hO5 : z_Ok (z_s_ca (z_s_au σ (z_g1 x y (z_x_ca σ))) (z_g2 x y (z_x_ca σ))) := z_ok_ca (z_ok_au hO (z_g1_lt _ _ _)) (z_g2_lt _ _ _)
    refine lv_istore (lv' := [(4, .int (nI ((x + y + (z_x_ca σ)) % 256))), (0, .ref a.2.2.1), (1, .int (nI k)), (2, .int (nI x)), (3, .int (nI y))]) K.1 K.2.1 d_F_combined_66 hl (by decide) rfl (fun ls hl => ?_)
    refine lv_goto K.1 K.2.1 d_F_combined_68 rfl ?_
    refine lv_aload_n K.1 K.2.1 d_F_combined_147 rfl (lv_at hl 1 rfl) ?_
    refine lv_iload K.1 K.2.1 d_F_combined_148 (lv_at hl 0 rfl) ?_
    refine pkv K (c_judge (σ := z_s_ca (z_s_au σ (z_g1 x y (z_x_ca σ))) (z_g2 x y (z_x_ca σ))) (v := (x + y + (z_x_ca σ)) % 256) l D cI a hO5 (by omega)) (cw_F_46 K (Nat.le_of_ble_eq_true rfl) (Nat.le_of_ble_eq_true rfl)) hw (va_recv (ci := 2) (q0 := 2) hw.2.2.2.1 hw.1 rfl rfl) rfl hl.1 rfl (Nat.le_of_ble_eq_true rfl) d_F_combined_150 ⟨Nat.zero_le _, Nat.zero_le _⟩ (fun H locs hw => ?_)
    have hO6 : z_Ok (z_jd (z_s_ca (z_s_au σ (z_g1 x y (z_x_ca σ))) (z_g2 x y (z_x_ca σ))) ((x + y + (z_x_ca σ)) % 256)) := z_ok_jd hO5 (by omega)
    refine lv_iload_n K.1 K.2.1 d_F_combined_153 rfl (lv_at hl 2 rfl) ?_
    refine nv_bipush (v := 7) K d_F_combined_154 (by decide) ?_
    refine nf_icmp_ne (u := (x + y + (z_x_ca σ)) % 256) (v := x) (Y := 165) K (by omega) (by omega) d_F_combined_156 rfl (fun _ k => lv_iload K.1 K.2.1 d_F_combined_163 (lv_at hl 0 rfl) k) (fun _ k => lv_iload_n K.1 K.2.1 d_F_combined_159 rfl (lv_at hl 3 rfl) (lv_goto K.1 K.2.1 d_F_combined_160 rfl k)) ?_
    exact pri K hr hlk hw (by subst h1; first | rfl | (rw [nz_a8 hx hy]; rfl)) (by subst h1; rfl) d_F_combined_165
  · refine nv_as K (congrArg nI h1) ?_
    refine nv_tabIn (a := 2) (tgt := 138) K d_F_combined_1 (by decide) (by decide) (by decide) rfl rfl ?_
    refine lv_aload_n K.1 K.2.1 d_F_combined_138 rfl (lv_at hl 0 rfl) ?_
    refine lv_iload_n K.1 K.2.1 d_F_combined_139 rfl (lv_at hl 2 rfl) ?_
    refine lv_iload_n K.1 K.2.1 d_F_combined_140 rfl (lv_at hl 3 rfl) ?_
    refine nv_iconst (v := 0) K d_F_combined_141 (by decide) ?_
    refine pki K (c_difference (σ := σ) (x := x) (y := y) (z := 0) l D cI a hO (by omega) (by omega) (by omega)) (cw_F_39 K (Nat.le_of_ble_eq_true rfl) (Nat.le_of_ble_eq_true rfl)) hw (va_recv (ci := 2) (q0 := 2) hw.2.2.2.1 hw.1 rfl rfl) rfl hl.1 rfl (Nat.le_of_ble_eq_true rfl) d_F_combined_142 ⟨Nat.zero_le _, Nat.zero_le _⟩ (fun H locs hw => ?_)
    have hO7 : z_Ok (z_s_ca (z_s_au σ (z_g1 x (255 - y) (1 - 0))) (1 - z_g2 x (255 - y) (1 - 0))) := z_ok_ca (z_ok_au hO (z_g1_lt _ _ _)) (by omega)
    refine lv_istore (lv' := [(4, .int (nI ((x + (255 - y) + (1 - 0)) % 256))), (0, .ref a.2.2.1), (1, .int (nI k)), (2, .int (nI x)), (3, .int (nI y))]) K.1 K.2.1 d_F_combined_145 hl (by decide) rfl (fun ls hl => ?_)
    refine lv_aload_n K.1 K.2.1 d_F_combined_147 rfl (lv_at hl 1 rfl) ?_
    refine lv_iload K.1 K.2.1 d_F_combined_148 (lv_at hl 0 rfl) ?_
    refine pkv K (c_judge (σ := z_s_ca (z_s_au σ (z_g1 x (255 - y) (1 - 0))) (1 - z_g2 x (255 - y) (1 - 0))) (v := (x + (255 - y) + (1 - 0)) % 256) l D cI a hO7 (by omega)) (cw_F_46 K (Nat.le_of_ble_eq_true rfl) (Nat.le_of_ble_eq_true rfl)) hw (va_recv (ci := 2) (q0 := 2) hw.2.2.2.1 hw.1 rfl rfl) rfl hl.1 rfl (Nat.le_of_ble_eq_true rfl) d_F_combined_150 ⟨Nat.zero_le _, Nat.zero_le _⟩ (fun H locs hw => ?_)
    have hO8 : z_Ok (z_jd (z_s_ca (z_s_au σ (z_g1 x (255 - y) (1 - 0))) (1 - z_g2 x (255 - y) (1 - 0))) ((x + (255 - y) + (1 - 0)) % 256)) := z_ok_jd hO7 (by omega)
    refine lv_iload_n K.1 K.2.1 d_F_combined_153 rfl (lv_at hl 2 rfl) ?_
    refine nv_bipush (v := 7) K d_F_combined_154 (by decide) ?_
    refine nf_icmp_ne (u := (x + (255 - y) + (1 - 0)) % 256) (v := x) (Y := 165) K (by omega) (by omega) d_F_combined_156 rfl (fun _ k => lv_iload K.1 K.2.1 d_F_combined_163 (lv_at hl 0 rfl) k) (fun _ k => lv_iload_n K.1 K.2.1 d_F_combined_159 rfl (lv_at hl 3 rfl) (lv_goto K.1 K.2.1 d_F_combined_160 rfl k)) ?_
    exact pri K hr hlk hw (by subst h1; first | rfl | (rw [nz_a8 hx hy]; rfl)) (by subst h1; rfl) d_F_combined_165
  · refine nv_as K (congrArg nI h1) ?_
    refine nv_tabIn (a := 3) (tgt := 71) K d_F_combined_1 (by decide) (by decide) (by decide) rfl rfl ?_
    refine lv_aload_n K.1 K.2.1 d_F_combined_71 rfl (lv_at hl 0 rfl) ?_
    refine lv_iload_n K.1 K.2.1 d_F_combined_72 rfl (lv_at hl 2 rfl) ?_
    refine lv_iload_n K.1 K.2.1 d_F_combined_73 rfl (lv_at hl 3 rfl) ?_
    refine lv_aload_n K.1 K.2.1 d_F_combined_74 rfl (lv_at hl 0 rfl) ?_
    refine pki K (c_carryBit (σ := σ) l D cI a hO) (cw_F_35 K (Nat.le_of_ble_eq_true rfl) (Nat.le_of_ble_eq_true rfl)) hw (va_recv (ci := 2) (q0 := 2) hw.2.2.2.1 hw.1 rfl rfl) rfl hl.1 rfl (Nat.le_of_ble_eq_true rfl) d_F_combined_75 ⟨Nat.zero_le _, Nat.zero_le _⟩ (fun H locs hw => ?_)
    have hb9 : z_x_ca σ < 2 := z_k_ca hO
    refine pki K (c_difference (σ := σ) (x := x) (y := y) (z := z_x_ca σ) l D cI a hO (by omega) (by omega) (by omega)) (cw_F_39 K (Nat.le_of_ble_eq_true rfl) (Nat.le_of_ble_eq_true rfl)) hw (va_recv (ci := 2) (q0 := 2) hw.2.2.2.1 hw.1 rfl rfl) rfl hl.1 rfl (Nat.le_of_ble_eq_true rfl) d_F_combined_78 ⟨Nat.zero_le _, Nat.zero_le _⟩ (fun H locs hw => ?_)
    have hO10 : z_Ok (z_s_ca (z_s_au σ (z_g1 x (255 - y) (1 - (z_x_ca σ)))) (1 - z_g2 x (255 - y) (1 - (z_x_ca σ)))) := z_ok_ca (z_ok_au hO (z_g1_lt _ _ _)) (by omega)
    refine lv_istore (lv' := [(4, .int (nI ((x + (255 - y) + (1 - (z_x_ca σ))) % 256))), (0, .ref a.2.2.1), (1, .int (nI k)), (2, .int (nI x)), (3, .int (nI y))]) K.1 K.2.1 d_F_combined_81 hl (by decide) rfl (fun ls hl => ?_)
    refine lv_goto K.1 K.2.1 d_F_combined_83 rfl ?_
    refine lv_aload_n K.1 K.2.1 d_F_combined_147 rfl (lv_at hl 1 rfl) ?_
    refine lv_iload K.1 K.2.1 d_F_combined_148 (lv_at hl 0 rfl) ?_
    refine pkv K (c_judge (σ := z_s_ca (z_s_au σ (z_g1 x (255 - y) (1 - (z_x_ca σ)))) (1 - z_g2 x (255 - y) (1 - (z_x_ca σ)))) (v := (x + (255 - y) + (1 - (z_x_ca σ))) % 256) l D cI a hO10 (by omega)) (cw_F_46 K (Nat.le_of_ble_eq_true rfl) (Nat.le_of_ble_eq_true rfl)) hw (va_recv (ci := 2) (q0 := 2) hw.2.2.2.1 hw.1 rfl rfl) rfl hl.1 rfl (Nat.le_of_ble_eq_true rfl) d_F_combined_150 ⟨Nat.zero_le _, Nat.zero_le _⟩ (fun H locs hw => ?_)
    have hO11 : z_Ok (z_jd (z_s_ca (z_s_au σ (z_g1 x (255 - y) (1 - (z_x_ca σ)))) (1 - z_g2 x (255 - y) (1 - (z_x_ca σ)))) ((x + (255 - y) + (1 - (z_x_ca σ))) % 256)) := z_ok_jd hO10 (by omega)
    refine lv_iload_n K.1 K.2.1 d_F_combined_153 rfl (lv_at hl 2 rfl) ?_
    refine nv_bipush (v := 7) K d_F_combined_154 (by decide) ?_
    refine nf_icmp_ne (u := (x + (255 - y) + (1 - (z_x_ca σ))) % 256) (v := x) (Y := 165) K (by omega) (by omega) d_F_combined_156 rfl (fun _ k => lv_iload K.1 K.2.1 d_F_combined_163 (lv_at hl 0 rfl) k) (fun _ k => lv_iload_n K.1 K.2.1 d_F_combined_159 rfl (lv_at hl 3 rfl) (lv_goto K.1 K.2.1 d_F_combined_160 rfl k)) ?_
    exact pri K hr hlk hw (by subst h1; first | rfl | (rw [nz_a8 hx hy]; rfl)) (by subst h1; rfl) d_F_combined_165
  · refine nv_as K (congrArg nI h1) ?_
    refine nv_tabIn (a := 4) (tgt := 86) K d_F_combined_1 (by decide) (by decide) (by decide) rfl rfl ?_
    refine lv_aload_n K.1 K.2.1 d_F_combined_86 rfl (lv_at hl 0 rfl) ?_
    refine lv_iload_n K.1 K.2.1 d_F_combined_87 rfl (lv_at hl 2 rfl) ?_
    refine lv_iload_n K.1 K.2.1 d_F_combined_88 rfl (lv_at hl 3 rfl) ?_
    refine nv_iand K d_F_combined_89 ?_
    have hb12 : x &&& y ≤ y := Nat.and_le_right
    refine lv_iload_n K.1 K.2.1 d_F_combined_90 rfl (lv_at hl 2 rfl) ?_
    refine lv_iload_n K.1 K.2.1 d_F_combined_91 rfl (lv_at hl 3 rfl) ?_
    refine nv_ior K d_F_combined_92 ?_
    have hb13 : x ||| y < 256 := (z_bit_lt (by omega) (by omega)).2.2
    refine nv_bipush (v := 8) K d_F_combined_93 (by decide) ?_
    refine nv_iand K d_F_combined_95 ?_
    have hb14 : (x ||| y) &&& 8 ≤ 8 := Nat.and_le_right
    refine nf_if_eq (u := 0) (v := 1) (Y := 104) K (by omega) d_F_combined_96 rfl (fun _ k => nv_iconst (v := 0) K d_F_combined_103 (by decide) k) (fun _ k => nv_iconst (v := 1) K d_F_combined_99 (by decide) (lv_goto K.1 K.2.1 d_F_combined_100 rfl k)) ?_
    have hb15 : (if ((x ||| y) &&& 8) = 0 then 0 else 1) < 2 := z_ite_ltB _ (by omega) (by omega)
    refine pki K (c_logical (σ := σ) (x := x &&& y) (z := (if ((x ||| y) &&& 8) = 0 then 0 else 1)) l D cI a hO (by omega) (by omega)) (cw_F_42 K (Nat.le_of_ble_eq_true rfl) (Nat.le_of_ble_eq_true rfl)) hw (va_recv (ci := 2) (q0 := 2) hw.2.2.2.1 hw.1 rfl rfl) rfl hl.1 rfl (Nat.le_of_ble_eq_true rfl) d_F_combined_104 ⟨Nat.zero_le _, Nat.zero_le _⟩ (fun H locs hw => ?_)
    have hO16 : z_Ok (z_s_ca (z_s_au σ (if ((x ||| y) &&& 8) = 0 then 0 else 1)) 0) := z_ok_ca (z_ok_au hO (by omega)) (by omega)
    refine lv_istore (lv' := [(4, .int (nI (x &&& y))), (0, .ref a.2.2.1), (1, .int (nI k)), (2, .int (nI x)), (3, .int (nI y))]) K.1 K.2.1 d_F_combined_107 hl (by decide) rfl (fun ls hl => ?_)
    refine lv_goto K.1 K.2.1 d_F_combined_109 rfl ?_
    refine lv_aload_n K.1 K.2.1 d_F_combined_147 rfl (lv_at hl 1 rfl) ?_
    refine lv_iload K.1 K.2.1 d_F_combined_148 (lv_at hl 0 rfl) ?_
    refine pkv K (c_judge (σ := z_s_ca (z_s_au σ (if ((x ||| y) &&& 8) = 0 then 0 else 1)) 0) (v := (x &&& y)) l D cI a hO16 (by omega)) (cw_F_46 K (Nat.le_of_ble_eq_true rfl) (Nat.le_of_ble_eq_true rfl)) hw (va_recv (ci := 2) (q0 := 2) hw.2.2.2.1 hw.1 rfl rfl) rfl hl.1 rfl (Nat.le_of_ble_eq_true rfl) d_F_combined_150 ⟨Nat.zero_le _, Nat.zero_le _⟩ (fun H locs hw => ?_)
    have hO17 : z_Ok (z_jd (z_s_ca (z_s_au σ (if ((x ||| y) &&& 8) = 0 then 0 else 1)) 0) (x &&& y)) := z_ok_jd hO16 (by omega)
    refine lv_iload_n K.1 K.2.1 d_F_combined_153 rfl (lv_at hl 2 rfl) ?_
    refine nv_bipush (v := 7) K d_F_combined_154 (by decide) ?_
    refine nf_icmp_ne (u := (x &&& y)) (v := x) (Y := 165) K (by omega) (by omega) d_F_combined_156 rfl (fun _ k => lv_iload K.1 K.2.1 d_F_combined_163 (lv_at hl 0 rfl) k) (fun _ k => lv_iload_n K.1 K.2.1 d_F_combined_159 rfl (lv_at hl 3 rfl) (lv_goto K.1 K.2.1 d_F_combined_160 rfl k)) ?_
    exact pri K hr hlk hw (by subst h1; first | rfl | (rw [nz_a8 hx hy]; rfl)) (by subst h1; rfl) d_F_combined_165
  · refine nv_as K (congrArg nI h1) ?_
    refine nv_tabIn (a := 5) (tgt := 112) K d_F_combined_1 (by decide) (by decide) (by decide) rfl rfl ?_
    refine lv_aload_n K.1 K.2.1 d_F_combined_112 rfl (lv_at hl 0 rfl) ?_
    refine lv_iload_n K.1 K.2.1 d_F_combined_113 rfl (lv_at hl 2 rfl) ?_
    refine lv_iload_n K.1 K.2.1 d_F_combined_114 rfl (lv_at hl 3 rfl) ?_
    refine nv_ixor K d_F_combined_115 ?_
    have hb18 : x ^^^ y < 256 := (z_bit_lt (by omega) (by omega)).2.1
    refine nv_iconst (v := 0) K d_F_combined_116 (by decide) ?_
    refine pki K (c_logical (σ := σ) (x := x ^^^ y) (z := 0) l D cI a hO (by omega) (by omega)) (cw_F_42 K (Nat.le_of_ble_eq_true rfl) (Nat.le_of_ble_eq_true rfl)) hw (va_recv (ci := 2) (q0 := 2) hw.2.2.2.1 hw.1 rfl rfl) rfl hl.1 rfl (Nat.le_of_ble_eq_true rfl) d_F_combined_117 ⟨Nat.zero_le _, Nat.zero_le _⟩ (fun H locs hw => ?_)
    have hO19 : z_Ok (z_s_ca (z_s_au σ 0) 0) := z_ok_ca (z_ok_au hO (by omega)) (by omega)
    refine lv_istore (lv' := [(4, .int (nI (x ^^^ y))), (0, .ref a.2.2.1), (1, .int (nI k)), (2, .int (nI x)), (3, .int (nI y))]) K.1 K.2.1 d_F_combined_120 hl (by decide) rfl (fun ls hl => ?_)
    refine lv_goto K.1 K.2.1 d_F_combined_122 rfl ?_
    refine lv_aload_n K.1 K.2.1 d_F_combined_147 rfl (lv_at hl 1 rfl) ?_
    refine lv_iload K.1 K.2.1 d_F_combined_148 (lv_at hl 0 rfl) ?_
    refine pkv K (c_judge (σ := z_s_ca (z_s_au σ 0) 0) (v := (x ^^^ y)) l D cI a hO19 (by omega)) (cw_F_46 K (Nat.le_of_ble_eq_true rfl) (Nat.le_of_ble_eq_true rfl)) hw (va_recv (ci := 2) (q0 := 2) hw.2.2.2.1 hw.1 rfl rfl) rfl hl.1 rfl (Nat.le_of_ble_eq_true rfl) d_F_combined_150 ⟨Nat.zero_le _, Nat.zero_le _⟩ (fun H locs hw => ?_)
    have hO20 : z_Ok (z_jd (z_s_ca (z_s_au σ 0) 0) (x ^^^ y)) := z_ok_jd hO19 (by omega)
    refine lv_iload_n K.1 K.2.1 d_F_combined_153 rfl (lv_at hl 2 rfl) ?_
    refine nv_bipush (v := 7) K d_F_combined_154 (by decide) ?_
    refine nf_icmp_ne (u := (x ^^^ y)) (v := x) (Y := 165) K (by omega) (by omega) d_F_combined_156 rfl (fun _ k => lv_iload K.1 K.2.1 d_F_combined_163 (lv_at hl 0 rfl) k) (fun _ k => lv_iload_n K.1 K.2.1 d_F_combined_159 rfl (lv_at hl 3 rfl) (lv_goto K.1 K.2.1 d_F_combined_160 rfl k)) ?_
    exact pri K hr hlk hw (by subst h1; first | rfl | (rw [nz_a8 hx hy]; rfl)) (by subst h1; rfl) d_F_combined_165
  · refine nv_as K (congrArg nI h1) ?_
    refine nv_tabIn (a := 6) (tgt := 125) K d_F_combined_1 (by decide) (by decide) (by decide) rfl rfl ?_
    refine lv_aload_n K.1 K.2.1 d_F_combined_125 rfl (lv_at hl 0 rfl) ?_
    refine lv_iload_n K.1 K.2.1 d_F_combined_126 rfl (lv_at hl 2 rfl) ?_
    refine lv_iload_n K.1 K.2.1 d_F_combined_127 rfl (lv_at hl 3 rfl) ?_
    refine nv_ior K d_F_combined_128 ?_
    have hb21 : x ||| y < 256 := (z_bit_lt (by omega) (by omega)).2.2
    refine nv_iconst (v := 0) K d_F_combined_129 (by decide) ?_
    refine pki K (c_logical (σ := σ) (x := x ||| y) (z := 0) l D cI a hO (by omega) (by omega)) (cw_F_42 K (Nat.le_of_ble_eq_true rfl) (Nat.le_of_ble_eq_true rfl)) hw (va_recv (ci := 2) (q0 := 2) hw.2.2.2.1 hw.1 rfl rfl) rfl hl.1 rfl (Nat.le_of_ble_eq_true rfl) d_F_combined_130 ⟨Nat.zero_le _, Nat.zero_le _⟩ (fun H locs hw => ?_)
    have hO22 : z_Ok (z_s_ca (z_s_au σ 0) 0) := z_ok_ca (z_ok_au hO (by omega)) (by omega)
    refine lv_istore (lv' := [(4, .int (nI (x ||| y))), (0, .ref a.2.2.1), (1, .int (nI k)), (2, .int (nI x)), (3, .int (nI y))]) K.1 K.2.1 d_F_combined_133 hl (by decide) rfl (fun ls hl => ?_)
    refine lv_goto K.1 K.2.1 d_F_combined_135 rfl ?_
    refine lv_aload_n K.1 K.2.1 d_F_combined_147 rfl (lv_at hl 1 rfl) ?_
    refine lv_iload K.1 K.2.1 d_F_combined_148 (lv_at hl 0 rfl) ?_
    refine pkv K (c_judge (σ := z_s_ca (z_s_au σ 0) 0) (v := (x ||| y)) l D cI a hO22 (by omega)) (cw_F_46 K (Nat.le_of_ble_eq_true rfl) (Nat.le_of_ble_eq_true rfl)) hw (va_recv (ci := 2) (q0 := 2) hw.2.2.2.1 hw.1 rfl rfl) rfl hl.1 rfl (Nat.le_of_ble_eq_true rfl) d_F_combined_150 ⟨Nat.zero_le _, Nat.zero_le _⟩ (fun H locs hw => ?_)
    have hO23 : z_Ok (z_jd (z_s_ca (z_s_au σ 0) 0) (x ||| y)) := z_ok_jd hO22 (by omega)
    refine lv_iload_n K.1 K.2.1 d_F_combined_153 rfl (lv_at hl 2 rfl) ?_
    refine nv_bipush (v := 7) K d_F_combined_154 (by decide) ?_
    refine nf_icmp_ne (u := (x ||| y)) (v := x) (Y := 165) K (by omega) (by omega) d_F_combined_156 rfl (fun _ k => lv_iload K.1 K.2.1 d_F_combined_163 (lv_at hl 0 rfl) k) (fun _ k => lv_iload_n K.1 K.2.1 d_F_combined_159 rfl (lv_at hl 3 rfl) (lv_goto K.1 K.2.1 d_F_combined_160 rfl k)) ?_
    exact pri K hr hlk hw (by subst h1; first | rfl | (rw [nz_a8 hx hy]; rfl)) (by subst h1; rfl) d_F_combined_165
  · refine nv_as K (congrArg nI h1) ?_
    refine nv_tabOut (a := 7) (tgt := 138) K d_F_combined_1 (by decide) (by decide) rfl ?_
    refine lv_aload_n K.1 K.2.1 d_F_combined_138 rfl (lv_at hl 0 rfl) ?_
    refine lv_iload_n K.1 K.2.1 d_F_combined_139 rfl (lv_at hl 2 rfl) ?_
    refine lv_iload_n K.1 K.2.1 d_F_combined_140 rfl (lv_at hl 3 rfl) ?_
    refine nv_iconst (v := 0) K d_F_combined_141 (by decide) ?_
    refine pki K (c_difference (σ := σ) (x := x) (y := y) (z := 0) l D cI a hO (by omega) (by omega) (by omega)) (cw_F_39 K (Nat.le_of_ble_eq_true rfl) (Nat.le_of_ble_eq_true rfl)) hw (va_recv (ci := 2) (q0 := 2) hw.2.2.2.1 hw.1 rfl rfl) rfl hl.1 rfl (Nat.le_of_ble_eq_true rfl) d_F_combined_142 ⟨Nat.zero_le _, Nat.zero_le _⟩ (fun H locs hw => ?_)
    have hO24 : z_Ok (z_s_ca (z_s_au σ (z_g1 x (255 - y) (1 - 0))) (1 - z_g2 x (255 - y) (1 - 0))) := z_ok_ca (z_ok_au hO (z_g1_lt _ _ _)) (by omega)
    refine lv_istore (lv' := [(4, .int (nI ((x + (255 - y) + (1 - 0)) % 256))), (0, .ref a.2.2.1), (1, .int (nI k)), (2, .int (nI x)), (3, .int (nI y))]) K.1 K.2.1 d_F_combined_145 hl (by decide) rfl (fun ls hl => ?_)
    refine lv_aload_n K.1 K.2.1 d_F_combined_147 rfl (lv_at hl 1 rfl) ?_
    refine lv_iload K.1 K.2.1 d_F_combined_148 (lv_at hl 0 rfl) ?_
    refine pkv K (c_judge (σ := z_s_ca (z_s_au σ (z_g1 x (255 - y) (1 - 0))) (1 - z_g2 x (255 - y) (1 - 0))) (v := (x + (255 - y) + (1 - 0)) % 256) l D cI a hO24 (by omega)) (cw_F_46 K (Nat.le_of_ble_eq_true rfl) (Nat.le_of_ble_eq_true rfl)) hw (va_recv (ci := 2) (q0 := 2) hw.2.2.2.1 hw.1 rfl rfl) rfl hl.1 rfl (Nat.le_of_ble_eq_true rfl) d_F_combined_150 ⟨Nat.zero_le _, Nat.zero_le _⟩ (fun H locs hw => ?_)
    have hO25 : z_Ok (z_jd (z_s_ca (z_s_au σ (z_g1 x (255 - y) (1 - 0))) (1 - z_g2 x (255 - y) (1 - 0))) ((x + (255 - y) + (1 - 0)) % 256)) := z_ok_jd hO24 (by omega)
    refine lv_iload_n K.1 K.2.1 d_F_combined_153 rfl (lv_at hl 2 rfl) ?_
    refine nv_bipush (v := 7) K d_F_combined_154 (by decide) ?_
    refine nf_icmp_ne (u := (x + (255 - y) + (1 - 0)) % 256) (v := x) (Y := 165) K (by omega) (by omega) d_F_combined_156 rfl (fun _ k => lv_iload K.1 K.2.1 d_F_combined_163 (lv_at hl 0 rfl) k) (fun _ k => lv_iload_n K.1 K.2.1 d_F_combined_159 rfl (lv_at hl 3 rfl) (lv_goto K.1 K.2.1 d_F_combined_160 rfl k)) ?_
    exact pri K hr hlk hw (by subst h1; first | rfl | (rw [nz_a8 hx hy]; rfl)) (by subst h1; rfl) d_F_combined_165
end
section
set_option maxHeartbeats 4000000 in
set_option maxRecDepth 100000 in
theorem c_raised {σ : z_St} {v : Nat} (l : Launch) (D : va_G) (cI : ClassId) (a : pAd) (hO : z_Ok σ) (hv : v < 256) : pCi l y_F_raised w_F_raised 2 41 D cI a [.ref a.2.2.1, .int (nI v)] σ (z_up σ v) (nI ((v + 1) % 256)) := by
  refine pci_of (cc := b_F_raised) (maxL := 3) (ret := (some .int)) (by decide) rfl (Nat.le_of_ble_eq_true rfl) ?_
  intro p e s m below meth c ls K hr hlk hl hw
  have K : CallFix p m c b_F_raised 3 s _ (_ :: T0) "PortProcessor$Flags" := K
  have hl : lv_has ls 3 [(0, .ref a.2.2.1), (1, .int (nI v))] := hl
  refine lv_iload_n K.1 K.2.1 d_F_raised_0 rfl (lv_at hl 1 rfl) ?_
  refine nv_iconst (v := 1) K d_F_raised_1 (by decide) ?_
  refine nv_iadd K d_F_raised_2 ?_
  refine nv_sipush (v := 255) K d_F_raised_3 (by decide) ?_
  refine nv_mask (M := 256) K 8 rfl rfl d_F_raised_6 ?_
  refine lv_istore_n (lv' := [(2, .int (nI ((v + 1) % 256))), (0, .ref a.2.2.1), (1, .int (nI v))]) K.1 K.2.1 d_F_raised_7 rfl hl (by decide) rfl (fun ls hl => ?_)
  refine lv_aload_n K.1 K.2.1 d_F_raised_8 rfl (lv_at hl 1 rfl) ?_
  refine lv_iload_n K.1 K.2.1 d_F_raised_9 rfl (lv_at hl 0 rfl) ?_
  refine nv_bipush (v := 15) K d_F_raised_10 (by decide) ?_
  refine nv_mask (M := 16) K 4 rfl rfl d_F_raised_12 ?_
  refine nf_if_ne (u := 0) (v := 1) (Y := 21) K (by omega) d_F_raised_13 rfl (fun _ k => nv_iconst (v := 0) K d_F_raised_20 (by decide) k) (fun _ k => nv_iconst (v := 1) K d_F_raised_16 (by decide) (lv_goto K.1 K.2.1 d_F_raised_17 rfl k)) ?_
  have hb1 : (if (((v + 1) % 256) % 16) = 0 then 1 else 0) < 2 := z_ite_ltB _ (by omega) (by omega)
  refine pp_F_auxiliary (v := (if (((v + 1) % 256) % 16) = 0 then 1 else 0)) K hw (by omega) d_F_raised_21 (fun H locs hw => ?_)
  have hO2 : z_Ok (z_s_au σ (if (((v + 1) % 256) % 16) = 0 then 1 else 0)) := z_ok_au hO (by omega)
  refine lv_aload_n K.1 K.2.1 d_F_raised_24 rfl (lv_at hl 1 rfl) ?_
  refine lv_iload_n K.1 K.2.1 d_F_raised_25 rfl (lv_at hl 0 rfl) ?_
  refine pkv K (c_judge (σ := z_s_au σ (if (((v + 1) % 256) % 16) = 0 then 1 else 0)) (v := (v + 1) % 256) l D cI a hO2 (by omega)) (cw_F_46 K (Nat.le_of_ble_eq_true rfl) (Nat.le_of_ble_eq_true rfl)) hw (va_recv (ci := 2) (q0 := 2) hw.2.2.2.1 hw.1 rfl rfl) rfl hl.1 rfl (Nat.le_of_ble_eq_true rfl) d_F_raised_26 ⟨Nat.zero_le _, Nat.zero_le _⟩ (fun H locs hw => ?_)
  have hO3 : z_Ok (z_jd (z_s_au σ (if (((v + 1) % 256) % 16) = 0 then 1 else 0)) ((v + 1) % 256)) := z_ok_jd hO2 (by omega)
  refine lv_iload_n K.1 K.2.1 d_F_raised_29 rfl (lv_at hl 0 rfl) ?_
  exact pri K hr hlk hw (by first | rfl | (simp [z_up]; done) | (simp only [z_up]; rfl)) (by first | rfl | (simp [z_up]; done) | (congr 1; omega) | (simp [z_up]; omega)) d_F_raised_30
set_option maxHeartbeats 4000000 in
set_option maxRecDepth 100000 in
theorem c_lowered {σ : z_St} {v : Nat} (l : Launch) (D : va_G) (cI : ClassId) (a : pAd) (hO : z_Ok σ) (hv : v < 256) : pCi l y_F_lowered w_F_lowered 2 41 D cI a [.ref a.2.2.1, .int (nI v)] σ (z_dn σ v) (nI ((v + 255) % 256)) := by
  refine pci_of (cc := b_F_lowered) (maxL := 3) (ret := (some .int)) (by decide) rfl (Nat.le_of_ble_eq_true rfl) ?_
  intro p e s m below meth c ls K hr hlk hl hw
  have K : CallFix p m c b_F_lowered 3 s _ (_ :: T0) "PortProcessor$Flags" := K
  have hl : lv_has ls 3 [(0, .ref a.2.2.1), (1, .int (nI v))] := hl
  refine lv_iload_n K.1 K.2.1 d_F_lowered_0 rfl (lv_at hl 1 rfl) ?_
  refine nv_iconst (v := 1) K d_F_lowered_1 (by decide) ?_
  refine lv_isub K.1 K.2.1 d_F_lowered_2 ?_
  refine nv_sipush (v := 255) K d_F_lowered_3 (by decide) ?_
  refine lv_iand K.1 K.2.1 d_F_lowered_6 (nv_as K (nz_dec8 (by omega)) ?_)
  refine lv_istore_n (lv' := [(2, .int (nI ((v + 255) % 256))), (0, .ref a.2.2.1), (1, .int (nI v))]) K.1 K.2.1 d_F_lowered_7 rfl hl (by decide) rfl (fun ls hl => ?_)
  refine lv_aload_n K.1 K.2.1 d_F_lowered_8 rfl (lv_at hl 1 rfl) ?_
  refine lv_iload_n K.1 K.2.1 d_F_lowered_9 rfl (lv_at hl 0 rfl) ?_
  refine nv_bipush (v := 15) K d_F_lowered_10 (by decide) ?_
  refine nv_mask (M := 16) K 4 rfl rfl d_F_lowered_12 ?_
  refine nv_bipush (v := 15) K d_F_lowered_13 (by decide) ?_
  refine nf_icmp_eq (u := 0) (v := 1) (Y := 23) K (by omega) (by omega) d_F_lowered_15 rfl (fun _ k => nv_iconst (v := 0) K d_F_lowered_22 (by decide) k) (fun _ k => nv_iconst (v := 1) K d_F_lowered_18 (by decide) (lv_goto K.1 K.2.1 d_F_lowered_19 rfl k)) ?_
  have hb1 : (if (((v + 255) % 256) % 16) = 15 then 0 else 1) < 2 := z_ite_ltB _ (by omega) (by omega)
  refine pp_F_auxiliary (v := (if (((v + 255) % 256) % 16) = 15 then 0 else 1)) K hw (by omega) d_F_lowered_23 (fun H locs hw => ?_)
  have hO2 : z_Ok (z_s_au σ (if (((v + 255) % 256) % 16) = 15 then 0 else 1)) := z_ok_au hO (by omega)
  refine lv_aload_n K.1 K.2.1 d_F_lowered_26 rfl (lv_at hl 1 rfl) ?_
  refine lv_iload_n K.1 K.2.1 d_F_lowered_27 rfl (lv_at hl 0 rfl) ?_
  refine pkv K (c_judge (σ := z_s_au σ (if (((v + 255) % 256) % 16) = 15 then 0 else 1)) (v := (v + 255) % 256) l D cI a hO2 (by omega)) (cw_F_46 K (Nat.le_of_ble_eq_true rfl) (Nat.le_of_ble_eq_true rfl)) hw (va_recv (ci := 2) (q0 := 2) hw.2.2.2.1 hw.1 rfl rfl) rfl hl.1 rfl (Nat.le_of_ble_eq_true rfl) d_F_lowered_28 ⟨Nat.zero_le _, Nat.zero_le _⟩ (fun H locs hw => ?_)
  have hO3 : z_Ok (z_jd (z_s_au σ (if (((v + 255) % 256) % 16) = 15 then 0 else 1)) ((v + 255) % 256)) := z_ok_jd hO2 (by omega)
  refine lv_iload_n K.1 K.2.1 d_F_lowered_31 rfl (lv_at hl 0 rfl) ?_
  exact pri K hr hlk hw (by first | rfl | (simp [z_dn]; done) | (simp only [z_dn]; rfl)) (by first | rfl | (simp [z_dn]; done) | (congr 1; omega) | (simp [z_dn]; omega)) d_F_lowered_32
set_option maxHeartbeats 4000000 in
set_option maxRecDepth 100000 in
theorem c_turnedLeft {σ : z_St} {v z : Nat} (l : Launch) (D : va_G) (cI : ClassId) (a : pAd) (hO : z_Ok σ) (hv : v < 256) (hz : z < 2) : pCi l y_F_turnedLeft w_F_turnedLeft 0 0 D cI a [.ref a.2.2.1, .int (nI v), .int (nI z)] σ (z_s_ca σ (v / 128)) (nI (v % 128 * 2 + z)) := by
  refine pci_of (cc := b_F_turnedLeft) (maxL := 3) (ret := (some .int)) (by decide) rfl (Nat.le_of_ble_eq_true rfl) ?_
  intro p e s m below meth c ls K hr hlk hl hw
  have K : CallFix p m c b_F_turnedLeft 3 s _ (_ :: T0) "PortProcessor$Flags" := K
  have hl : lv_has ls 3 [(0, .ref a.2.2.1), (1, .int (nI v)), (2, .int (nI z))] := hl
  refine lv_aload_n K.1 K.2.1 d_F_turnedLeft_0 rfl (lv_at hl 0 rfl) ?_
  refine lv_iload_n K.1 K.2.1 d_F_turnedLeft_1 rfl (lv_at hl 1 rfl) ?_
  refine nv_sipush (v := 128) K d_F_turnedLeft_2 (by decide) ?_
  refine nv_iand K d_F_turnedLeft_5 ?_
  have hb1 : v &&& 128 ≤ 128 := Nat.and_le_right
  refine nf_if_eq (u := 0) (v := 1) (Y := 14) K (by omega) d_F_turnedLeft_6 rfl (fun _ k => nv_iconst (v := 0) K d_F_turnedLeft_13 (by decide) k) (fun _ k => nv_iconst (v := 1) K d_F_turnedLeft_9 (by decide) (lv_goto K.1 K.2.1 d_F_turnedLeft_10 rfl k)) ?_
  have hb2 : (if (v &&& 128) = 0 then 0 else 1) < 2 := z_ite_ltB _ (by omega) (by omega)
  refine pp_F_carry (v := (if (v &&& 128) = 0 then 0 else 1)) K hw (by omega) d_F_turnedLeft_14 (fun H locs hw => ?_)
  have hO3 : z_Ok (z_s_ca σ (if (v &&& 128) = 0 then 0 else 1)) := z_ok_ca hO (by omega)
  refine lv_iload_n K.1 K.2.1 d_F_turnedLeft_17 rfl (lv_at hl 1 rfl) ?_
  refine nv_iconst (v := 1) K d_F_turnedLeft_18 (by decide) ?_
  refine nv_ishl (M := 2) K (by omega) rfl (by omega) d_F_turnedLeft_19 ?_
  refine lv_iload_n K.1 K.2.1 d_F_turnedLeft_20 rfl (lv_at hl 2 rfl) ?_
  refine nv_ior K d_F_turnedLeft_21 ?_
  refine nv_sipush (v := 255) K d_F_turnedLeft_22 (by decide) ?_
  refine nv_mask (M := 256) K 8 rfl rfl d_F_turnedLeft_25 ?_
  exact pri K hr hlk hw (by rw [nz_s128 _ hv]) (congrArg nI (nz_left _ hv _ hz)) d_F_turnedLeft_26
set_option maxHeartbeats 4000000 in
set_option maxRecDepth 100000 in
theorem c_turnedRight {σ : z_St} {v z : Nat} (l : Launch) (D : va_G) (cI : ClassId) (a : pAd) (hO : z_Ok σ) (hv : v < 256) (hz : z < 2) : pCi l y_F_turnedRight w_F_turnedRight 0 0 D cI a [.ref a.2.2.1, .int (nI v), .int (nI z)] σ (z_s_ca σ (v % 2)) (nI (v / 2 + z * 128)) := by
  refine pci_of (cc := b_F_turnedRight) (maxL := 3) (ret := (some .int)) (by decide) rfl (Nat.le_of_ble_eq_true rfl) ?_
  intro p e s m below meth c ls K hr hlk hl hw
  have K : CallFix p m c b_F_turnedRight 3 s _ (_ :: T0) "PortProcessor$Flags" := K
  have hl : lv_has ls 3 [(0, .ref a.2.2.1), (1, .int (nI v)), (2, .int (nI z))] := hl
  refine lv_aload_n K.1 K.2.1 d_F_turnedRight_0 rfl (lv_at hl 0 rfl) ?_
  refine lv_iload_n K.1 K.2.1 d_F_turnedRight_1 rfl (lv_at hl 1 rfl) ?_
  refine nv_iconst (v := 1) K d_F_turnedRight_2 (by decide) ?_
  refine nv_mask (M := 2) K 1 rfl rfl d_F_turnedRight_3 ?_
  refine nf_if_eq (u := 0) (v := 1) (Y := 12) K (by omega) d_F_turnedRight_4 rfl (fun _ k => nv_iconst (v := 0) K d_F_turnedRight_11 (by decide) k) (fun _ k => nv_iconst (v := 1) K d_F_turnedRight_7 (by decide) (lv_goto K.1 K.2.1 d_F_turnedRight_8 rfl k)) ?_
  have hb1 : (if (v % 2) = 0 then 0 else 1) < 2 := z_ite_ltB _ (by omega) (by omega)
  refine pp_F_carry (v := (if (v % 2) = 0 then 0 else 1)) K hw (by omega) d_F_turnedRight_12 (fun H locs hw => ?_)
  have hO2 : z_Ok (z_s_ca σ (if (v % 2) = 0 then 0 else 1)) := z_ok_ca hO (by omega)
  refine lv_iload_n K.1 K.2.1 d_F_turnedRight_15 rfl (lv_at hl 1 rfl) ?_
  refine nv_iconst (v := 1) K d_F_turnedRight_16 (by decide) ?_
  refine nv_ishr (M := 2) K (by omega) rfl (by omega) d_F_turnedRight_17 ?_
  refine lv_iload_n K.1 K.2.1 d_F_turnedRight_18 rfl (lv_at hl 2 rfl) ?_
  refine nv_bipush (v := 7) K d_F_turnedRight_19 (by decide) ?_
  refine nv_ishl (M := 128) K (by omega) rfl (by omega) d_F_turnedRight_21 ?_
  refine nv_ior K d_F_turnedRight_22 ?_
  exact pri K hr hlk hw (by rw [nz_b1 v]) (congrArg nI (nz_right _ hv _ hz)) d_F_turnedRight_23
end
section
theorem dv_of {σ : z_St} {v R : Nat} (hD : z_d6 σ v = R) (hH : 159 < R ∨ z_x_ca σ = 1) : (R + 96) % 256 = z_dv σ v := by
  unfold z_dv z_dh
  rw [hD, if_pos hH]
theorem dv_of0 {σ : z_St} {v R : Nat} (hD : z_d6 σ v = R) (hH : ¬ (159 < R ∨ z_x_ca σ = 1)) : R % 256 = z_dv σ v := by
  unfold z_dv z_dh
  rw [hD, if_neg hH, Nat.mul_zero, Nat.add_zero]
theorem dd_of {σ : z_St} {v R X : Nat} (hX : X = (if 9 < v % 16 then 1 else 0)) (hD : z_d6 σ v = R) (hH : 159 < R ∨ z_x_ca σ = 1) : z_jd (z_s_ca (z_s_au σ X) 1) ((R + 96) % 256) = z_dd σ v := by
  unfold z_dd
  rw [← dv_of hD hH, hX]
  unfold z_dh
  rw [hD, if_pos hH]
theorem dd_of0 {σ : z_St} {v R X : Nat} (hX : X = (if 9 < v % 16 then 1 else 0)) (hD : z_d6 σ v = R) (hH : ¬ (159 < R ∨ z_x_ca σ = 1)) (hc : z_x_ca σ < 2) : z_jd (z_s_au σ X) (R % 256) = z_dd σ v := by
  have e := sx_ca (z_s_au σ X)
  have e0 : z_x_ca (z_s_au σ X) = 0 := show z_x_ca σ = 0 by omega
  rw [e0] at e
  unfold z_dd
  rw [← dv_of0 hD hH, ← hX]
  unfold z_dh
  rw [hD, if_neg hH, e]
end
section
set_option maxHeartbeats 4000000 in
set_option maxRecDepth 100000 in
theorem c_decimalOf {σ : z_St} {v : Nat} (l : Launch) (D : va_G) (cI : ClassId) (a : pAd) (hO : z_Ok σ) (hv : v < 256) : pCi l y_F_decimalOf w_F_decimalOf 2 41 D cI a [.ref a.2.2.1, .int (nI v)] σ (z_dd σ v) (nI (z_dv σ v)) := by
  refine pci_of (cc := b_F_decimalOf) (maxL := 5) (ret := (some .int)) (by decide) rfl (Nat.le_of_ble_eq_true rfl) ?_
  intro p e s m below meth c ls K hr hlk hl hw
  have K : CallFix p m c b_F_decimalOf 5 s _ (_ :: T0) "PortProcessor$Flags" := K
  have hl : lv_has ls 5 [(0, .ref a.2.2.1), (1, .int (nI v))] := hl
  refine lv_iload_n K.1 K.2.1 d_F_decimalOf_0 rfl (lv_at hl 1 rfl) ?_
  refine nv_bipush (v := 15) K d_F_decimalOf_1 (by decide) ?_
  refine nv_mask (M := 16) K 4 rfl rfl d_F_decimalOf_3 ?_
  refine nv_bipush (v := 9) K d_F_decimalOf_4 (by decide) ?_
  refine nv_icmp_gt K (by omega) (by omega) d_F_decimalOf_6 rfl (fun h1 => ?_) (fun h1 => ?_)
  · refine nv_iconst (v := 1) K d_F_decimalOf_16 (by decide) ?_
    refine lv_goto K.1 K.2.1 d_F_decimalOf_17 rfl ?_
    refine lv_istore_n (lv' := [(2, .int (nI 1)), (0, .ref a.2.2.1), (1, .int (nI v))]) K.1 K.2.1 d_F_decimalOf_21 rfl hl (by decide) rfl (fun ls hl => ?_)
    refine lv_iload_n K.1 K.2.1 d_F_decimalOf_22 rfl (lv_at hl 0 rfl) ?_
    refine nv_if_eq K (by omega) d_F_decimalOf_23 rfl (fun h => (by omega : False).elim) (fun _ => ?_)
    refine lv_iload_n K.1 K.2.1 d_F_decimalOf_26 rfl (lv_at hl 2 rfl) ?_
    refine nv_bipush (v := 6) K d_F_decimalOf_27 (by decide) ?_
    refine nv_iadd K d_F_decimalOf_29 ?_
    refine lv_goto K.1 K.2.1 d_F_decimalOf_30 rfl ?_
    refine lv_istore_n (lv' := [(3, .int (nI (v + 6))), (2, .int (nI 1)), (0, .ref a.2.2.1), (1, .int (nI v))]) K.1 K.2.1 d_F_decimalOf_34 rfl hl (by decide) rfl (fun ls hl => ?_)
    refine lv_aload_n K.1 K.2.1 d_F_decimalOf_35 rfl (lv_at hl 2 rfl) ?_
    refine lv_iload_n K.1 K.2.1 d_F_decimalOf_36 rfl (lv_at hl 1 rfl) ?_
    refine nv_if_eq K (by omega) d_F_decimalOf_37 rfl (fun h => (by omega : False).elim) (fun _ => ?_)
    refine lv_iload_n K.1 K.2.1 d_F_decimalOf_40 rfl (lv_at hl 3 rfl) ?_
    refine nv_bipush (v := 15) K d_F_decimalOf_41 (by decide) ?_
    refine nv_mask (M := 16) K 4 rfl rfl d_F_decimalOf_43 ?_
    refine nv_bipush (v := 6) K d_F_decimalOf_44 (by decide) ?_
    refine nv_iadd K d_F_decimalOf_46 ?_
    refine nv_bipush (v := 15) K d_F_decimalOf_47 (by decide) ?_
    refine nf_icmp_le (u := 0) (v := 1) (Y := 57) K (by omega) (by omega) d_F_decimalOf_49 rfl (fun _ k => nv_iconst (v := 0) K d_F_decimalOf_56 (by decide) k) (fun _ k => nv_iconst (v := 1) K d_F_decimalOf_52 (by decide) (lv_goto K.1 K.2.1 d_F_decimalOf_53 rfl k)) ?_
    have hb2 : (if ((v % 16) + 6) ≤ 15 then 0 else 1) < 2 := z_ite_ltB _ (by omega) (by omega)
    refine pp_F_auxiliary (v := (if ((v % 16) + 6) ≤ 15 then 0 else 1)) K hw (by omega) d_F_decimalOf_57 (fun H locs hw => ?_)
    have hO3 : z_Ok (z_s_au σ (if ((v % 16) + 6) ≤ 15 then 0 else 1)) := z_ok_au hO (by omega)
    refine lv_iload_n K.1 K.2.1 d_F_decimalOf_60 rfl (lv_at hl 0 rfl) ?_
    refine nv_sipush (v := 159) K d_F_decimalOf_61 (by decide) ?_
    refine nv_icmp_gt K (by omega) (by omega) d_F_decimalOf_64 rfl (fun h4 => ?_) (fun h4 => ?_)
    · refine lv_iinc (k := 0) (v := nI ((v + 6) + 96)) (lv' := [(3, .int (nI ((v + 6) + 96))), (2, .int (nI 1)), (0, .ref a.2.2.1), (1, .int (nI v))]) K.1 K.2.1 d_F_decimalOf_74 hl rfl (nI_add _ _) (by decide) rfl (fun ls hl => ?_)
      refine lv_aload_n K.1 K.2.1 d_F_decimalOf_77 rfl (lv_at hl 2 rfl) ?_
      refine nv_iconst (v := 1) K d_F_decimalOf_78 (by decide) ?_
      refine pp_F_carry (v := 1) K hw (by omega) d_F_decimalOf_79 (fun H locs hw => ?_)
      have hO5 : z_Ok (z_s_ca (z_s_au σ (if ((v % 16) + 6) ≤ 15 then 0 else 1)) 1) := z_ok_ca hO3 (by omega)
      refine lv_iload_n K.1 K.2.1 d_F_decimalOf_82 rfl (lv_at hl 0 rfl) ?_
      refine nv_sipush (v := 255) K d_F_decimalOf_83 (by decide) ?_
      refine nv_mask (M := 256) K 8 rfl rfl d_F_decimalOf_86 ?_
      refine lv_istore (lv' := [(4, .int (nI (((v + 6) + 96) % 256))), (3, .int (nI ((v + 6) + 96))), (2, .int (nI 1)), (0, .ref a.2.2.1), (1, .int (nI v))]) K.1 K.2.1 d_F_decimalOf_87 hl (by decide) rfl (fun ls hl => ?_)
      refine lv_aload_n K.1 K.2.1 d_F_decimalOf_89 rfl (lv_at hl 3 rfl) ?_
      refine lv_iload K.1 K.2.1 d_F_decimalOf_90 (lv_at hl 0 rfl) ?_
      refine pkv K (c_judge (σ := z_s_ca (z_s_au σ (if ((v % 16) + 6) ≤ 15 then 0 else 1)) 1) (v := ((v + 6) + 96) % 256) l D cI a hO5 (by omega)) (cw_F_46 K (Nat.le_of_ble_eq_true rfl) (Nat.le_of_ble_eq_true rfl)) hw (va_recv (ci := 2) (q0 := 2) hw.2.2.2.1 hw.1 rfl rfl) rfl hl.1 rfl (Nat.le_of_ble_eq_true rfl) d_F_decimalOf_92 ⟨Nat.zero_le _, Nat.zero_le _⟩ (fun H locs hw => ?_)
      have hO6 : z_Ok (z_jd (z_s_ca (z_s_au σ (if ((v % 16) + 6) ≤ 15 then 0 else 1)) 1) (((v + 6) + 96) % 256)) := z_ok_jd hO5 (by omega)
      refine lv_iload K.1 K.2.1 d_F_decimalOf_95 (lv_at hl 0 rfl) ?_
      exact pri K hr hlk hw (dd_of (by first | (rw [if_pos (by omega)]; done) | (rw [if_neg (by omega)]; done) | (split <;> split <;> omega) | (split <;> omega)) (by unfold z_d6; first | (rw [if_pos (by omega)]; done) | (rw [if_neg (by omega)]; done)) (by omega)) (congrArg nI (dv_of (by unfold z_d6; first | (rw [if_pos (by omega)]; done) | (rw [if_neg (by omega)]; done)) (by omega))) d_F_decimalOf_97
    · refine lv_aload_n K.1 K.2.1 d_F_decimalOf_67 rfl (lv_at hl 2 rfl) ?_
      refine pg_F_carry (v := z_x_ca σ) K hw rfl d_F_decimalOf_68 ?_
      have hb7 : z_x_ca σ < 2 := z_k_ca hO
      refine nv_if_eq K (by omega) d_F_decimalOf_71 rfl (fun h8 => ?_) (fun h8 => ?_)
      · refine lv_iload_n K.1 K.2.1 d_F_decimalOf_82 rfl (lv_at hl 0 rfl) ?_
        refine nv_sipush (v := 255) K d_F_decimalOf_83 (by decide) ?_
        refine nv_mask (M := 256) K 8 rfl rfl d_F_decimalOf_86 ?_
        refine lv_istore (lv' := [(4, .int (nI ((v + 6) % 256))), (3, .int (nI (v + 6))), (2, .int (nI 1)), (0, .ref a.2.2.1), (1, .int (nI v))]) K.1 K.2.1 d_F_decimalOf_87 hl (by decide) rfl (fun ls hl => ?_)
        refine lv_aload_n K.1 K.2.1 d_F_decimalOf_89 rfl (lv_at hl 3 rfl) ?_
        refine lv_iload K.1 K.2.1 d_F_decimalOf_90 (lv_at hl 0 rfl) ?_
        refine pkv K (c_judge (σ := z_s_au σ (if ((v % 16) + 6) ≤ 15 then 0 else 1)) (v := (v + 6) % 256) l D cI a hO3 (by omega)) (cw_F_46 K (Nat.le_of_ble_eq_true rfl) (Nat.le_of_ble_eq_true rfl)) hw (va_recv (ci := 2) (q0 := 2) hw.2.2.2.1 hw.1 rfl rfl) rfl hl.1 rfl (Nat.le_of_ble_eq_true rfl) d_F_decimalOf_92 ⟨Nat.zero_le _, Nat.zero_le _⟩ (fun H locs hw => ?_)
        have hO9 : z_Ok (z_jd (z_s_au σ (if ((v % 16) + 6) ≤ 15 then 0 else 1)) ((v + 6) % 256)) := z_ok_jd hO3 (by omega)
        refine lv_iload K.1 K.2.1 d_F_decimalOf_95 (lv_at hl 0 rfl) ?_
        exact pri K hr hlk hw (dd_of0 (by first | (rw [if_pos (by omega)]; done) | (rw [if_neg (by omega)]; done) | (split <;> split <;> omega) | (split <;> omega)) (by unfold z_d6; first | (rw [if_pos (by omega)]; done) | (rw [if_neg (by omega)]; done)) (by omega) (z_k_ca hO)) (congrArg nI (dv_of0 (by unfold z_d6; first | (rw [if_pos (by omega)]; done) | (rw [if_neg (by omega)]; done)) (by omega))) d_F_decimalOf_97
      · refine lv_iinc (k := 0) (v := nI ((v + 6) + 96)) (lv' := [(3, .int (nI ((v + 6) + 96))), (2, .int (nI 1)), (0, .ref a.2.2.1), (1, .int (nI v))]) K.1 K.2.1 d_F_decimalOf_74 hl rfl (nI_add _ _) (by decide) rfl (fun ls hl => ?_)
        refine lv_aload_n K.1 K.2.1 d_F_decimalOf_77 rfl (lv_at hl 2 rfl) ?_
        refine nv_iconst (v := 1) K d_F_decimalOf_78 (by decide) ?_
        refine pp_F_carry (v := 1) K hw (by omega) d_F_decimalOf_79 (fun H locs hw => ?_)
        have hO10 : z_Ok (z_s_ca (z_s_au σ (if ((v % 16) + 6) ≤ 15 then 0 else 1)) 1) := z_ok_ca hO3 (by omega)
        refine lv_iload_n K.1 K.2.1 d_F_decimalOf_82 rfl (lv_at hl 0 rfl) ?_
        refine nv_sipush (v := 255) K d_F_decimalOf_83 (by decide) ?_
        refine nv_mask (M := 256) K 8 rfl rfl d_F_decimalOf_86 ?_
        refine lv_istore (lv' := [(4, .int (nI (((v + 6) + 96) % 256))), (3, .int (nI ((v + 6) + 96))), (2, .int (nI 1)), (0, .ref a.2.2.1), (1, .int (nI v))]) K.1 K.2.1 d_F_decimalOf_87 hl (by decide) rfl (fun ls hl => ?_)
        refine lv_aload_n K.1 K.2.1 d_F_decimalOf_89 rfl (lv_at hl 3 rfl) ?_
        refine lv_iload K.1 K.2.1 d_F_decimalOf_90 (lv_at hl 0 rfl) ?_
        refine pkv K (c_judge (σ := z_s_ca (z_s_au σ (if ((v % 16) + 6) ≤ 15 then 0 else 1)) 1) (v := ((v + 6) + 96) % 256) l D cI a hO10 (by omega)) (cw_F_46 K (Nat.le_of_ble_eq_true rfl) (Nat.le_of_ble_eq_true rfl)) hw (va_recv (ci := 2) (q0 := 2) hw.2.2.2.1 hw.1 rfl rfl) rfl hl.1 rfl (Nat.le_of_ble_eq_true rfl) d_F_decimalOf_92 ⟨Nat.zero_le _, Nat.zero_le _⟩ (fun H locs hw => ?_)
        have hO11 : z_Ok (z_jd (z_s_ca (z_s_au σ (if ((v % 16) + 6) ≤ 15 then 0 else 1)) 1) (((v + 6) + 96) % 256)) := z_ok_jd hO10 (by omega)
        refine lv_iload K.1 K.2.1 d_F_decimalOf_95 (lv_at hl 0 rfl) ?_
        exact pri K hr hlk hw (dd_of (by first | (rw [if_pos (by omega)]; done) | (rw [if_neg (by omega)]; done) | (split <;> split <;> omega) | (split <;> omega)) (by unfold z_d6; first | (rw [if_pos (by omega)]; done) | (rw [if_neg (by omega)]; done)) (by omega)) (congrArg nI (dv_of (by unfold z_d6; first | (rw [if_pos (by omega)]; done) | (rw [if_neg (by omega)]; done)) (by omega))) d_F_decimalOf_97
  · refine lv_aload_n K.1 K.2.1 d_F_decimalOf_9 rfl (lv_at hl 0 rfl) ?_
    refine pg_F_auxiliary (v := z_x_au σ) K hw rfl d_F_decimalOf_10 ?_
    have hb12 : z_x_au σ < 2 := z_k_au hO
    refine nv_if_eq K (by omega) d_F_decimalOf_13 rfl (fun h13 => ?_) (fun h13 => ?_)
    · refine nv_iconst (v := 0) K d_F_decimalOf_20 (by decide) ?_
      refine lv_istore_n (lv' := [(2, .int (nI 0)), (0, .ref a.2.2.1), (1, .int (nI v))]) K.1 K.2.1 d_F_decimalOf_21 rfl hl (by decide) rfl (fun ls hl => ?_)
      refine lv_iload_n K.1 K.2.1 d_F_decimalOf_22 rfl (lv_at hl 0 rfl) ?_
      refine nv_if_eq K (by omega) d_F_decimalOf_23 rfl (fun _ => ?_) (fun h => (by omega : False).elim)
      refine lv_iload_n K.1 K.2.1 d_F_decimalOf_33 rfl (lv_at hl 2 rfl) ?_
      refine lv_istore_n (lv' := [(3, .int (nI v)), (2, .int (nI 0)), (0, .ref a.2.2.1), (1, .int (nI v))]) K.1 K.2.1 d_F_decimalOf_34 rfl hl (by decide) rfl (fun ls hl => ?_)
      refine lv_aload_n K.1 K.2.1 d_F_decimalOf_35 rfl (lv_at hl 2 rfl) ?_
      refine lv_iload_n K.1 K.2.1 d_F_decimalOf_36 rfl (lv_at hl 1 rfl) ?_
      refine nv_if_eq K (by omega) d_F_decimalOf_37 rfl (fun _ => ?_) (fun h => (by omega : False).elim)
      refine nv_iconst (v := 0) K d_F_decimalOf_56 (by decide) ?_
      refine pp_F_auxiliary (v := 0) K hw (by omega) d_F_decimalOf_57 (fun H locs hw => ?_)
      have hO14 : z_Ok (z_s_au σ 0) := z_ok_au hO (by omega)
      refine lv_iload_n K.1 K.2.1 d_F_decimalOf_60 rfl (lv_at hl 0 rfl) ?_
      refine nv_sipush (v := 159) K d_F_decimalOf_61 (by decide) ?_
      refine nv_icmp_gt K (by omega) (by omega) d_F_decimalOf_64 rfl (fun h15 => ?_) (fun h15 => ?_)
      · refine lv_iinc (k := 0) (v := nI (v + 96)) (lv' := [(3, .int (nI (v + 96))), (2, .int (nI 0)), (0, .ref a.2.2.1), (1, .int (nI v))]) K.1 K.2.1 d_F_decimalOf_74 hl rfl (nI_add _ _) (by decide) rfl (fun ls hl => ?_)
        refine lv_aload_n K.1 K.2.1 d_F_decimalOf_77 rfl (lv_at hl 2 rfl) ?_
        refine nv_iconst (v := 1) K d_F_decimalOf_78 (by decide) ?_
        refine pp_F_carry (v := 1) K hw (by omega) d_F_decimalOf_79 (fun H locs hw => ?_)
        have hO16 : z_Ok (z_s_ca (z_s_au σ 0) 1) := z_ok_ca hO14 (by omega)
        refine lv_iload_n K.1 K.2.1 d_F_decimalOf_82 rfl (lv_at hl 0 rfl) ?_
        refine nv_sipush (v := 255) K d_F_decimalOf_83 (by decide) ?_
        refine nv_mask (M := 256) K 8 rfl rfl d_F_decimalOf_86 ?_
        refine lv_istore (lv' := [(4, .int (nI ((v + 96) % 256))), (3, .int (nI (v + 96))), (2, .int (nI 0)), (0, .ref a.2.2.1), (1, .int (nI v))]) K.1 K.2.1 d_F_decimalOf_87 hl (by decide) rfl (fun ls hl => ?_)
        refine lv_aload_n K.1 K.2.1 d_F_decimalOf_89 rfl (lv_at hl 3 rfl) ?_
        refine lv_iload K.1 K.2.1 d_F_decimalOf_90 (lv_at hl 0 rfl) ?_
        refine pkv K (c_judge (σ := z_s_ca (z_s_au σ 0) 1) (v := (v + 96) % 256) l D cI a hO16 (by omega)) (cw_F_46 K (Nat.le_of_ble_eq_true rfl) (Nat.le_of_ble_eq_true rfl)) hw (va_recv (ci := 2) (q0 := 2) hw.2.2.2.1 hw.1 rfl rfl) rfl hl.1 rfl (Nat.le_of_ble_eq_true rfl) d_F_decimalOf_92 ⟨Nat.zero_le _, Nat.zero_le _⟩ (fun H locs hw => ?_)
        have hO17 : z_Ok (z_jd (z_s_ca (z_s_au σ 0) 1) ((v + 96) % 256)) := z_ok_jd hO16 (by omega)
        refine lv_iload K.1 K.2.1 d_F_decimalOf_95 (lv_at hl 0 rfl) ?_
        exact pri K hr hlk hw (dd_of (by first | (rw [if_pos (by omega)]; done) | (rw [if_neg (by omega)]; done) | (split <;> split <;> omega) | (split <;> omega)) (by unfold z_d6; first | (rw [if_pos (by omega)]; done) | (rw [if_neg (by omega)]; done)) (by omega)) (congrArg nI (dv_of (by unfold z_d6; first | (rw [if_pos (by omega)]; done) | (rw [if_neg (by omega)]; done)) (by omega))) d_F_decimalOf_97
      · refine lv_aload_n K.1 K.2.1 d_F_decimalOf_67 rfl (lv_at hl 2 rfl) ?_
        refine pg_F_carry (v := z_x_ca σ) K hw rfl d_F_decimalOf_68 ?_
        have hb18 : z_x_ca σ < 2 := z_k_ca hO
        refine nv_if_eq K (by omega) d_F_decimalOf_71 rfl (fun h19 => ?_) (fun h19 => ?_)
        · refine lv_iload_n K.1 K.2.1 d_F_decimalOf_82 rfl (lv_at hl 0 rfl) ?_
          refine nv_sipush (v := 255) K d_F_decimalOf_83 (by decide) ?_
          refine nv_mask (M := 256) K 8 rfl rfl d_F_decimalOf_86 ?_
          refine lv_istore (lv' := [(4, .int (nI (v % 256))), (3, .int (nI v)), (2, .int (nI 0)), (0, .ref a.2.2.1), (1, .int (nI v))]) K.1 K.2.1 d_F_decimalOf_87 hl (by decide) rfl (fun ls hl => ?_)
          refine lv_aload_n K.1 K.2.1 d_F_decimalOf_89 rfl (lv_at hl 3 rfl) ?_
          refine lv_iload K.1 K.2.1 d_F_decimalOf_90 (lv_at hl 0 rfl) ?_
          refine pkv K (c_judge (σ := z_s_au σ 0) (v := v % 256) l D cI a hO14 (by omega)) (cw_F_46 K (Nat.le_of_ble_eq_true rfl) (Nat.le_of_ble_eq_true rfl)) hw (va_recv (ci := 2) (q0 := 2) hw.2.2.2.1 hw.1 rfl rfl) rfl hl.1 rfl (Nat.le_of_ble_eq_true rfl) d_F_decimalOf_92 ⟨Nat.zero_le _, Nat.zero_le _⟩ (fun H locs hw => ?_)
          have hO20 : z_Ok (z_jd (z_s_au σ 0) (v % 256)) := z_ok_jd hO14 (by omega)
          refine lv_iload K.1 K.2.1 d_F_decimalOf_95 (lv_at hl 0 rfl) ?_
          exact pri K hr hlk hw (dd_of0 (by first | (rw [if_pos (by omega)]; done) | (rw [if_neg (by omega)]; done) | (split <;> split <;> omega) | (split <;> omega)) (by unfold z_d6; first | (rw [if_pos (by omega)]; done) | (rw [if_neg (by omega)]; done)) (by omega) (z_k_ca hO)) (congrArg nI (dv_of0 (by unfold z_d6; first | (rw [if_pos (by omega)]; done) | (rw [if_neg (by omega)]; done)) (by omega))) d_F_decimalOf_97
        · refine lv_iinc (k := 0) (v := nI (v + 96)) (lv' := [(3, .int (nI (v + 96))), (2, .int (nI 0)), (0, .ref a.2.2.1), (1, .int (nI v))]) K.1 K.2.1 d_F_decimalOf_74 hl rfl (nI_add _ _) (by decide) rfl (fun ls hl => ?_)
          refine lv_aload_n K.1 K.2.1 d_F_decimalOf_77 rfl (lv_at hl 2 rfl) ?_
          refine nv_iconst (v := 1) K d_F_decimalOf_78 (by decide) ?_
          refine pp_F_carry (v := 1) K hw (by omega) d_F_decimalOf_79 (fun H locs hw => ?_)
          have hO21 : z_Ok (z_s_ca (z_s_au σ 0) 1) := z_ok_ca hO14 (by omega)
          refine lv_iload_n K.1 K.2.1 d_F_decimalOf_82 rfl (lv_at hl 0 rfl) ?_
          refine nv_sipush (v := 255) K d_F_decimalOf_83 (by decide) ?_
          refine nv_mask (M := 256) K 8 rfl rfl d_F_decimalOf_86 ?_
          refine lv_istore (lv' := [(4, .int (nI ((v + 96) % 256))), (3, .int (nI (v + 96))), (2, .int (nI 0)), (0, .ref a.2.2.1), (1, .int (nI v))]) K.1 K.2.1 d_F_decimalOf_87 hl (by decide) rfl (fun ls hl => ?_)
          refine lv_aload_n K.1 K.2.1 d_F_decimalOf_89 rfl (lv_at hl 3 rfl) ?_
          refine lv_iload K.1 K.2.1 d_F_decimalOf_90 (lv_at hl 0 rfl) ?_
          refine pkv K (c_judge (σ := z_s_ca (z_s_au σ 0) 1) (v := (v + 96) % 256) l D cI a hO21 (by omega)) (cw_F_46 K (Nat.le_of_ble_eq_true rfl) (Nat.le_of_ble_eq_true rfl)) hw (va_recv (ci := 2) (q0 := 2) hw.2.2.2.1 hw.1 rfl rfl) rfl hl.1 rfl (Nat.le_of_ble_eq_true rfl) d_F_decimalOf_92 ⟨Nat.zero_le _, Nat.zero_le _⟩ (fun H locs hw => ?_)
          have hO22 : z_Ok (z_jd (z_s_ca (z_s_au σ 0) 1) ((v + 96) % 256)) := z_ok_jd hO21 (by omega)
          refine lv_iload K.1 K.2.1 d_F_decimalOf_95 (lv_at hl 0 rfl) ?_
          exact pri K hr hlk hw (dd_of (by first | (rw [if_pos (by omega)]; done) | (rw [if_neg (by omega)]; done) | (split <;> split <;> omega) | (split <;> omega)) (by unfold z_d6; first | (rw [if_pos (by omega)]; done) | (rw [if_neg (by omega)]; done)) (by omega)) (congrArg nI (dv_of (by unfold z_d6; first | (rw [if_pos (by omega)]; done) | (rw [if_neg (by omega)]; done)) (by omega))) d_F_decimalOf_97
    · refine nv_iconst (v := 1) K d_F_decimalOf_16 (by decide) ?_
      refine lv_goto K.1 K.2.1 d_F_decimalOf_17 rfl ?_
      refine lv_istore_n (lv' := [(2, .int (nI 1)), (0, .ref a.2.2.1), (1, .int (nI v))]) K.1 K.2.1 d_F_decimalOf_21 rfl hl (by decide) rfl (fun ls hl => ?_)
      refine lv_iload_n K.1 K.2.1 d_F_decimalOf_22 rfl (lv_at hl 0 rfl) ?_
      refine nv_if_eq K (by omega) d_F_decimalOf_23 rfl (fun h => (by omega : False).elim) (fun _ => ?_)
      refine lv_iload_n K.1 K.2.1 d_F_decimalOf_26 rfl (lv_at hl 2 rfl) ?_
      refine nv_bipush (v := 6) K d_F_decimalOf_27 (by decide) ?_
      refine nv_iadd K d_F_decimalOf_29 ?_
      refine lv_goto K.1 K.2.1 d_F_decimalOf_30 rfl ?_
      refine lv_istore_n (lv' := [(3, .int (nI (v + 6))), (2, .int (nI 1)), (0, .ref a.2.2.1), (1, .int (nI v))]) K.1 K.2.1 d_F_decimalOf_34 rfl hl (by decide) rfl (fun ls hl => ?_)
      refine lv_aload_n K.1 K.2.1 d_F_decimalOf_35 rfl (lv_at hl 2 rfl) ?_
      refine lv_iload_n K.1 K.2.1 d_F_decimalOf_36 rfl (lv_at hl 1 rfl) ?_
      refine nv_if_eq K (by omega) d_F_decimalOf_37 rfl (fun h => (by omega : False).elim) (fun _ => ?_)
      refine lv_iload_n K.1 K.2.1 d_F_decimalOf_40 rfl (lv_at hl 3 rfl) ?_
      refine nv_bipush (v := 15) K d_F_decimalOf_41 (by decide) ?_
      refine nv_mask (M := 16) K 4 rfl rfl d_F_decimalOf_43 ?_
      refine nv_bipush (v := 6) K d_F_decimalOf_44 (by decide) ?_
      refine nv_iadd K d_F_decimalOf_46 ?_
      refine nv_bipush (v := 15) K d_F_decimalOf_47 (by decide) ?_
      refine nf_icmp_le (u := 0) (v := 1) (Y := 57) K (by omega) (by omega) d_F_decimalOf_49 rfl (fun _ k => nv_iconst (v := 0) K d_F_decimalOf_56 (by decide) k) (fun _ k => nv_iconst (v := 1) K d_F_decimalOf_52 (by decide) (lv_goto K.1 K.2.1 d_F_decimalOf_53 rfl k)) ?_
      have hb23 : (if ((v % 16) + 6) ≤ 15 then 0 else 1) < 2 := z_ite_ltB _ (by omega) (by omega)
      refine pp_F_auxiliary (v := (if ((v % 16) + 6) ≤ 15 then 0 else 1)) K hw (by omega) d_F_decimalOf_57 (fun H locs hw => ?_)
      have hO24 : z_Ok (z_s_au σ (if ((v % 16) + 6) ≤ 15 then 0 else 1)) := z_ok_au hO (by omega)
      refine lv_iload_n K.1 K.2.1 d_F_decimalOf_60 rfl (lv_at hl 0 rfl) ?_
      refine nv_sipush (v := 159) K d_F_decimalOf_61 (by decide) ?_
      refine nv_icmp_gt K (by omega) (by omega) d_F_decimalOf_64 rfl (fun h25 => ?_) (fun h25 => ?_)
      · refine lv_iinc (k := 0) (v := nI ((v + 6) + 96)) (lv' := [(3, .int (nI ((v + 6) + 96))), (2, .int (nI 1)), (0, .ref a.2.2.1), (1, .int (nI v))]) K.1 K.2.1 d_F_decimalOf_74 hl rfl (nI_add _ _) (by decide) rfl (fun ls hl => ?_)
        refine lv_aload_n K.1 K.2.1 d_F_decimalOf_77 rfl (lv_at hl 2 rfl) ?_
        refine nv_iconst (v := 1) K d_F_decimalOf_78 (by decide) ?_
        refine pp_F_carry (v := 1) K hw (by omega) d_F_decimalOf_79 (fun H locs hw => ?_)
        have hO26 : z_Ok (z_s_ca (z_s_au σ (if ((v % 16) + 6) ≤ 15 then 0 else 1)) 1) := z_ok_ca hO24 (by omega)
        refine lv_iload_n K.1 K.2.1 d_F_decimalOf_82 rfl (lv_at hl 0 rfl) ?_
        refine nv_sipush (v := 255) K d_F_decimalOf_83 (by decide) ?_
        refine nv_mask (M := 256) K 8 rfl rfl d_F_decimalOf_86 ?_
        refine lv_istore (lv' := [(4, .int (nI (((v + 6) + 96) % 256))), (3, .int (nI ((v + 6) + 96))), (2, .int (nI 1)), (0, .ref a.2.2.1), (1, .int (nI v))]) K.1 K.2.1 d_F_decimalOf_87 hl (by decide) rfl (fun ls hl => ?_)
        refine lv_aload_n K.1 K.2.1 d_F_decimalOf_89 rfl (lv_at hl 3 rfl) ?_
        refine lv_iload K.1 K.2.1 d_F_decimalOf_90 (lv_at hl 0 rfl) ?_
        refine pkv K (c_judge (σ := z_s_ca (z_s_au σ (if ((v % 16) + 6) ≤ 15 then 0 else 1)) 1) (v := ((v + 6) + 96) % 256) l D cI a hO26 (by omega)) (cw_F_46 K (Nat.le_of_ble_eq_true rfl) (Nat.le_of_ble_eq_true rfl)) hw (va_recv (ci := 2) (q0 := 2) hw.2.2.2.1 hw.1 rfl rfl) rfl hl.1 rfl (Nat.le_of_ble_eq_true rfl) d_F_decimalOf_92 ⟨Nat.zero_le _, Nat.zero_le _⟩ (fun H locs hw => ?_)
        have hO27 : z_Ok (z_jd (z_s_ca (z_s_au σ (if ((v % 16) + 6) ≤ 15 then 0 else 1)) 1) (((v + 6) + 96) % 256)) := z_ok_jd hO26 (by omega)
        refine lv_iload K.1 K.2.1 d_F_decimalOf_95 (lv_at hl 0 rfl) ?_
        exact pri K hr hlk hw (dd_of (by first | (rw [if_pos (by omega)]; done) | (rw [if_neg (by omega)]; done) | (split <;> split <;> omega) | (split <;> omega)) (by unfold z_d6; first | (rw [if_pos (by omega)]; done) | (rw [if_neg (by omega)]; done)) (by omega)) (congrArg nI (dv_of (by unfold z_d6; first | (rw [if_pos (by omega)]; done) | (rw [if_neg (by omega)]; done)) (by omega))) d_F_decimalOf_97
      · refine lv_aload_n K.1 K.2.1 d_F_decimalOf_67 rfl (lv_at hl 2 rfl) ?_
        refine pg_F_carry (v := z_x_ca σ) K hw rfl d_F_decimalOf_68 ?_
        have hb28 : z_x_ca σ < 2 := z_k_ca hO
        refine nv_if_eq K (by omega) d_F_decimalOf_71 rfl (fun h29 => ?_) (fun h29 => ?_)
        · refine lv_iload_n K.1 K.2.1 d_F_decimalOf_82 rfl (lv_at hl 0 rfl) ?_
          refine nv_sipush (v := 255) K d_F_decimalOf_83 (by decide) ?_
          refine nv_mask (M := 256) K 8 rfl rfl d_F_decimalOf_86 ?_
          refine lv_istore (lv' := [(4, .int (nI ((v + 6) % 256))), (3, .int (nI (v + 6))), (2, .int (nI 1)), (0, .ref a.2.2.1), (1, .int (nI v))]) K.1 K.2.1 d_F_decimalOf_87 hl (by decide) rfl (fun ls hl => ?_)
          refine lv_aload_n K.1 K.2.1 d_F_decimalOf_89 rfl (lv_at hl 3 rfl) ?_
          refine lv_iload K.1 K.2.1 d_F_decimalOf_90 (lv_at hl 0 rfl) ?_
          refine pkv K (c_judge (σ := z_s_au σ (if ((v % 16) + 6) ≤ 15 then 0 else 1)) (v := (v + 6) % 256) l D cI a hO24 (by omega)) (cw_F_46 K (Nat.le_of_ble_eq_true rfl) (Nat.le_of_ble_eq_true rfl)) hw (va_recv (ci := 2) (q0 := 2) hw.2.2.2.1 hw.1 rfl rfl) rfl hl.1 rfl (Nat.le_of_ble_eq_true rfl) d_F_decimalOf_92 ⟨Nat.zero_le _, Nat.zero_le _⟩ (fun H locs hw => ?_)
          have hO30 : z_Ok (z_jd (z_s_au σ (if ((v % 16) + 6) ≤ 15 then 0 else 1)) ((v + 6) % 256)) := z_ok_jd hO24 (by omega)
          refine lv_iload K.1 K.2.1 d_F_decimalOf_95 (lv_at hl 0 rfl) ?_
          exact pri K hr hlk hw (dd_of0 (by first | (rw [if_pos (by omega)]; done) | (rw [if_neg (by omega)]; done) | (split <;> split <;> omega) | (split <;> omega)) (by unfold z_d6; first | (rw [if_pos (by omega)]; done) | (rw [if_neg (by omega)]; done)) (by omega) (z_k_ca hO)) (congrArg nI (dv_of0 (by unfold z_d6; first | (rw [if_pos (by omega)]; done) | (rw [if_neg (by omega)]; done)) (by omega))) d_F_decimalOf_97
        · refine lv_iinc (k := 0) (v := nI ((v + 6) + 96)) (lv' := [(3, .int (nI ((v + 6) + 96))), (2, .int (nI 1)), (0, .ref a.2.2.1), (1, .int (nI v))]) K.1 K.2.1 d_F_decimalOf_74 hl rfl (nI_add _ _) (by decide) rfl (fun ls hl => ?_)
          refine lv_aload_n K.1 K.2.1 d_F_decimalOf_77 rfl (lv_at hl 2 rfl) ?_
          refine nv_iconst (v := 1) K d_F_decimalOf_78 (by decide) ?_
          refine pp_F_carry (v := 1) K hw (by omega) d_F_decimalOf_79 (fun H locs hw => ?_)
          have hO31 : z_Ok (z_s_ca (z_s_au σ (if ((v % 16) + 6) ≤ 15 then 0 else 1)) 1) := z_ok_ca hO24 (by omega)
          refine lv_iload_n K.1 K.2.1 d_F_decimalOf_82 rfl (lv_at hl 0 rfl) ?_
          refine nv_sipush (v := 255) K d_F_decimalOf_83 (by decide) ?_
          refine nv_mask (M := 256) K 8 rfl rfl d_F_decimalOf_86 ?_
          refine lv_istore (lv' := [(4, .int (nI (((v + 6) + 96) % 256))), (3, .int (nI ((v + 6) + 96))), (2, .int (nI 1)), (0, .ref a.2.2.1), (1, .int (nI v))]) K.1 K.2.1 d_F_decimalOf_87 hl (by decide) rfl (fun ls hl => ?_)
          refine lv_aload_n K.1 K.2.1 d_F_decimalOf_89 rfl (lv_at hl 3 rfl) ?_
          refine lv_iload K.1 K.2.1 d_F_decimalOf_90 (lv_at hl 0 rfl) ?_
          refine pkv K (c_judge (σ := z_s_ca (z_s_au σ (if ((v % 16) + 6) ≤ 15 then 0 else 1)) 1) (v := ((v + 6) + 96) % 256) l D cI a hO31 (by omega)) (cw_F_46 K (Nat.le_of_ble_eq_true rfl) (Nat.le_of_ble_eq_true rfl)) hw (va_recv (ci := 2) (q0 := 2) hw.2.2.2.1 hw.1 rfl rfl) rfl hl.1 rfl (Nat.le_of_ble_eq_true rfl) d_F_decimalOf_92 ⟨Nat.zero_le _, Nat.zero_le _⟩ (fun H locs hw => ?_)
          have hO32 : z_Ok (z_jd (z_s_ca (z_s_au σ (if ((v % 16) + 6) ≤ 15 then 0 else 1)) 1) (((v + 6) + 96) % 256)) := z_ok_jd hO31 (by omega)
          refine lv_iload K.1 K.2.1 d_F_decimalOf_95 (lv_at hl 0 rfl) ?_
          exact pri K hr hlk hw (dd_of (by first | (rw [if_pos (by omega)]; done) | (rw [if_neg (by omega)]; done) | (split <;> split <;> omega) | (split <;> omega)) (by unfold z_d6; first | (rw [if_pos (by omega)]; done) | (rw [if_neg (by omega)]; done)) (by omega)) (congrArg nI (dv_of (by unfold z_d6; first | (rw [if_pos (by omega)]; done) | (rw [if_neg (by omega)]; done)) (by omega))) d_F_decimalOf_97
end
section
set_option maxHeartbeats 4000000 in
set_option maxRecDepth 100000 in
theorem c_targetOf {σ : z_St} {b : Nat} (l : Launch) (D : va_G) (cI : ClassId) (a : pAd) (hO : z_Ok σ) (hb : b < 256) : pCi l y_P_targetOf w_P_targetOf 0 0 D cI a [.int (nI b)] σ σ (nI (b / 8 % 8)) := by
  refine pci_of (cc := b_P_targetOf) (maxL := 1) (ret := (some .int)) (by decide) rfl (Nat.le_of_ble_eq_true rfl) ?_
  intro p e s m below meth c ls K hr hlk hl hw
  have K : CallFix p m c b_P_targetOf 1 s _ (_ :: T0) "PortProcessor" := K
  have hl : lv_has ls 1 [(0, .int (nI b))] := hl
  refine lv_iload_n K.1 K.2.1 d_P_targetOf_0 rfl (lv_at hl 0 rfl) ?_
  refine nv_iconst (v := 3) K d_P_targetOf_1 (by decide) ?_
  refine nv_ishr (M := 8) K (by omega) rfl (by omega) d_P_targetOf_2 ?_
  refine nv_bipush (v := 7) K d_P_targetOf_3 (by decide) ?_
  refine nv_mask (M := 8) K 3 rfl rfl d_P_targetOf_5 ?_
  exact pri K hr hlk hw (by first | rfl | (simp; done) | (skip; rfl)) (by first | rfl | (simp; done) | (congr 1; omega) | (simp; omega)) d_P_targetOf_6
set_option maxHeartbeats 4000000 in
set_option maxRecDepth 100000 in
theorem c_pairOf {σ : z_St} {b : Nat} (l : Launch) (D : va_G) (cI : ClassId) (a : pAd) (hO : z_Ok σ) (hb : b < 256) : pCi l y_P_pairOf w_P_pairOf 0 0 D cI a [.int (nI b)] σ σ (nI (b / 16 % 4)) := by
  refine pci_of (cc := b_P_pairOf) (maxL := 1) (ret := (some .int)) (by decide) rfl (Nat.le_of_ble_eq_true rfl) ?_
  intro p e s m below meth c ls K hr hlk hl hw
  have K : CallFix p m c b_P_pairOf 1 s _ (_ :: T0) "PortProcessor" := K
  have hl : lv_has ls 1 [(0, .int (nI b))] := hl
  refine lv_iload_n K.1 K.2.1 d_P_pairOf_0 rfl (lv_at hl 0 rfl) ?_
  refine nv_iconst (v := 4) K d_P_pairOf_1 (by decide) ?_
  refine nv_ishr (M := 16) K (by omega) rfl (by omega) d_P_pairOf_2 ?_
  refine nv_iconst (v := 3) K d_P_pairOf_3 (by decide) ?_
  refine nv_mask (M := 4) K 2 rfl rfl d_P_pairOf_4 ?_
  exact pri K hr hlk hw (by first | rfl | (simp; done) | (skip; rfl)) (by first | rfl | (simp; done) | (congr 1; omega) | (simp; omega)) d_P_pairOf_5
set_option maxHeartbeats 4000000 in
set_option maxRecDepth 100000 in
theorem c_fillPair {σ : z_St} {b : Nat} (l : Launch) (D : va_G) (cI : ClassId) (a : pAd) (hO : z_Ok σ) (hb : b < 256) : pCi l y_P_fillPair w_P_fillPair 3 63 D cI a [.ref a.1, .int (nI b)] σ (z_ps (z_nn σ) (b / 16 % 4) (z_nw σ)) (nI 10) := by
  refine pci_of (cc := b_P_fillPair) (maxL := 2) (ret := (some .int)) (by decide) rfl (Nat.le_of_ble_eq_true rfl) ?_
  intro p e s m below meth c ls K hr hlk hl hw
  have K : CallFix p m c b_P_fillPair 2 s _ (_ :: T0) "PortProcessor" := K
  have hl : lv_has ls 2 [(0, .ref a.1), (1, .int (nI b))] := hl
  refine lv_aload_n K.1 K.2.1 d_P_fillPair_0 rfl (lv_at hl 0 rfl) ?_
  refine lv_iload_n K.1 K.2.1 d_P_fillPair_1 rfl (lv_at hl 1 rfl) ?_
  refine psi K (c_pairOf (σ := σ) (b := b) l D cI a hO (by omega)) (cw_P_190 K (Nat.le_of_ble_eq_true rfl) (Nat.le_of_ble_eq_true rfl)) hw rfl hl.1 rfl (Nat.le_of_ble_eq_true rfl) d_P_fillPair_2 ⟨Nat.zero_le _, Nat.zero_le _⟩ (fun H locs hw => ?_)
  refine lv_aload_n K.1 K.2.1 d_P_fillPair_5 rfl (lv_at hl 0 rfl) ?_
  refine pki K (c_nextTwoBytes (σ := σ) l D cI a hO) (cw_P_193 K (Nat.le_of_ble_eq_true rfl) (Nat.le_of_ble_eq_true rfl)) hw (va_recv (ci := 0) (q0 := 0) hw.2.2.2.1 hw.1 rfl rfl) rfl hl.1 rfl (Nat.le_of_ble_eq_true rfl) d_P_fillPair_6 ⟨Nat.zero_le _, Nat.zero_le _⟩ (fun H locs hw => ?_)
  have hO1 : z_Ok (z_nn σ) := z_ok_nn hO
  have hb2 : z_nw σ < 65536 := z_nw_lt hO
  refine pkv K (c_writePair (σ := z_nn σ) (k := b / 16 % 4) (v := z_nw σ) l D cI a hO1 (by omega) (by omega)) (cw_P_196 K (Nat.le_of_ble_eq_true rfl) (Nat.le_of_ble_eq_true rfl)) hw (va_recv (ci := 0) (q0 := 0) hw.2.2.2.1 hw.1 rfl rfl) rfl hl.1 rfl (Nat.le_of_ble_eq_true rfl) d_P_fillPair_9 ⟨Nat.zero_le _, Nat.zero_le _⟩ (fun H locs hw => ?_)
  have hO3 : z_Ok (z_ps (z_nn σ) (b / 16 % 4) (z_nw σ)) := z_ok_ps hO1 _ (by omega)
  refine nv_bipush (v := 10) K d_P_fillPair_12 (by decide) ?_
  exact pri K hr hlk hw (by first | rfl | (simp; done) | (skip; rfl)) (by first | rfl | (simp; done) | (congr 1; omega) | (simp; omega)) d_P_fillPair_14
end
section
set_option maxHeartbeats 4000000 in
set_option maxRecDepth 100000 in
theorem c_addPair {σ : z_St} {b : Nat} (l : Launch) (D : va_G) (cI : ClassId) (a : pAd) (hO : z_Ok σ) (hb : b < 256) : pCi l y_P_addPair w_P_addPair 1 22 D cI a [.ref a.1, .int (nI b)] σ (z_ad σ (b / 16 % 4)) (nI 10) := by
  refine pci_of (cc := b_P_addPair) (maxL := 3) (ret := (some .int)) (by decide) rfl (Nat.le_of_ble_eq_true rfl) ?_
  intro p e s m below meth c ls K hr hlk hl hw
  have K : CallFix p m c b_P_addPair 3 s _ (_ :: T0) "PortProcessor" := K
  have hl : lv_has ls 3 [(0, .ref a.1), (1, .int (nI b))] := hl
  refine lv_aload_n K.1 K.2.1 d_P_addPair_0 rfl (lv_at hl 0 rfl) ?_
  refine nv_iconst (v := 2) K d_P_addPair_1 (by decide) ?_
  refine pki K (c_readPair (σ := σ) (k := 2) l D cI a hO (by omega)) (cw_P_199 K (Nat.le_of_ble_eq_true rfl) (Nat.le_of_ble_eq_true rfl)) hw (va_recv (ci := 0) (q0 := 0) hw.2.2.2.1 hw.1 rfl rfl) rfl hl.1 rfl (Nat.le_of_ble_eq_true rfl) d_P_addPair_2 ⟨Nat.zero_le _, Nat.zero_le _⟩ (fun H locs hw => ?_)
  have hb1 : z_pg σ 2 < 65536 := z_pg_lt hO _
  refine lv_aload_n K.1 K.2.1 d_P_addPair_5 rfl (lv_at hl 0 rfl) ?_
  refine lv_iload_n K.1 K.2.1 d_P_addPair_6 rfl (lv_at hl 1 rfl) ?_
  refine psi K (c_pairOf (σ := σ) (b := b) l D cI a hO (by omega)) (cw_P_190 K (Nat.le_of_ble_eq_true rfl) (Nat.le_of_ble_eq_true rfl)) hw rfl hl.1 rfl (Nat.le_of_ble_eq_true rfl) d_P_addPair_7 ⟨Nat.zero_le _, Nat.zero_le _⟩ (fun H locs hw => ?_)
  refine pki K (c_readPair (σ := σ) (k := b / 16 % 4) l D cI a hO (by omega)) (cw_P_199 K (Nat.le_of_ble_eq_true rfl) (Nat.le_of_ble_eq_true rfl)) hw (va_recv (ci := 0) (q0 := 0) hw.2.2.2.1 hw.1 rfl rfl) rfl hl.1 rfl (Nat.le_of_ble_eq_true rfl) d_P_addPair_10 ⟨Nat.zero_le _, Nat.zero_le _⟩ (fun H locs hw => ?_)
  have hb2 : z_pg σ (b / 16 % 4) < 65536 := z_pg_lt hO _
  refine nv_iadd K d_P_addPair_13 ?_
  refine lv_istore_n (lv' := [(2, .int (nI ((z_pg σ 2) + (z_pg σ (b / 16 % 4))))), (0, .ref a.1), (1, .int (nI b))]) K.1 K.2.1 d_P_addPair_14 rfl hl (by decide) rfl (fun ls hl => ?_)
  refine lv_aload_n K.1 K.2.1 d_P_addPair_15 rfl (lv_at hl 1 rfl) ?_
  refine pg_flags K hw d_P_addPair_16 ?_
  refine lv_iload_n K.1 K.2.1 d_P_addPair_19 rfl (lv_at hl 0 rfl) ?_
  refine nv_ldc (v := 65535) K d_P_addPair_20 (K.2.2.2.2 _ (List.mem_cons_of_mem _ m_constant_PortProcessor_56_65535)) ?_
  refine nf_icmp_le (u := 0) (v := 1) (Y := 30) K (by omega) (by omega) d_P_addPair_22 rfl (fun _ k => nv_iconst (v := 0) K d_P_addPair_29 (by decide) k) (fun _ k => nv_iconst (v := 1) K d_P_addPair_25 (by decide) (lv_goto K.1 K.2.1 d_P_addPair_26 rfl k)) ?_
  have hb3 : (if ((z_pg σ 2) + (z_pg σ (b / 16 % 4))) ≤ 65535 then 0 else 1) < 2 := z_ite_ltB _ (by omega) (by omega)
  refine pkv K (c_takeCarry (σ := σ) (v := (if ((z_pg σ 2) + (z_pg σ (b / 16 % 4))) ≤ 65535 then 0 else 1)) l D cI a hO (by omega)) (cw_P_202 K (Nat.le_of_ble_eq_true rfl) (Nat.le_of_ble_eq_true rfl)) hw (va_recv (ci := 2) (q0 := 2) hw.2.2.2.1 hw.1 rfl rfl) rfl hl.1 rfl (Nat.le_of_ble_eq_true rfl) d_P_addPair_30 ⟨Nat.zero_le _, Nat.zero_le _⟩ (fun H locs hw => ?_)
  have hO4 : z_Ok (z_s_ca σ (if ((z_pg σ 2) + (z_pg σ (b / 16 % 4))) ≤ 65535 then 0 else 1)) := z_ok_ca hO (by omega)
  refine lv_aload_n K.1 K.2.1 d_P_addPair_33 rfl (lv_at hl 1 rfl) ?_
  refine nv_iconst (v := 2) K d_P_addPair_34 (by decide) ?_
  refine lv_iload_n K.1 K.2.1 d_P_addPair_35 rfl (lv_at hl 0 rfl) ?_
  refine nv_ldc (v := 65535) K d_P_addPair_36 (K.2.2.2.2 _ (List.mem_cons_of_mem _ m_constant_PortProcessor_56_65535)) ?_
  refine nv_mask (M := 65536) K 16 rfl rfl d_P_addPair_38 ?_
  refine pkv K (c_writePair (σ := z_s_ca σ (if ((z_pg σ 2) + (z_pg σ (b / 16 % 4))) ≤ 65535 then 0 else 1)) (k := 2) (v := ((z_pg σ 2) + (z_pg σ (b / 16 % 4))) % 65536) l D cI a hO4 (by omega) (by omega)) (cw_P_196 K (Nat.le_of_ble_eq_true rfl) (Nat.le_of_ble_eq_true rfl)) hw (va_recv (ci := 0) (q0 := 0) hw.2.2.2.1 hw.1 rfl rfl) rfl hl.1 rfl (Nat.le_of_ble_eq_true rfl) d_P_addPair_39 ⟨Nat.zero_le _, Nat.zero_le _⟩ (fun H locs hw => ?_)
  have hO5 : z_Ok (z_ps (z_s_ca σ (if ((z_pg σ 2) + (z_pg σ (b / 16 % 4))) ≤ 65535 then 0 else 1)) 2 (((z_pg σ 2) + (z_pg σ (b / 16 % 4))) % 65536)) := z_ok_ps hO4 _ (by omega)
  refine nv_bipush (v := 10) K d_P_addPair_42 (by decide) ?_
  exact pri K hr hlk hw (by rw [nz_c16 (by omega)]; rfl) (by first | rfl | (simp [z_ad]; done) | (congr 1; omega) | (simp [z_ad]; omega)) d_P_addPair_44
end
section
set_option maxHeartbeats 4000000 in
set_option maxRecDepth 100000 in
theorem c_countPair {σ : z_St} {b : Nat} (l : Launch) (D : va_G) (cI : ClassId) (a : pAd) (hO : z_Ok σ) (hb : b < 256) : pCi l y_P_countPair w_P_countPair 1 22 D cI a [.ref a.1, .int (nI b)] σ (z_ps σ (b / 16 % 4) ((z_pg σ (b / 16 % 4) + (if b / 8 % 2 = 0 then 1 else 65535)) % 65536)) (nI 5) := by
  refine pci_of (cc := b_P_countPair) (maxL := 3) (ret := (some .int)) (by decide) rfl (Nat.le_of_ble_eq_true rfl) ?_
  intro p e s m below meth c ls K hr hlk hl hw
  have K : CallFix p m c b_P_countPair 3 s _ (_ :: T0) "PortProcessor" := K
  have hl : lv_has ls 3 [(0, .ref a.1), (1, .int (nI b))] := hl
  refine lv_iload_n K.1 K.2.1 d_P_countPair_0 rfl (lv_at hl 1 rfl) ?_
  refine nv_bipush (v := 8) K d_P_countPair_1 (by decide) ?_
  refine nv_iand K d_P_countPair_3 ?_
  have hb1 : b &&& 8 ≤ 8 := Nat.and_le_right
  have hb2 : b &&& 8 = 8 * (b / 8 % 2) := nz_b8 _ (by omega)
  refine nv_if_ne K (by omega) d_P_countPair_4 rfl (fun h3 => ?_) (fun h3 => ?_)
  · refine lv_iconst (v := -1) K.1 K.2.1 d_P_countPair_11 (by decide) ?_
    refine lv_istore_n (lv' := [(2, .int (-1)), (0, .ref a.1), (1, .int (nI b))]) K.1 K.2.1 d_P_countPair_12 rfl hl (by decide) rfl (fun ls hl => ?_)
    refine lv_aload_n K.1 K.2.1 d_P_countPair_13 rfl (lv_at hl 1 rfl) ?_
    refine lv_iload_n K.1 K.2.1 d_P_countPair_14 rfl (lv_at hl 2 rfl) ?_
    refine psi K (c_pairOf (σ := σ) (b := b) l D cI a hO (by omega)) (cw_P_190 K (Nat.le_of_ble_eq_true rfl) (Nat.le_of_ble_eq_true rfl)) hw rfl hl.1 rfl (Nat.le_of_ble_eq_true rfl) d_P_countPair_15 ⟨Nat.zero_le _, Nat.zero_le _⟩ (fun H locs hw => ?_)
    refine lv_aload_n K.1 K.2.1 d_P_countPair_18 rfl (lv_at hl 1 rfl) ?_
    refine lv_iload_n K.1 K.2.1 d_P_countPair_19 rfl (lv_at hl 2 rfl) ?_
    refine psi K (c_pairOf (σ := σ) (b := b) l D cI a hO (by omega)) (cw_P_190 K (Nat.le_of_ble_eq_true rfl) (Nat.le_of_ble_eq_true rfl)) hw rfl hl.1 rfl (Nat.le_of_ble_eq_true rfl) d_P_countPair_20 ⟨Nat.zero_le _, Nat.zero_le _⟩ (fun H locs hw => ?_)
    refine pki K (c_readPair (σ := σ) (k := b / 16 % 4) l D cI a hO (by omega)) (cw_P_199 K (Nat.le_of_ble_eq_true rfl) (Nat.le_of_ble_eq_true rfl)) hw (va_recv (ci := 0) (q0 := 0) hw.2.2.2.1 hw.1 rfl rfl) rfl hl.1 rfl (Nat.le_of_ble_eq_true rfl) d_P_countPair_23 ⟨Nat.zero_le _, Nat.zero_le _⟩ (fun H locs hw => ?_)
    have hb4 : z_pg σ (b / 16 % 4) < 65536 := z_pg_lt hO _
    refine lv_iload_n K.1 K.2.1 d_P_countPair_26 rfl (lv_at hl 0 rfl) ?_
    refine lv_iadd K.1 K.2.1 d_P_countPair_27 ?_
    refine nv_ldc (v := 65535) K d_P_countPair_28 (K.2.2.2.2 _ (List.mem_cons_of_mem _ m_constant_PortProcessor_56_65535)) ?_
    refine lv_iand K.1 K.2.1 d_P_countPair_30 (nv_as K (nz_addm1 (by omega)) ?_)
    refine pkv K (c_writePair (σ := σ) (k := b / 16 % 4) (v := ((z_pg σ (b / 16 % 4)) + 65535) % 65536) l D cI a hO (by omega) (by omega)) (cw_P_196 K (Nat.le_of_ble_eq_true rfl) (Nat.le_of_ble_eq_true rfl)) hw (va_recv (ci := 0) (q0 := 0) hw.2.2.2.1 hw.1 rfl rfl) rfl hl.1 rfl (Nat.le_of_ble_eq_true rfl) d_P_countPair_31 ⟨Nat.zero_le _, Nat.zero_le _⟩ (fun H locs hw => ?_)
    have hO5 : z_Ok (z_ps σ (b / 16 % 4) (((z_pg σ (b / 16 % 4)) + 65535) % 65536)) := z_ok_ps hO _ (by omega)
    refine nv_iconst (v := 5) K d_P_countPair_34 (by decide) ?_
    exact pri K hr hlk hw (by first | (rw [if_pos (by omega)]; done) | (rw [if_neg (by omega)]; done)) (by first | rfl | (simp [h3]; done) | (congr 1; omega) | (simp [h3]; omega)) d_P_countPair_35
  · refine nv_iconst (v := 1) K d_P_countPair_7 (by decide) ?_
    refine lv_goto K.1 K.2.1 d_P_countPair_8 rfl ?_
    refine lv_istore_n (lv' := [(2, .int (nI 1)), (0, .ref a.1), (1, .int (nI b))]) K.1 K.2.1 d_P_countPair_12 rfl hl (by decide) rfl (fun ls hl => ?_)
    refine lv_aload_n K.1 K.2.1 d_P_countPair_13 rfl (lv_at hl 1 rfl) ?_
    refine lv_iload_n K.1 K.2.1 d_P_countPair_14 rfl (lv_at hl 2 rfl) ?_
    refine psi K (c_pairOf (σ := σ) (b := b) l D cI a hO (by omega)) (cw_P_190 K (Nat.le_of_ble_eq_true rfl) (Nat.le_of_ble_eq_true rfl)) hw rfl hl.1 rfl (Nat.le_of_ble_eq_true rfl) d_P_countPair_15 ⟨Nat.zero_le _, Nat.zero_le _⟩ (fun H locs hw => ?_)
    refine lv_aload_n K.1 K.2.1 d_P_countPair_18 rfl (lv_at hl 1 rfl) ?_
    refine lv_iload_n K.1 K.2.1 d_P_countPair_19 rfl (lv_at hl 2 rfl) ?_
    refine psi K (c_pairOf (σ := σ) (b := b) l D cI a hO (by omega)) (cw_P_190 K (Nat.le_of_ble_eq_true rfl) (Nat.le_of_ble_eq_true rfl)) hw rfl hl.1 rfl (Nat.le_of_ble_eq_true rfl) d_P_countPair_20 ⟨Nat.zero_le _, Nat.zero_le _⟩ (fun H locs hw => ?_)
    refine pki K (c_readPair (σ := σ) (k := b / 16 % 4) l D cI a hO (by omega)) (cw_P_199 K (Nat.le_of_ble_eq_true rfl) (Nat.le_of_ble_eq_true rfl)) hw (va_recv (ci := 0) (q0 := 0) hw.2.2.2.1 hw.1 rfl rfl) rfl hl.1 rfl (Nat.le_of_ble_eq_true rfl) d_P_countPair_23 ⟨Nat.zero_le _, Nat.zero_le _⟩ (fun H locs hw => ?_)
    have hb6 : z_pg σ (b / 16 % 4) < 65536 := z_pg_lt hO _
    refine lv_iload_n K.1 K.2.1 d_P_countPair_26 rfl (lv_at hl 0 rfl) ?_
    refine nv_iadd K d_P_countPair_27 ?_
    refine nv_ldc (v := 65535) K d_P_countPair_28 (K.2.2.2.2 _ (List.mem_cons_of_mem _ m_constant_PortProcessor_56_65535)) ?_
    refine nv_mask (M := 65536) K 16 rfl rfl d_P_countPair_30 ?_
    refine pkv K (c_writePair (σ := σ) (k := b / 16 % 4) (v := ((z_pg σ (b / 16 % 4)) + 1) % 65536) l D cI a hO (by omega) (by omega)) (cw_P_196 K (Nat.le_of_ble_eq_true rfl) (Nat.le_of_ble_eq_true rfl)) hw (va_recv (ci := 0) (q0 := 0) hw.2.2.2.1 hw.1 rfl rfl) rfl hl.1 rfl (Nat.le_of_ble_eq_true rfl) d_P_countPair_31 ⟨Nat.zero_le _, Nat.zero_le _⟩ (fun H locs hw => ?_)
    have hO7 : z_Ok (z_ps σ (b / 16 % 4) (((z_pg σ (b / 16 % 4)) + 1) % 65536)) := z_ok_ps hO _ (by omega)
    refine nv_iconst (v := 5) K d_P_countPair_34 (by decide) ?_
    exact pri K hr hlk hw (by first | (rw [if_pos (by omega)]; done) | (rw [if_neg (by omega)]; done)) (by first | rfl | (simp [h3]; done) | (congr 1; omega) | (simp [h3]; omega)) d_P_countPair_35
end
section
set_option maxHeartbeats 4000000 in
set_option maxRecDepth 100000 in
theorem c_storeHl {σ : z_St} {x : Nat} (l : Launch) (D : va_G) (cI : ClassId) (a : pAd) (hO : z_Ok σ) (hx : x < 65536) : pCi l y_P_storeHl w_P_storeHl 1 22 D cI a [.ref a.1, .int (nI x)] σ (z_wr (z_wr σ x (z_x_reg σ 5)) ((x + 1) % 65536) (z_x_reg σ 4)) (nI 16) := by
  refine pci_of (cc := b_P_storeHl) (maxL := 2) (ret := (some .int)) (by decide) rfl (Nat.le_of_ble_eq_true rfl) ?_
  intro p e s m below meth c ls K hr hlk hl hw
  have K : CallFix p m c b_P_storeHl 2 s _ (_ :: T0) "PortProcessor" := K
  have hl : lv_has ls 2 [(0, .ref a.1), (1, .int (nI x))] := hl
  refine lv_aload_n K.1 K.2.1 d_P_storeHl_0 rfl (lv_at hl 0 rfl) ?_
  refine pg_memory K hw d_P_storeHl_1 ?_
  refine lv_iload_n K.1 K.2.1 d_P_storeHl_4 rfl (lv_at hl 1 rfl) ?_
  refine lv_aload_n K.1 K.2.1 d_P_storeHl_5 rfl (lv_at hl 0 rfl) ?_
  refine pg_registers K hw d_P_storeHl_6 ?_
  refine nv_iconst (v := 5) K d_P_storeHl_9 (by decide) ?_
  refine pl_reg (i := 5) (v := z_x_reg σ 5) K hw (by omega) rfl d_P_storeHl_10 ?_
  have hb1 : z_x_reg σ 5 < 256 := z_k_reg hO _
  refine pkv K (c_write (σ := σ) (x := x) (v := z_x_reg σ 5) l D cI a hO (by omega) (by omega)) (cw_P_46 K (Nat.le_of_ble_eq_true rfl) (Nat.le_of_ble_eq_true rfl)) hw (va_recv (ci := 1) (q0 := 1) hw.2.2.2.1 hw.1 rfl rfl) rfl hl.1 rfl (Nat.le_of_ble_eq_true rfl) d_P_storeHl_11 ⟨Nat.zero_le _, Nat.zero_le _⟩ (fun H locs hw => ?_)
  have hO2 : z_Ok (z_wr σ x (z_x_reg σ 5)) := z_ok_wr hO _ (by omega)
  refine lv_aload_n K.1 K.2.1 d_P_storeHl_14 rfl (lv_at hl 0 rfl) ?_
  refine pg_memory K hw d_P_storeHl_15 ?_
  refine lv_iload_n K.1 K.2.1 d_P_storeHl_18 rfl (lv_at hl 1 rfl) ?_
  refine nv_iconst (v := 1) K d_P_storeHl_19 (by decide) ?_
  refine nv_iadd K d_P_storeHl_20 ?_
  refine nv_ldc (v := 65535) K d_P_storeHl_21 (K.2.2.2.2 _ (List.mem_cons_of_mem _ m_constant_PortProcessor_56_65535)) ?_
  refine nv_mask (M := 65536) K 16 rfl rfl d_P_storeHl_23 ?_
  refine lv_aload_n K.1 K.2.1 d_P_storeHl_24 rfl (lv_at hl 0 rfl) ?_
  refine pg_registers K hw d_P_storeHl_25 ?_
  refine nv_iconst (v := 4) K d_P_storeHl_28 (by decide) ?_
  refine pl_reg (i := 4) (v := z_x_reg σ 4) K hw (by omega) rfl d_P_storeHl_29 ?_
  have hb3 : z_x_reg σ 4 < 256 := z_k_reg hO _
  refine pkv K (c_write (σ := z_wr σ x (z_x_reg σ 5)) (x := (x + 1) % 65536) (v := z_x_reg σ 4) l D cI a hO2 (by omega) (by omega)) (cw_P_46 K (Nat.le_of_ble_eq_true rfl) (Nat.le_of_ble_eq_true rfl)) hw (va_recv (ci := 1) (q0 := 1) hw.2.2.2.1 hw.1 rfl rfl) rfl hl.1 rfl (Nat.le_of_ble_eq_true rfl) d_P_storeHl_30 ⟨Nat.zero_le _, Nat.zero_le _⟩ (fun H locs hw => ?_)
  have hO4 : z_Ok (z_wr (z_wr σ x (z_x_reg σ 5)) ((x + 1) % 65536) (z_x_reg σ 4)) := z_ok_wr hO2 _ (by omega)
  refine nv_bipush (v := 16) K d_P_storeHl_33 (by decide) ?_
  exact pri K hr hlk hw (by first | rfl | (simp; done) | (skip; rfl)) (by first | rfl | (simp; done) | (congr 1; omega) | (simp; omega)) d_P_storeHl_35
set_option maxHeartbeats 4000000 in
set_option maxRecDepth 100000 in
theorem c_fetchHl {σ : z_St} {x : Nat} (l : Launch) (D : va_G) (cI : ClassId) (a : pAd) (hO : z_Ok σ) (hx : x < 65536) : pCi l y_P_fetchHl w_P_fetchHl 1 21 D cI a [.ref a.1, .int (nI x)] σ (z_s_reg σ (z_fs (z_fs (z_x_reg σ) 5 (z_rd σ x)) 4 (z_rd σ ((x + 1) % 65536)))) (nI 16) := by
  refine pci_of (cc := b_P_fetchHl) (maxL := 2) (ret := (some .int)) (by decide) rfl (Nat.le_of_ble_eq_true rfl) ?_
  intro p e s m below meth c ls K hr hlk hl hw
  have K : CallFix p m c b_P_fetchHl 2 s _ (_ :: T0) "PortProcessor" := K
  have hl : lv_has ls 2 [(0, .ref a.1), (1, .int (nI x))] := hl
  refine lv_aload_n K.1 K.2.1 d_P_fetchHl_0 rfl (lv_at hl 0 rfl) ?_
  refine pg_registers K hw d_P_fetchHl_1 ?_
  refine nv_iconst (v := 5) K d_P_fetchHl_4 (by decide) ?_
  refine lv_aload_n K.1 K.2.1 d_P_fetchHl_5 rfl (lv_at hl 0 rfl) ?_
  refine pg_memory K hw d_P_fetchHl_6 ?_
  refine lv_iload_n K.1 K.2.1 d_P_fetchHl_9 rfl (lv_at hl 1 rfl) ?_
  refine pki K (c_read (σ := σ) (x := x) l D cI a hO (by omega)) (cw_P_52 K (Nat.le_of_ble_eq_true rfl) (Nat.le_of_ble_eq_true rfl)) hw (va_recv (ci := 1) (q0 := 1) hw.2.2.2.1 hw.1 rfl rfl) rfl hl.1 rfl (Nat.le_of_ble_eq_true rfl) d_P_fetchHl_10 ⟨Nat.zero_le _, Nat.zero_le _⟩ (fun H locs hw => ?_)
  have hb1 : z_rd σ x < 256 := z_rd_lt hO _
  refine ps_reg (i := 5) (v := z_rd σ x) K hw (by omega) d_P_fetchHl_13 (fun H locs hw => ?_)
  have hO2 : z_Ok (z_s_reg σ (z_fs (z_x_reg σ) 5 (z_rd σ x))) := z_ok_reg hO (z_fs_lt (z_k_reg hO) (by omega))
  refine lv_aload_n K.1 K.2.1 d_P_fetchHl_14 rfl (lv_at hl 0 rfl) ?_
  refine pg_registers K hw d_P_fetchHl_15 ?_
  refine nv_iconst (v := 4) K d_P_fetchHl_18 (by decide) ?_
  refine lv_aload_n K.1 K.2.1 d_P_fetchHl_19 rfl (lv_at hl 0 rfl) ?_
  refine pg_memory K hw d_P_fetchHl_20 ?_
  refine lv_iload_n K.1 K.2.1 d_P_fetchHl_23 rfl (lv_at hl 1 rfl) ?_
  refine nv_iconst (v := 1) K d_P_fetchHl_24 (by decide) ?_
  refine nv_iadd K d_P_fetchHl_25 ?_
  refine nv_ldc (v := 65535) K d_P_fetchHl_26 (K.2.2.2.2 _ (List.mem_cons_of_mem _ m_constant_PortProcessor_56_65535)) ?_
  refine nv_mask (M := 65536) K 16 rfl rfl d_P_fetchHl_28 ?_
  refine pki K (c_read (σ := z_s_reg σ (z_fs (z_x_reg σ) 5 (z_rd σ x))) (x := (x + 1) % 65536) l D cI a hO2 (by omega)) (cw_P_52 K (Nat.le_of_ble_eq_true rfl) (Nat.le_of_ble_eq_true rfl)) hw (va_recv (ci := 1) (q0 := 1) hw.2.2.2.1 hw.1 rfl rfl) rfl hl.1 rfl (Nat.le_of_ble_eq_true rfl) d_P_fetchHl_29 ⟨Nat.zero_le _, Nat.zero_le _⟩ (fun H locs hw => ?_)
  refine nv_as K (y := nI (z_rd σ ((x + 1) % 65536))) rfl ?_
  have hb3 : z_rd σ ((x + 1) % 65536) < 256 := z_rd_lt hO2 _
  refine ps_reg (i := 4) (v := z_rd σ ((x + 1) % 65536)) K hw (by omega) d_P_fetchHl_32 (fun H locs hw => ?_)
  have hO4 : z_Ok (z_s_reg (z_s_reg σ (z_fs (z_x_reg σ) 5 (z_rd σ x))) (z_fs (z_fs (z_x_reg σ) 5 (z_rd σ x)) 4 (z_rd σ ((x + 1) % 65536)))) := z_ok_reg hO2 (z_fs_lt (z_k_reg hO2) (by omega))
  refine nv_bipush (v := 16) K d_P_fetchHl_33 (by decide) ?_
  exact pri K hr hlk hw (by rw [ss_reg]; rfl) (by first | rfl | (simp; done) | (congr 1; omega) | (simp; omega)) d_P_fetchHl_35
end
section
set_option maxHeartbeats 4000000 in
set_option maxRecDepth 100000 in
theorem c_storeOrFetch {σ : z_St} {b : Nat} (l : Launch) (D : va_G) (cI : ClassId) (a : pAd) (hO : z_Ok σ) (hb : b < 64) : pCi l y_P_storeOrFetch w_P_storeOrFetch 3 63 D cI a [.ref a.1, .int (nI b)] σ (z_e2 σ (b / 8)) (nI (z_t2 (b / 8))) := by
  refine pci_of (cc := b_P_storeOrFetch) (maxL := 2) (ret := (some .int)) (by decide) rfl (Nat.le_of_ble_eq_true rfl) ?_
  intro p e s m below meth c ls K hr hlk hl hw
  have K : CallFix p m c b_P_storeOrFetch 2 s _ (_ :: T0) "PortProcessor" := K
  have hl : lv_has ls 2 [(0, .ref a.1), (1, .int (nI b))] := hl
  refine lv_iload_n K.1 K.2.1 d_P_storeOrFetch_0 rfl (lv_at hl 1 rfl) ?_
  refine nv_iconst (v := 3) K d_P_storeOrFetch_1 (by decide) ?_
  refine nv_ishr (M := 8) K (by omega) rfl (by omega) d_P_storeOrFetch_2 ?_
  rcases (by omega : (b / 8) = 0 ∨ (b / 8) = 1 ∨ (b / 8) = 2 ∨ (b / 8) = 3 ∨ (b / 8) = 4 ∨ (b / 8) = 5 ∨ (b / 8) = 6 ∨ (b / 8) = 7) with h1 | h1 | h1 | h1 | h1 | h1 | h1 | h1
  · refine nv_as K (congrArg nI h1) ?_
    refine nv_tabIn (a := 0) (tgt := 44) K d_P_storeOrFetch_3 (by decide) (by decide) (by decide) rfl rfl ?_
    refine lv_aload_n K.1 K.2.1 d_P_storeOrFetch_44 rfl (lv_at hl 0 rfl) ?_
    refine pg_memory K hw d_P_storeOrFetch_45 ?_
    refine lv_aload_n K.1 K.2.1 d_P_storeOrFetch_48 rfl (lv_at hl 0 rfl) ?_
    refine nv_iconst (v := 0) K d_P_storeOrFetch_49 (by decide) ?_
    refine pki K (c_readPair (σ := σ) (k := 0) l D cI a hO (by omega)) (cw_P_199 K (Nat.le_of_ble_eq_true rfl) (Nat.le_of_ble_eq_true rfl)) hw (va_recv (ci := 0) (q0 := 0) hw.2.2.2.1 hw.1 rfl rfl) rfl hl.1 rfl (Nat.le_of_ble_eq_true rfl) d_P_storeOrFetch_50 ⟨Nat.zero_le _, Nat.zero_le _⟩ (fun H locs hw => ?_)
    have hb2 : z_pg σ 0 < 65536 := z_pg_lt hO _
    refine lv_aload_n K.1 K.2.1 d_P_storeOrFetch_53 rfl (lv_at hl 0 rfl) ?_
    refine pg_registers K hw d_P_storeOrFetch_54 ?_
    refine nv_bipush (v := 7) K d_P_storeOrFetch_57 (by decide) ?_
    refine pl_reg (i := 7) (v := z_x_reg σ 7) K hw (by omega) rfl d_P_storeOrFetch_59 ?_
    have hb3 : z_x_reg σ 7 < 256 := z_k_reg hO _
    refine pkv K (c_write (σ := σ) (x := z_pg σ 0) (v := z_x_reg σ 7) l D cI a hO (by omega) (by omega)) (cw_P_46 K (Nat.le_of_ble_eq_true rfl) (Nat.le_of_ble_eq_true rfl)) hw (va_recv (ci := 1) (q0 := 1) hw.2.2.2.1 hw.1 rfl rfl) rfl hl.1 rfl (Nat.le_of_ble_eq_true rfl) d_P_storeOrFetch_60 ⟨Nat.zero_le _, Nat.zero_le _⟩ (fun H locs hw => ?_)
    have hO4 : z_Ok (z_wr σ (z_pg σ 0) (z_x_reg σ 7)) := z_ok_wr hO _ (by omega)
    refine nv_bipush (v := 7) K d_P_storeOrFetch_63 (by decide) ?_
    exact pri K hr hlk hw (by rw [h1]; rfl) (by rw [h1]; rfl) d_P_storeOrFetch_65
  · refine nv_as K (congrArg nI h1) ?_
    refine nv_tabIn (a := 1) (tgt := 66) K d_P_storeOrFetch_3 (by decide) (by decide) (by decide) rfl rfl ?_
    refine lv_aload_n K.1 K.2.1 d_P_storeOrFetch_66 rfl (lv_at hl 0 rfl) ?_
    refine pg_registers K hw d_P_storeOrFetch_67 ?_
    refine nv_bipush (v := 7) K d_P_storeOrFetch_70 (by decide) ?_
    refine lv_aload_n K.1 K.2.1 d_P_storeOrFetch_72 rfl (lv_at hl 0 rfl) ?_
    refine pg_memory K hw d_P_storeOrFetch_73 ?_
    refine lv_aload_n K.1 K.2.1 d_P_storeOrFetch_76 rfl (lv_at hl 0 rfl) ?_
    refine nv_iconst (v := 0) K d_P_storeOrFetch_77 (by decide) ?_
    refine pki K (c_readPair (σ := σ) (k := 0) l D cI a hO (by omega)) (cw_P_199 K (Nat.le_of_ble_eq_true rfl) (Nat.le_of_ble_eq_true rfl)) hw (va_recv (ci := 0) (q0 := 0) hw.2.2.2.1 hw.1 rfl rfl) rfl hl.1 rfl (Nat.le_of_ble_eq_true rfl) d_P_storeOrFetch_78 ⟨Nat.zero_le _, Nat.zero_le _⟩ (fun H locs hw => ?_)
    have hb5 : z_pg σ 0 < 65536 := z_pg_lt hO _
    refine pki K (c_read (σ := σ) (x := z_pg σ 0) l D cI a hO (by omega)) (cw_P_52 K (Nat.le_of_ble_eq_true rfl) (Nat.le_of_ble_eq_true rfl)) hw (va_recv (ci := 1) (q0 := 1) hw.2.2.2.1 hw.1 rfl rfl) rfl hl.1 rfl (Nat.le_of_ble_eq_true rfl) d_P_storeOrFetch_81 ⟨Nat.zero_le _, Nat.zero_le _⟩ (fun H locs hw => ?_)
    have hb6 : z_rd σ (z_pg σ 0) < 256 := z_rd_lt hO _
    refine ps_reg (i := 7) (v := z_rd σ (z_pg σ 0)) K hw (by omega) d_P_storeOrFetch_84 (fun H locs hw => ?_)
    have hO7 : z_Ok (z_s_reg σ (z_fs (z_x_reg σ) 7 (z_rd σ (z_pg σ 0)))) := z_ok_reg hO (z_fs_lt (z_k_reg hO) (by omega))
    refine nv_bipush (v := 7) K d_P_storeOrFetch_85 (by decide) ?_
    exact pri K hr hlk hw (by rw [h1]; rfl) (by rw [h1]; rfl) d_P_storeOrFetch_87
  · refine nv_as K (congrArg nI h1) ?_
    refine nv_tabIn (a := 2) (tgt := 88) K d_P_storeOrFetch_3 (by decide) (by decide) (by decide) rfl rfl ?_
    refine lv_aload_n K.1 K.2.1 d_P_storeOrFetch_88 rfl (lv_at hl 0 rfl) ?_
    refine pg_memory K hw d_P_storeOrFetch_89 ?_
    refine lv_aload_n K.1 K.2.1 d_P_storeOrFetch_92 rfl (lv_at hl 0 rfl) ?_
    refine nv_iconst (v := 1) K d_P_storeOrFetch_93 (by decide) ?_
    refine pki K (c_readPair (σ := σ) (k := 1) l D cI a hO (by omega)) (cw_P_199 K (Nat.le_of_ble_eq_true rfl) (Nat.le_of_ble_eq_true rfl)) hw (va_recv (ci := 0) (q0 := 0) hw.2.2.2.1 hw.1 rfl rfl) rfl hl.1 rfl (Nat.le_of_ble_eq_true rfl) d_P_storeOrFetch_94 ⟨Nat.zero_le _, Nat.zero_le _⟩ (fun H locs hw => ?_)
    have hb8 : z_pg σ 1 < 65536 := z_pg_lt hO _
    refine lv_aload_n K.1 K.2.1 d_P_storeOrFetch_97 rfl (lv_at hl 0 rfl) ?_
    refine pg_registers K hw d_P_storeOrFetch_98 ?_
    refine nv_bipush (v := 7) K d_P_storeOrFetch_101 (by decide) ?_
    refine pl_reg (i := 7) (v := z_x_reg σ 7) K hw (by omega) rfl d_P_storeOrFetch_103 ?_
    have hb9 : z_x_reg σ 7 < 256 := z_k_reg hO _
    refine pkv K (c_write (σ := σ) (x := z_pg σ 1) (v := z_x_reg σ 7) l D cI a hO (by omega) (by omega)) (cw_P_46 K (Nat.le_of_ble_eq_true rfl) (Nat.le_of_ble_eq_true rfl)) hw (va_recv (ci := 1) (q0 := 1) hw.2.2.2.1 hw.1 rfl rfl) rfl hl.1 rfl (Nat.le_of_ble_eq_true rfl) d_P_storeOrFetch_104 ⟨Nat.zero_le _, Nat.zero_le _⟩ (fun H locs hw => ?_)
    have hO10 : z_Ok (z_wr σ (z_pg σ 1) (z_x_reg σ 7)) := z_ok_wr hO _ (by omega)
    refine nv_bipush (v := 7) K d_P_storeOrFetch_107 (by decide) ?_
    exact pri K hr hlk hw (by rw [h1]; rfl) (by rw [h1]; rfl) d_P_storeOrFetch_109
  · refine nv_as K (congrArg nI h1) ?_
    refine nv_tabIn (a := 3) (tgt := 110) K d_P_storeOrFetch_3 (by decide) (by decide) (by decide) rfl rfl ?_
    refine lv_aload_n K.1 K.2.1 d_P_storeOrFetch_110 rfl (lv_at hl 0 rfl) ?_
    refine pg_registers K hw d_P_storeOrFetch_111 ?_
    refine nv_bipush (v := 7) K d_P_storeOrFetch_114 (by decide) ?_
    refine lv_aload_n K.1 K.2.1 d_P_storeOrFetch_116 rfl (lv_at hl 0 rfl) ?_
    refine pg_memory K hw d_P_storeOrFetch_117 ?_
    refine lv_aload_n K.1 K.2.1 d_P_storeOrFetch_120 rfl (lv_at hl 0 rfl) ?_
    refine nv_iconst (v := 1) K d_P_storeOrFetch_121 (by decide) ?_
    refine pki K (c_readPair (σ := σ) (k := 1) l D cI a hO (by omega)) (cw_P_199 K (Nat.le_of_ble_eq_true rfl) (Nat.le_of_ble_eq_true rfl)) hw (va_recv (ci := 0) (q0 := 0) hw.2.2.2.1 hw.1 rfl rfl) rfl hl.1 rfl (Nat.le_of_ble_eq_true rfl) d_P_storeOrFetch_122 ⟨Nat.zero_le _, Nat.zero_le _⟩ (fun H locs hw => ?_)
    have hb11 : z_pg σ 1 < 65536 := z_pg_lt hO _
    refine pki K (c_read (σ := σ) (x := z_pg σ 1) l D cI a hO (by omega)) (cw_P_52 K (Nat.le_of_ble_eq_true rfl) (Nat.le_of_ble_eq_true rfl)) hw (va_recv (ci := 1) (q0 := 1) hw.2.2.2.1 hw.1 rfl rfl) rfl hl.1 rfl (Nat.le_of_ble_eq_true rfl) d_P_storeOrFetch_125 ⟨Nat.zero_le _, Nat.zero_le _⟩ (fun H locs hw => ?_)
    have hb12 : z_rd σ (z_pg σ 1) < 256 := z_rd_lt hO _
    refine ps_reg (i := 7) (v := z_rd σ (z_pg σ 1)) K hw (by omega) d_P_storeOrFetch_128 (fun H locs hw => ?_)
    have hO13 : z_Ok (z_s_reg σ (z_fs (z_x_reg σ) 7 (z_rd σ (z_pg σ 1)))) := z_ok_reg hO (z_fs_lt (z_k_reg hO) (by omega))
    refine nv_bipush (v := 7) K d_P_storeOrFetch_129 (by decide) ?_
    exact pri K hr hlk hw (by rw [h1]; rfl) (by rw [h1]; rfl) d_P_storeOrFetch_131
  · refine nv_as K (congrArg nI h1) ?_
    refine nv_tabIn (a := 4) (tgt := 132) K d_P_storeOrFetch_3 (by decide) (by decide) (by decide) rfl rfl ?_
    refine lv_aload_n K.1 K.2.1 d_P_storeOrFetch_132 rfl (lv_at hl 0 rfl) ?_
    refine lv_aload_n K.1 K.2.1 d_P_storeOrFetch_133 rfl (lv_at hl 0 rfl) ?_
    refine pki K (c_nextTwoBytes (σ := σ) l D cI a hO) (cw_P_193 K (Nat.le_of_ble_eq_true rfl) (Nat.le_of_ble_eq_true rfl)) hw (va_recv (ci := 0) (q0 := 0) hw.2.2.2.1 hw.1 rfl rfl) rfl hl.1 rfl (Nat.le_of_ble_eq_true rfl) d_P_storeOrFetch_134 ⟨Nat.zero_le _, Nat.zero_le _⟩ (fun H locs hw => ?_)
    have hO14 : z_Ok (z_nn σ) := z_ok_nn hO
    have hb15 : z_nw σ < 65536 := z_nw_lt hO
    refine pki K (c_storeHl (σ := z_nn σ) (x := z_nw σ) l D cI a hO14 (by omega)) (cw_P_206 K (Nat.le_of_ble_eq_true rfl) (Nat.le_of_ble_eq_true rfl)) hw (va_recv (ci := 0) (q0 := 0) hw.2.2.2.1 hw.1 rfl rfl) rfl hl.1 rfl (Nat.le_of_ble_eq_true rfl) d_P_storeOrFetch_137 ⟨Nat.zero_le _, Nat.zero_le _⟩ (fun H locs hw => ?_)
    have hO16 : z_Ok (z_wr (z_wr (z_nn σ) (z_nw σ) (z_x_reg (z_nn σ) 5)) (((z_nw σ) + 1) % 65536) (z_x_reg (z_nn σ) 4)) := z_ok_wr (z_ok_wr hO14 _ (z_k_reg hO14 5)) _ (z_k_reg hO14 4)
    exact pri K hr hlk hw (by rw [h1]; rfl) (by rw [h1]; rfl) d_P_storeOrFetch_140
  · refine nv_as K (congrArg nI h1) ?_
    refine nv_tabIn (a := 5) (tgt := 141) K d_P_storeOrFetch_3 (by decide) (by decide) (by decide) rfl rfl ?_
    refine lv_aload_n K.1 K.2.1 d_P_storeOrFetch_141 rfl (lv_at hl 0 rfl) ?_
    refine lv_aload_n K.1 K.2.1 d_P_storeOrFetch_142 rfl (lv_at hl 0 rfl) ?_
    refine pki K (c_nextTwoBytes (σ := σ) l D cI a hO) (cw_P_193 K (Nat.le_of_ble_eq_true rfl) (Nat.le_of_ble_eq_true rfl)) hw (va_recv (ci := 0) (q0 := 0) hw.2.2.2.1 hw.1 rfl rfl) rfl hl.1 rfl (Nat.le_of_ble_eq_true rfl) d_P_storeOrFetch_143 ⟨Nat.zero_le _, Nat.zero_le _⟩ (fun H locs hw => ?_)
    have hO17 : z_Ok (z_nn σ) := z_ok_nn hO
    have hb18 : z_nw σ < 65536 := z_nw_lt hO
    refine pki K (c_fetchHl (σ := z_nn σ) (x := z_nw σ) l D cI a hO17 (by omega)) (cw_P_209 K (Nat.le_of_ble_eq_true rfl) (Nat.le_of_ble_eq_true rfl)) hw (va_recv (ci := 0) (q0 := 0) hw.2.2.2.1 hw.1 rfl rfl) rfl hl.1 rfl (Nat.le_of_ble_eq_true rfl) d_P_storeOrFetch_146 ⟨Nat.zero_le _, Nat.zero_le _⟩ (fun H locs hw => ?_)
    have hO19 : z_Ok (z_s_reg (z_nn σ) (z_fs (z_fs (z_x_reg (z_nn σ)) 5 (z_rd (z_nn σ) (z_nw σ))) 4 (z_rd (z_nn σ) (((z_nw σ) + 1) % 65536)))) := z_ok_reg hO17 (z_fs_lt (z_fs_lt (z_k_reg hO17) (z_rd_lt hO17 _)) (z_rd_lt hO17 _))
    exact pri K hr hlk hw (by rw [h1]; rfl) (by rw [h1]; rfl) d_P_storeOrFetch_149
  · refine nv_as K (congrArg nI h1) ?_
    refine nv_tabIn (a := 6) (tgt := 150) K d_P_storeOrFetch_3 (by decide) (by decide) (by decide) rfl rfl ?_
    refine lv_aload_n K.1 K.2.1 d_P_storeOrFetch_150 rfl (lv_at hl 0 rfl) ?_
    refine pg_memory K hw d_P_storeOrFetch_151 ?_
    refine lv_aload_n K.1 K.2.1 d_P_storeOrFetch_154 rfl (lv_at hl 0 rfl) ?_
    refine pki K (c_nextTwoBytes (σ := σ) l D cI a hO) (cw_P_193 K (Nat.le_of_ble_eq_true rfl) (Nat.le_of_ble_eq_true rfl)) hw (va_recv (ci := 0) (q0 := 0) hw.2.2.2.1 hw.1 rfl rfl) rfl hl.1 rfl (Nat.le_of_ble_eq_true rfl) d_P_storeOrFetch_155 ⟨Nat.zero_le _, Nat.zero_le _⟩ (fun H locs hw => ?_)
    have hO20 : z_Ok (z_nn σ) := z_ok_nn hO
    have hb21 : z_nw σ < 65536 := z_nw_lt hO
    refine lv_aload_n K.1 K.2.1 d_P_storeOrFetch_158 rfl (lv_at hl 0 rfl) ?_
    refine pg_registers K hw d_P_storeOrFetch_159 ?_
    refine nv_bipush (v := 7) K d_P_storeOrFetch_162 (by decide) ?_
    refine pl_reg (i := 7) (v := z_x_reg σ 7) K hw (by omega) rfl d_P_storeOrFetch_164 ?_
    have hb22 : z_x_reg σ 7 < 256 := z_k_reg hO _
    refine pkv K (c_write (σ := z_nn σ) (x := z_nw σ) (v := z_x_reg σ 7) l D cI a hO20 (by omega) (by omega)) (cw_P_46 K (Nat.le_of_ble_eq_true rfl) (Nat.le_of_ble_eq_true rfl)) hw (va_recv (ci := 1) (q0 := 1) hw.2.2.2.1 hw.1 rfl rfl) rfl hl.1 rfl (Nat.le_of_ble_eq_true rfl) d_P_storeOrFetch_165 ⟨Nat.zero_le _, Nat.zero_le _⟩ (fun H locs hw => ?_)
    have hO23 : z_Ok (z_wr (z_nn σ) (z_nw σ) (z_x_reg σ 7)) := z_ok_wr hO20 _ (by omega)
    refine nv_bipush (v := 13) K d_P_storeOrFetch_168 (by decide) ?_
    exact pri K hr hlk hw (by rw [h1]; rfl) (by rw [h1]; rfl) d_P_storeOrFetch_170
  · refine nv_as K (congrArg nI h1) ?_
    refine nv_tabOut (a := 7) (tgt := 171) K d_P_storeOrFetch_3 (by decide) (by decide) rfl ?_
    refine lv_aload_n K.1 K.2.1 d_P_storeOrFetch_171 rfl (lv_at hl 0 rfl) ?_
    refine pg_registers K hw d_P_storeOrFetch_172 ?_
    refine nv_bipush (v := 7) K d_P_storeOrFetch_175 (by decide) ?_
    refine lv_aload_n K.1 K.2.1 d_P_storeOrFetch_177 rfl (lv_at hl 0 rfl) ?_
    refine pg_memory K hw d_P_storeOrFetch_178 ?_
    refine lv_aload_n K.1 K.2.1 d_P_storeOrFetch_181 rfl (lv_at hl 0 rfl) ?_
    refine pki K (c_nextTwoBytes (σ := σ) l D cI a hO) (cw_P_193 K (Nat.le_of_ble_eq_true rfl) (Nat.le_of_ble_eq_true rfl)) hw (va_recv (ci := 0) (q0 := 0) hw.2.2.2.1 hw.1 rfl rfl) rfl hl.1 rfl (Nat.le_of_ble_eq_true rfl) d_P_storeOrFetch_182 ⟨Nat.zero_le _, Nat.zero_le _⟩ (fun H locs hw => ?_)
    have hO24 : z_Ok (z_nn σ) := z_ok_nn hO
    have hb25 : z_nw σ < 65536 := z_nw_lt hO
    refine pki K (c_read (σ := z_nn σ) (x := z_nw σ) l D cI a hO24 (by omega)) (cw_P_52 K (Nat.le_of_ble_eq_true rfl) (Nat.le_of_ble_eq_true rfl)) hw (va_recv (ci := 1) (q0 := 1) hw.2.2.2.1 hw.1 rfl rfl) rfl hl.1 rfl (Nat.le_of_ble_eq_true rfl) d_P_storeOrFetch_185 ⟨Nat.zero_le _, Nat.zero_le _⟩ (fun H locs hw => ?_)
    refine nv_as K (y := nI (z_rd σ (z_nw σ))) rfl ?_
    have hb26 : z_rd σ (z_nw σ) < 256 := z_rd_lt hO24 _
    refine ps_reg (i := 7) (v := z_rd σ (z_nw σ)) K hw (by omega) d_P_storeOrFetch_188 (fun H locs hw => ?_)
    have hO27 : z_Ok (z_s_reg (z_nn σ) (z_fs (z_x_reg σ) 7 (z_rd σ (z_nw σ)))) := z_ok_reg hO24 (z_fs_lt (z_k_reg hO) (by omega))
    refine nv_bipush (v := 13) K d_P_storeOrFetch_189 (by decide) ?_
    exact pri K hr hlk hw (by rw [h1]; rfl) (by rw [h1]; rfl) d_P_storeOrFetch_191
end
section
set_option maxHeartbeats 4000000 in
set_option maxRecDepth 100000 in
theorem c_raise {σ : z_St} {b : Nat} (l : Launch) (D : va_G) (cI : ClassId) (a : pAd) (hO : z_Ok σ) (hb : b < 256) : pCi l y_P_raise w_P_raise 3 63 D cI a [.ref a.1, .int (nI b)] σ (z_rs (z_up σ (z_rg σ (b / 8 % 8))) (b / 8 % 8) ((z_rg σ (b / 8 % 8) + 1) % 256)) (nI (if b / 8 % 8 = 6 then 10 else 5)) := by
  refine pci_of (cc := b_P_raise) (maxL := 3) (ret := (some .int)) (by decide) rfl (Nat.le_of_ble_eq_true rfl) ?_
  intro p e s m below meth c ls K hr hlk hl hw
  have K : CallFix p m c b_P_raise 3 s _ (_ :: T0) "PortProcessor" := K
  have hl : lv_has ls 3 [(0, .ref a.1), (1, .int (nI b))] := hl
  refine lv_iload_n K.1 K.2.1 d_P_raise_0 rfl (lv_at hl 1 rfl) ?_
  refine psi K (c_targetOf (σ := σ) (b := b) l D cI a hO (by omega)) (cw_P_212 K (Nat.le_of_ble_eq_true rfl) (Nat.le_of_ble_eq_true rfl)) hw rfl hl.1 rfl (Nat.le_of_ble_eq_true rfl) d_P_raise_1 ⟨Nat.zero_le _, Nat.zero_le _⟩ (fun H locs hw => ?_)
  refine lv_istore_n (lv' := [(2, .int (nI (b / 8 % 8))), (0, .ref a.1), (1, .int (nI b))]) K.1 K.2.1 d_P_raise_4 rfl hl (by decide) rfl (fun ls hl => ?_)
  refine lv_aload_n K.1 K.2.1 d_P_raise_5 rfl (lv_at hl 1 rfl) ?_
  refine lv_iload_n K.1 K.2.1 d_P_raise_6 rfl (lv_at hl 0 rfl) ?_
  refine lv_aload_n K.1 K.2.1 d_P_raise_7 rfl (lv_at hl 1 rfl) ?_
  refine pg_flags K hw d_P_raise_8 ?_
  refine lv_aload_n K.1 K.2.1 d_P_raise_11 rfl (lv_at hl 1 rfl) ?_
  refine lv_iload_n K.1 K.2.1 d_P_raise_12 rfl (lv_at hl 0 rfl) ?_
  refine pki K (c_readRegister (σ := σ) (r := b / 8 % 8) l D cI a hO (by omega)) (cw_P_91 K (Nat.le_of_ble_eq_true rfl) (Nat.le_of_ble_eq_true rfl)) hw (va_recv (ci := 0) (q0 := 0) hw.2.2.2.1 hw.1 rfl rfl) rfl hl.1 rfl (Nat.le_of_ble_eq_true rfl) d_P_raise_13 ⟨Nat.zero_le _, Nat.zero_le _⟩ (fun H locs hw => ?_)
  have hb1 : z_rg σ (b / 8 % 8) < 256 := z_rg_lt hO _
  refine pki K (c_raised (σ := σ) (v := z_rg σ (b / 8 % 8)) l D cI a hO (by omega)) (cw_P_215 K (Nat.le_of_ble_eq_true rfl) (Nat.le_of_ble_eq_true rfl)) hw (va_recv (ci := 2) (q0 := 2) hw.2.2.2.1 hw.1 rfl rfl) rfl hl.1 rfl (Nat.le_of_ble_eq_true rfl) d_P_raise_16 ⟨Nat.zero_le _, Nat.zero_le _⟩ (fun H locs hw => ?_)
  have hO2 : z_Ok (z_up σ (z_rg σ (b / 8 % 8))) := z_ok_up hO _
  refine pkv K (c_writeRegister (σ := z_up σ (z_rg σ (b / 8 % 8))) (r := b / 8 % 8) (v := ((z_rg σ (b / 8 % 8)) + 1) % 256) l D cI a hO2 (by omega) (by omega)) (cw_P_218 K (Nat.le_of_ble_eq_true rfl) (Nat.le_of_ble_eq_true rfl)) hw (va_recv (ci := 0) (q0 := 0) hw.2.2.2.1 hw.1 rfl rfl) rfl hl.1 rfl (Nat.le_of_ble_eq_true rfl) d_P_raise_19 ⟨Nat.zero_le _, Nat.zero_le _⟩ (fun H locs hw => ?_)
  have hO3 : z_Ok (z_rs (z_up σ (z_rg σ (b / 8 % 8))) (b / 8 % 8) (((z_rg σ (b / 8 % 8)) + 1) % 256)) := z_ok_rs hO2 _ (by omega)
  refine lv_iload_n K.1 K.2.1 d_P_raise_22 rfl (lv_at hl 0 rfl) ?_
  refine nv_bipush (v := 6) K d_P_raise_23 (by decide) ?_
  refine nf_icmp_ne (u := 5) (v := 10) (Y := 34) K (by omega) (by omega) d_P_raise_25 rfl (fun _ k => nv_iconst (v := 5) K d_P_raise_33 (by decide) k) (fun _ k => nv_bipush (v := 10) K d_P_raise_28 (by decide) (lv_goto K.1 K.2.1 d_P_raise_30 rfl k)) ?_
  have hb4 : (if (b / 8 % 8) = 6 then 10 else 5) < 11 := z_ite_ltB _ (by omega) (by omega)
  exact pri K hr hlk hw (by first | rfl | (simp; done) | (skip; rfl)) (by first | rfl | (simp; done) | (congr 1; omega) | (simp; omega)) d_P_raise_34
set_option maxHeartbeats 4000000 in
set_option maxRecDepth 100000 in
theorem c_lower {σ : z_St} {b : Nat} (l : Launch) (D : va_G) (cI : ClassId) (a : pAd) (hO : z_Ok σ) (hb : b < 256) : pCi l y_P_lower w_P_lower 3 63 D cI a [.ref a.1, .int (nI b)] σ (z_rs (z_dn σ (z_rg σ (b / 8 % 8))) (b / 8 % 8) ((z_rg σ (b / 8 % 8) + 255) % 256)) (nI (if b / 8 % 8 = 6 then 10 else 5)) := by
  refine pci_of (cc := b_P_lower) (maxL := 3) (ret := (some .int)) (by decide) rfl (Nat.le_of_ble_eq_true rfl) ?_
  intro p e s m below meth c ls K hr hlk hl hw
  have K : CallFix p m c b_P_lower 3 s _ (_ :: T0) "PortProcessor" := K
  have hl : lv_has ls 3 [(0, .ref a.1), (1, .int (nI b))] := hl
  refine lv_iload_n K.1 K.2.1 d_P_lower_0 rfl (lv_at hl 1 rfl) ?_
  refine psi K (c_targetOf (σ := σ) (b := b) l D cI a hO (by omega)) (cw_P_212 K (Nat.le_of_ble_eq_true rfl) (Nat.le_of_ble_eq_true rfl)) hw rfl hl.1 rfl (Nat.le_of_ble_eq_true rfl) d_P_lower_1 ⟨Nat.zero_le _, Nat.zero_le _⟩ (fun H locs hw => ?_)
  refine lv_istore_n (lv' := [(2, .int (nI (b / 8 % 8))), (0, .ref a.1), (1, .int (nI b))]) K.1 K.2.1 d_P_lower_4 rfl hl (by decide) rfl (fun ls hl => ?_)
  refine lv_aload_n K.1 K.2.1 d_P_lower_5 rfl (lv_at hl 1 rfl) ?_
  refine lv_iload_n K.1 K.2.1 d_P_lower_6 rfl (lv_at hl 0 rfl) ?_
  refine lv_aload_n K.1 K.2.1 d_P_lower_7 rfl (lv_at hl 1 rfl) ?_
  refine pg_flags K hw d_P_lower_8 ?_
  refine lv_aload_n K.1 K.2.1 d_P_lower_11 rfl (lv_at hl 1 rfl) ?_
  refine lv_iload_n K.1 K.2.1 d_P_lower_12 rfl (lv_at hl 0 rfl) ?_
  refine pki K (c_readRegister (σ := σ) (r := b / 8 % 8) l D cI a hO (by omega)) (cw_P_91 K (Nat.le_of_ble_eq_true rfl) (Nat.le_of_ble_eq_true rfl)) hw (va_recv (ci := 0) (q0 := 0) hw.2.2.2.1 hw.1 rfl rfl) rfl hl.1 rfl (Nat.le_of_ble_eq_true rfl) d_P_lower_13 ⟨Nat.zero_le _, Nat.zero_le _⟩ (fun H locs hw => ?_)
  have hb1 : z_rg σ (b / 8 % 8) < 256 := z_rg_lt hO _
  refine pki K (c_lowered (σ := σ) (v := z_rg σ (b / 8 % 8)) l D cI a hO (by omega)) (cw_P_221 K (Nat.le_of_ble_eq_true rfl) (Nat.le_of_ble_eq_true rfl)) hw (va_recv (ci := 2) (q0 := 2) hw.2.2.2.1 hw.1 rfl rfl) rfl hl.1 rfl (Nat.le_of_ble_eq_true rfl) d_P_lower_16 ⟨Nat.zero_le _, Nat.zero_le _⟩ (fun H locs hw => ?_)
  have hO2 : z_Ok (z_dn σ (z_rg σ (b / 8 % 8))) := z_ok_dn hO _
  refine pkv K (c_writeRegister (σ := z_dn σ (z_rg σ (b / 8 % 8))) (r := b / 8 % 8) (v := ((z_rg σ (b / 8 % 8)) + 255) % 256) l D cI a hO2 (by omega) (by omega)) (cw_P_218 K (Nat.le_of_ble_eq_true rfl) (Nat.le_of_ble_eq_true rfl)) hw (va_recv (ci := 0) (q0 := 0) hw.2.2.2.1 hw.1 rfl rfl) rfl hl.1 rfl (Nat.le_of_ble_eq_true rfl) d_P_lower_19 ⟨Nat.zero_le _, Nat.zero_le _⟩ (fun H locs hw => ?_)
  have hO3 : z_Ok (z_rs (z_dn σ (z_rg σ (b / 8 % 8))) (b / 8 % 8) (((z_rg σ (b / 8 % 8)) + 255) % 256)) := z_ok_rs hO2 _ (by omega)
  refine lv_iload_n K.1 K.2.1 d_P_lower_22 rfl (lv_at hl 0 rfl) ?_
  refine nv_bipush (v := 6) K d_P_lower_23 (by decide) ?_
  refine nf_icmp_ne (u := 5) (v := 10) (Y := 34) K (by omega) (by omega) d_P_lower_25 rfl (fun _ k => nv_iconst (v := 5) K d_P_lower_33 (by decide) k) (fun _ k => nv_bipush (v := 10) K d_P_lower_28 (by decide) (lv_goto K.1 K.2.1 d_P_lower_30 rfl k)) ?_
  have hb4 : (if (b / 8 % 8) = 6 then 10 else 5) < 11 := z_ite_ltB _ (by omega) (by omega)
  exact pri K hr hlk hw (by first | rfl | (simp; done) | (skip; rfl)) (by first | rfl | (simp; done) | (congr 1; omega) | (simp; omega)) d_P_lower_34
set_option maxHeartbeats 4000000 in
set_option maxRecDepth 100000 in
theorem c_fillRegister {σ : z_St} {b : Nat} (l : Launch) (D : va_G) (cI : ClassId) (a : pAd) (hO : z_Ok σ) (hb : b < 256) : pCi l y_P_fillRegister w_P_fillRegister 2 44 D cI a [.ref a.1, .int (nI b)] σ (z_rs (z_nx σ) (b / 8 % 8) (z_nb σ)) (nI (if b / 8 % 8 = 6 then 10 else 7)) := by
  refine pci_of (cc := b_P_fillRegister) (maxL := 3) (ret := (some .int)) (by decide) rfl (Nat.le_of_ble_eq_true rfl) ?_
  intro p e s m below meth c ls K hr hlk hl hw
  have K : CallFix p m c b_P_fillRegister 3 s _ (_ :: T0) "PortProcessor" := K
  have hl : lv_has ls 3 [(0, .ref a.1), (1, .int (nI b))] := hl
  refine lv_iload_n K.1 K.2.1 d_P_fillRegister_0 rfl (lv_at hl 1 rfl) ?_
  refine psi K (c_targetOf (σ := σ) (b := b) l D cI a hO (by omega)) (cw_P_212 K (Nat.le_of_ble_eq_true rfl) (Nat.le_of_ble_eq_true rfl)) hw rfl hl.1 rfl (Nat.le_of_ble_eq_true rfl) d_P_fillRegister_1 ⟨Nat.zero_le _, Nat.zero_le _⟩ (fun H locs hw => ?_)
  refine lv_istore_n (lv' := [(2, .int (nI (b / 8 % 8))), (0, .ref a.1), (1, .int (nI b))]) K.1 K.2.1 d_P_fillRegister_4 rfl hl (by decide) rfl (fun ls hl => ?_)
  refine lv_aload_n K.1 K.2.1 d_P_fillRegister_5 rfl (lv_at hl 1 rfl) ?_
  refine lv_iload_n K.1 K.2.1 d_P_fillRegister_6 rfl (lv_at hl 0 rfl) ?_
  refine lv_aload_n K.1 K.2.1 d_P_fillRegister_7 rfl (lv_at hl 1 rfl) ?_
  refine pki K (c_nextByte (σ := σ) l D cI a hO) (cw_P_121 K (Nat.le_of_ble_eq_true rfl) (Nat.le_of_ble_eq_true rfl)) hw (va_recv (ci := 0) (q0 := 0) hw.2.2.2.1 hw.1 rfl rfl) rfl hl.1 rfl (Nat.le_of_ble_eq_true rfl) d_P_fillRegister_8 ⟨Nat.zero_le _, Nat.zero_le _⟩ (fun H locs hw => ?_)
  have hO1 : z_Ok (z_nx σ) := z_ok_nx hO
  have hb2 : z_nb σ < 256 := z_nb_lt hO
  refine pkv K (c_writeRegister (σ := z_nx σ) (r := b / 8 % 8) (v := z_nb σ) l D cI a hO1 (by omega) (by omega)) (cw_P_218 K (Nat.le_of_ble_eq_true rfl) (Nat.le_of_ble_eq_true rfl)) hw (va_recv (ci := 0) (q0 := 0) hw.2.2.2.1 hw.1 rfl rfl) rfl hl.1 rfl (Nat.le_of_ble_eq_true rfl) d_P_fillRegister_11 ⟨Nat.zero_le _, Nat.zero_le _⟩ (fun H locs hw => ?_)
  have hO3 : z_Ok (z_rs (z_nx σ) (b / 8 % 8) (z_nb σ)) := z_ok_rs hO1 _ (by omega)
  refine lv_iload_n K.1 K.2.1 d_P_fillRegister_14 rfl (lv_at hl 0 rfl) ?_
  refine nv_bipush (v := 6) K d_P_fillRegister_15 (by decide) ?_
  refine nf_icmp_ne (u := 7) (v := 10) (Y := 27) K (by omega) (by omega) d_P_fillRegister_17 rfl (fun _ k => nv_bipush (v := 7) K d_P_fillRegister_25 (by decide) k) (fun _ k => nv_bipush (v := 10) K d_P_fillRegister_20 (by decide) (lv_goto K.1 K.2.1 d_P_fillRegister_22 rfl k)) ?_
  have hb4 : (if (b / 8 % 8) = 6 then 10 else 7) < 11 := z_ite_ltB _ (by omega) (by omega)
  exact pri K hr hlk hw (by first | rfl | (simp; done) | (skip; rfl)) (by first | rfl | (simp; done) | (congr 1; omega) | (simp; omega)) d_P_fillRegister_27
end
section
set_option maxHeartbeats 4000000 in
set_option maxRecDepth 100000 in
theorem c_workOnA {σ : z_St} {b : Nat} (l : Launch) (D : va_G) (cI : ClassId) (a : pAd) (hO : z_Ok σ) (hb : b < 64) : pCi l y_P_workOnA w_P_workOnA 3 65 D cI a [.ref a.1, .int (nI b)] σ (z_e7 σ (b / 8)) (nI 4) := by
  refine pci_of (cc := b_P_workOnA) (maxL := 3) (ret := (some .int)) (by decide) rfl (Nat.le_of_ble_eq_true rfl) ?_
  intro p e s m below meth c ls K hr hlk hl hw
  have K : CallFix p m c b_P_workOnA 3 s _ (_ :: T0) "PortProcessor" := K
  have hl : lv_has ls 3 [(0, .ref a.1), (1, .int (nI b))] := hl
  refine lv_aload_n K.1 K.2.1 d_P_workOnA_0 rfl (lv_at hl 0 rfl) ?_
  refine pg_registers K hw d_P_workOnA_1 ?_
  refine nv_bipush (v := 7) K d_P_workOnA_4 (by decide) ?_
  refine pl_reg (i := 7) (v := z_x_reg σ 7) K hw (by omega) rfl d_P_workOnA_6 ?_
  have hb1 : z_x_reg σ 7 < 256 := z_k_reg hO _
  refine lv_istore_n (lv' := [(2, .int (nI (z_x_reg σ 7))), (0, .ref a.1), (1, .int (nI b))]) K.1 K.2.1 d_P_workOnA_7 rfl hl (by decide) rfl (fun ls hl => ?_)
  refine lv_iload_n K.1 K.2.1 d_P_workOnA_8 rfl (lv_at hl 2 rfl) ?_
  refine nv_iconst (v := 3) K d_P_workOnA_9 (by decide) ?_
  refine nv_ishr (M := 8) K (by omega) rfl (by omega) d_P_workOnA_10 ?_
  rcases (by omega : (b / 8) = 0 ∨ (b / 8) = 1 ∨ (b / 8) = 2 ∨ (b / 8) = 3 ∨ (b / 8) = 4 ∨ (b / 8) = 5 ∨ (b / 8) = 6 ∨ (b / 8) = 7) with h2 | h2 | h2 | h2 | h2 | h2 | h2 | h2
  · refine nv_as K (congrArg nI h2) ?_
    refine nv_tabIn (a := 0) (tgt := 52) K d_P_workOnA_11 (by decide) (by decide) (by decide) rfl rfl ?_
    refine lv_aload_n K.1 K.2.1 d_P_workOnA_52 rfl (lv_at hl 1 rfl) ?_
    refine pg_registers K hw d_P_workOnA_53 ?_
    refine nv_bipush (v := 7) K d_P_workOnA_56 (by decide) ?_
    refine lv_aload_n K.1 K.2.1 d_P_workOnA_58 rfl (lv_at hl 1 rfl) ?_
    refine pg_flags K hw d_P_workOnA_59 ?_
    refine lv_iload_n K.1 K.2.1 d_P_workOnA_62 rfl (lv_at hl 0 rfl) ?_
    refine lv_iload_n K.1 K.2.1 d_P_workOnA_63 rfl (lv_at hl 0 rfl) ?_
    refine nv_bipush (v := 7) K d_P_workOnA_64 (by decide) ?_
    refine nv_ishr (M := 128) K (by omega) rfl (by omega) d_P_workOnA_66 ?_
    refine pki K (c_turnedLeft (σ := σ) (v := z_x_reg σ 7) (z := (z_x_reg σ 7) / 128) l D cI a hO (by omega) (by omega)) (cw_P_224 K (Nat.le_of_ble_eq_true rfl) (Nat.le_of_ble_eq_true rfl)) hw (va_recv (ci := 2) (q0 := 2) hw.2.2.2.1 hw.1 rfl rfl) rfl hl.1 rfl (Nat.le_of_ble_eq_true rfl) d_P_workOnA_67 ⟨Nat.zero_le _, Nat.zero_le _⟩ (fun H locs hw => ?_)
    have hO3 : z_Ok (z_s_ca σ ((z_x_reg σ 7) / 128)) := z_ok_ca hO (by omega)
    have hb4 : (z_x_reg σ 7) % 128 * 2 + ((z_x_reg σ 7) / 128) < 256 := (by omega)
    refine ps_reg (i := 7) (v := (z_x_reg σ 7) % 128 * 2 + ((z_x_reg σ 7) / 128)) K hw (by omega) d_P_workOnA_70 (fun H locs hw => ?_)
    have hO5 : z_Ok (z_s_reg (z_s_ca σ ((z_x_reg σ 7) / 128)) (z_fs (z_x_reg σ) 7 ((z_x_reg σ 7) % 128 * 2 + ((z_x_reg σ 7) / 128)))) := z_ok_reg hO3 (z_fs_lt (z_k_reg hO) (by omega))
    refine lv_goto K.1 K.2.1 d_P_workOnA_71 rfl ?_
    refine nv_iconst (v := 4) K d_P_workOnA_211 (by decide) ?_
    exact pri K hr hlk hw (by rw [h2]; first | rfl | (rw [nz_not (z_k_ca hO)]; rfl)) (by first | rfl | (simp [h2]; done) | (congr 1; omega) | (simp [h2]; omega)) d_P_workOnA_212
  · refine nv_as K (congrArg nI h2) ?_
    refine nv_tabIn (a := 1) (tgt := 74) K d_P_workOnA_11 (by decide) (by decide) (by decide) rfl rfl ?_
    refine lv_aload_n K.1 K.2.1 d_P_workOnA_74 rfl (lv_at hl 1 rfl) ?_
    refine pg_registers K hw d_P_workOnA_75 ?_
    refine nv_bipush (v := 7) K d_P_workOnA_78 (by decide) ?_
    refine lv_aload_n K.1 K.2.1 d_P_workOnA_80 rfl (lv_at hl 1 rfl) ?_
    refine pg_flags K hw d_P_workOnA_81 ?_
    refine lv_iload_n K.1 K.2.1 d_P_workOnA_84 rfl (lv_at hl 0 rfl) ?_
    refine lv_iload_n K.1 K.2.1 d_P_workOnA_85 rfl (lv_at hl 0 rfl) ?_
    refine nv_iconst (v := 1) K d_P_workOnA_86 (by decide) ?_
    refine nv_mask (M := 2) K 1 rfl rfl d_P_workOnA_87 ?_
    refine pki K (c_turnedRight (σ := σ) (v := z_x_reg σ 7) (z := (z_x_reg σ 7) % 2) l D cI a hO (by omega) (by omega)) (cw_P_228 K (Nat.le_of_ble_eq_true rfl) (Nat.le_of_ble_eq_true rfl)) hw (va_recv (ci := 2) (q0 := 2) hw.2.2.2.1 hw.1 rfl rfl) rfl hl.1 rfl (Nat.le_of_ble_eq_true rfl) d_P_workOnA_88 ⟨Nat.zero_le _, Nat.zero_le _⟩ (fun H locs hw => ?_)
    have hO6 : z_Ok (z_s_ca σ ((z_x_reg σ 7) % 2)) := z_ok_ca hO (by omega)
    have hb7 : (z_x_reg σ 7) / 2 + ((z_x_reg σ 7) % 2) * 128 < 256 := (by omega)
    refine ps_reg (i := 7) (v := (z_x_reg σ 7) / 2 + ((z_x_reg σ 7) % 2) * 128) K hw (by omega) d_P_workOnA_91 (fun H locs hw => ?_)
    have hO8 : z_Ok (z_s_reg (z_s_ca σ ((z_x_reg σ 7) % 2)) (z_fs (z_x_reg σ) 7 ((z_x_reg σ 7) / 2 + ((z_x_reg σ 7) % 2) * 128))) := z_ok_reg hO6 (z_fs_lt (z_k_reg hO) (by omega))
    refine lv_goto K.1 K.2.1 d_P_workOnA_92 rfl ?_
    refine nv_iconst (v := 4) K d_P_workOnA_211 (by decide) ?_
    exact pri K hr hlk hw (by rw [h2]; first | rfl | (rw [nz_not (z_k_ca hO)]; rfl)) (by first | rfl | (simp [h2]; done) | (congr 1; omega) | (simp [h2]; omega)) d_P_workOnA_212
  · refine nv_as K (congrArg nI h2) ?_
    refine nv_tabIn (a := 2) (tgt := 95) K d_P_workOnA_11 (by decide) (by decide) (by decide) rfl rfl ?_
    refine lv_aload_n K.1 K.2.1 d_P_workOnA_95 rfl (lv_at hl 1 rfl) ?_
    refine pg_registers K hw d_P_workOnA_96 ?_
    refine nv_bipush (v := 7) K d_P_workOnA_99 (by decide) ?_
    refine lv_aload_n K.1 K.2.1 d_P_workOnA_101 rfl (lv_at hl 1 rfl) ?_
    refine pg_flags K hw d_P_workOnA_102 ?_
    refine lv_iload_n K.1 K.2.1 d_P_workOnA_105 rfl (lv_at hl 0 rfl) ?_
    refine lv_aload_n K.1 K.2.1 d_P_workOnA_106 rfl (lv_at hl 1 rfl) ?_
    refine pg_flags K hw d_P_workOnA_107 ?_
    refine pki K (c_carryBit (σ := σ) l D cI a hO) (cw_P_231 K (Nat.le_of_ble_eq_true rfl) (Nat.le_of_ble_eq_true rfl)) hw (va_recv (ci := 2) (q0 := 2) hw.2.2.2.1 hw.1 rfl rfl) rfl hl.1 rfl (Nat.le_of_ble_eq_true rfl) d_P_workOnA_110 ⟨Nat.zero_le _, Nat.zero_le _⟩ (fun H locs hw => ?_)
    have hb9 : z_x_ca σ < 2 := z_k_ca hO
    refine pki K (c_turnedLeft (σ := σ) (v := z_x_reg σ 7) (z := z_x_ca σ) l D cI a hO (by omega) (by omega)) (cw_P_224 K (Nat.le_of_ble_eq_true rfl) (Nat.le_of_ble_eq_true rfl)) hw (va_recv (ci := 2) (q0 := 2) hw.2.2.2.1 hw.1 rfl rfl) rfl hl.1 rfl (Nat.le_of_ble_eq_true rfl) d_P_workOnA_113 ⟨Nat.zero_le _, Nat.zero_le _⟩ (fun H locs hw => ?_)
    have hO10 : z_Ok (z_s_ca σ ((z_x_reg σ 7) / 128)) := z_ok_ca hO (by omega)
    have hb11 : (z_x_reg σ 7) % 128 * 2 + (z_x_ca σ) < 256 := (by omega)
    refine ps_reg (i := 7) (v := (z_x_reg σ 7) % 128 * 2 + (z_x_ca σ)) K hw (by omega) d_P_workOnA_116 (fun H locs hw => ?_)
    have hO12 : z_Ok (z_s_reg (z_s_ca σ ((z_x_reg σ 7) / 128)) (z_fs (z_x_reg σ) 7 ((z_x_reg σ 7) % 128 * 2 + (z_x_ca σ)))) := z_ok_reg hO10 (z_fs_lt (z_k_reg hO) (by omega))
    refine lv_goto K.1 K.2.1 d_P_workOnA_117 rfl ?_
    refine nv_iconst (v := 4) K d_P_workOnA_211 (by decide) ?_
    exact pri K hr hlk hw (by rw [h2]; first | rfl | (rw [nz_not (z_k_ca hO)]; rfl)) (by first | rfl | (simp [h2]; done) | (congr 1; omega) | (simp [h2]; omega)) d_P_workOnA_212
  · refine nv_as K (congrArg nI h2) ?_
    refine nv_tabIn (a := 3) (tgt := 120) K d_P_workOnA_11 (by decide) (by decide) (by decide) rfl rfl ?_
    refine lv_aload_n K.1 K.2.1 d_P_workOnA_120 rfl (lv_at hl 1 rfl) ?_
    refine pg_registers K hw d_P_workOnA_121 ?_
    refine nv_bipush (v := 7) K d_P_workOnA_124 (by decide) ?_
    refine lv_aload_n K.1 K.2.1 d_P_workOnA_126 rfl (lv_at hl 1 rfl) ?_
    refine pg_flags K hw d_P_workOnA_127 ?_
    refine lv_iload_n K.1 K.2.1 d_P_workOnA_130 rfl (lv_at hl 0 rfl) ?_
    refine lv_aload_n K.1 K.2.1 d_P_workOnA_131 rfl (lv_at hl 1 rfl) ?_
    refine pg_flags K hw d_P_workOnA_132 ?_
    refine pki K (c_carryBit (σ := σ) l D cI a hO) (cw_P_231 K (Nat.le_of_ble_eq_true rfl) (Nat.le_of_ble_eq_true rfl)) hw (va_recv (ci := 2) (q0 := 2) hw.2.2.2.1 hw.1 rfl rfl) rfl hl.1 rfl (Nat.le_of_ble_eq_true rfl) d_P_workOnA_135 ⟨Nat.zero_le _, Nat.zero_le _⟩ (fun H locs hw => ?_)
    have hb13 : z_x_ca σ < 2 := z_k_ca hO
    refine pki K (c_turnedRight (σ := σ) (v := z_x_reg σ 7) (z := z_x_ca σ) l D cI a hO (by omega) (by omega)) (cw_P_228 K (Nat.le_of_ble_eq_true rfl) (Nat.le_of_ble_eq_true rfl)) hw (va_recv (ci := 2) (q0 := 2) hw.2.2.2.1 hw.1 rfl rfl) rfl hl.1 rfl (Nat.le_of_ble_eq_true rfl) d_P_workOnA_138 ⟨Nat.zero_le _, Nat.zero_le _⟩ (fun H locs hw => ?_)
    have hO14 : z_Ok (z_s_ca σ ((z_x_reg σ 7) % 2)) := z_ok_ca hO (by omega)
    have hb15 : (z_x_reg σ 7) / 2 + (z_x_ca σ) * 128 < 256 := (by omega)
    refine ps_reg (i := 7) (v := (z_x_reg σ 7) / 2 + (z_x_ca σ) * 128) K hw (by omega) d_P_workOnA_141 (fun H locs hw => ?_)
    have hO16 : z_Ok (z_s_reg (z_s_ca σ ((z_x_reg σ 7) % 2)) (z_fs (z_x_reg σ) 7 ((z_x_reg σ 7) / 2 + (z_x_ca σ) * 128))) := z_ok_reg hO14 (z_fs_lt (z_k_reg hO) (by omega))
    refine lv_goto K.1 K.2.1 d_P_workOnA_142 rfl ?_
    refine nv_iconst (v := 4) K d_P_workOnA_211 (by decide) ?_
    exact pri K hr hlk hw (by rw [h2]; first | rfl | (rw [nz_not (z_k_ca hO)]; rfl)) (by first | rfl | (simp [h2]; done) | (congr 1; omega) | (simp [h2]; omega)) d_P_workOnA_212
  · refine nv_as K (congrArg nI h2) ?_
    refine nv_tabIn (a := 4) (tgt := 145) K d_P_workOnA_11 (by decide) (by decide) (by decide) rfl rfl ?_
    refine lv_aload_n K.1 K.2.1 d_P_workOnA_145 rfl (lv_at hl 1 rfl) ?_
    refine pg_registers K hw d_P_workOnA_146 ?_
    refine nv_bipush (v := 7) K d_P_workOnA_149 (by decide) ?_
    refine lv_aload_n K.1 K.2.1 d_P_workOnA_151 rfl (lv_at hl 1 rfl) ?_
    refine pg_flags K hw d_P_workOnA_152 ?_
    refine lv_iload_n K.1 K.2.1 d_P_workOnA_155 rfl (lv_at hl 0 rfl) ?_
    refine pki K (c_decimalOf (σ := σ) (v := z_x_reg σ 7) l D cI a hO (by omega)) (cw_P_234 K (Nat.le_of_ble_eq_true rfl) (Nat.le_of_ble_eq_true rfl)) hw (va_recv (ci := 2) (q0 := 2) hw.2.2.2.1 hw.1 rfl rfl) rfl hl.1 rfl (Nat.le_of_ble_eq_true rfl) d_P_workOnA_156 ⟨Nat.zero_le _, Nat.zero_le _⟩ (fun H locs hw => ?_)
    have hO17 : z_Ok (z_dd σ (z_x_reg σ 7)) := z_ok_dd hO _
    have hb18 : z_dv σ (z_x_reg σ 7) < 256 := z_dv_lt _ _
    refine ps_reg (i := 7) (v := z_dv σ (z_x_reg σ 7)) K hw (by omega) d_P_workOnA_159 (fun H locs hw => ?_)
    have hO19 : z_Ok (z_s_reg (z_dd σ (z_x_reg σ 7)) (z_fs (z_x_reg σ) 7 (z_dv σ (z_x_reg σ 7)))) := z_ok_reg hO17 (z_fs_lt (z_k_reg hO) (by omega))
    refine lv_goto K.1 K.2.1 d_P_workOnA_160 rfl ?_
    refine nv_iconst (v := 4) K d_P_workOnA_211 (by decide) ?_
    exact pri K hr hlk hw (by rw [h2]; first | rfl | (rw [nz_not (z_k_ca hO)]; rfl)) (by first | rfl | (simp [h2]; done) | (congr 1; omega) | (simp [h2]; omega)) d_P_workOnA_212
  · refine nv_as K (congrArg nI h2) ?_
    refine nv_tabIn (a := 5) (tgt := 163) K d_P_workOnA_11 (by decide) (by decide) (by decide) rfl rfl ?_
    refine lv_aload_n K.1 K.2.1 d_P_workOnA_163 rfl (lv_at hl 1 rfl) ?_
    refine pg_registers K hw d_P_workOnA_164 ?_
    refine nv_bipush (v := 7) K d_P_workOnA_167 (by decide) ?_
    refine nv_sipush (v := 255) K d_P_workOnA_169 (by decide) ?_
    refine lv_iload_n K.1 K.2.1 d_P_workOnA_172 rfl (lv_at hl 0 rfl) ?_
    refine nv_isub K (by omega) d_P_workOnA_173 ?_
    refine ps_reg (i := 7) (v := 255 - (z_x_reg σ 7)) K hw (by omega) d_P_workOnA_174 (fun H locs hw => ?_)
    have hO20 : z_Ok (z_s_reg σ (z_fs (z_x_reg σ) 7 (255 - (z_x_reg σ 7)))) := z_ok_reg hO (z_fs_lt (z_k_reg hO) (by omega))
    refine lv_goto K.1 K.2.1 d_P_workOnA_175 rfl ?_
    refine nv_iconst (v := 4) K d_P_workOnA_211 (by decide) ?_
    exact pri K hr hlk hw (by rw [h2]; first | rfl | (rw [nz_not (z_k_ca hO)]; rfl)) (by first | rfl | (simp [h2]; done) | (congr 1; omega) | (simp [h2]; omega)) d_P_workOnA_212
  · refine nv_as K (congrArg nI h2) ?_
    refine nv_tabIn (a := 6) (tgt := 178) K d_P_workOnA_11 (by decide) (by decide) (by decide) rfl rfl ?_
    refine lv_aload_n K.1 K.2.1 d_P_workOnA_178 rfl (lv_at hl 1 rfl) ?_
    refine pg_flags K hw d_P_workOnA_179 ?_
    refine nv_iconst (v := 1) K d_P_workOnA_182 (by decide) ?_
    refine pkv K (c_takeCarry (σ := σ) (v := 1) l D cI a hO (by omega)) (cw_P_202 K (Nat.le_of_ble_eq_true rfl) (Nat.le_of_ble_eq_true rfl)) hw (va_recv (ci := 2) (q0 := 2) hw.2.2.2.1 hw.1 rfl rfl) rfl hl.1 rfl (Nat.le_of_ble_eq_true rfl) d_P_workOnA_183 ⟨Nat.zero_le _, Nat.zero_le _⟩ (fun H locs hw => ?_)
    have hO21 : z_Ok (z_s_ca σ 1) := z_ok_ca hO (by omega)
    refine lv_goto K.1 K.2.1 d_P_workOnA_186 rfl ?_
    refine nv_iconst (v := 4) K d_P_workOnA_211 (by decide) ?_
    exact pri K hr hlk hw (by rw [h2]; first | rfl | (rw [nz_not (z_k_ca hO)]; rfl)) (by first | rfl | (simp [h2]; done) | (congr 1; omega) | (simp [h2]; omega)) d_P_workOnA_212
  · refine nv_as K (congrArg nI h2) ?_
    refine nv_tabOut (a := 7) (tgt := 189) K d_P_workOnA_11 (by decide) (by decide) rfl ?_
    refine lv_aload_n K.1 K.2.1 d_P_workOnA_189 rfl (lv_at hl 1 rfl) ?_
    refine pg_flags K hw d_P_workOnA_190 ?_
    refine lv_aload_n K.1 K.2.1 d_P_workOnA_193 rfl (lv_at hl 1 rfl) ?_
    refine pg_flags K hw d_P_workOnA_194 ?_
    refine pki K (c_carryBit (σ := σ) l D cI a hO) (cw_P_231 K (Nat.le_of_ble_eq_true rfl) (Nat.le_of_ble_eq_true rfl)) hw (va_recv (ci := 2) (q0 := 2) hw.2.2.2.1 hw.1 rfl rfl) rfl hl.1 rfl (Nat.le_of_ble_eq_true rfl) d_P_workOnA_197 ⟨Nat.zero_le _, Nat.zero_le _⟩ (fun H locs hw => ?_)
    have hb22 : z_x_ca σ < 2 := z_k_ca hO
    refine nf_if_ne (u := 0) (v := 1) (Y := 208) K (by omega) d_P_workOnA_200 rfl (fun _ k => nv_iconst (v := 0) K d_P_workOnA_207 (by decide) k) (fun _ k => nv_iconst (v := 1) K d_P_workOnA_203 (by decide) (lv_goto K.1 K.2.1 d_P_workOnA_204 rfl k)) ?_
    have hb23 : (if (z_x_ca σ) = 0 then 1 else 0) < 2 := z_ite_ltB _ (by omega) (by omega)
    refine pkv K (c_takeCarry (σ := σ) (v := (if (z_x_ca σ) = 0 then 1 else 0)) l D cI a hO (by omega)) (cw_P_202 K (Nat.le_of_ble_eq_true rfl) (Nat.le_of_ble_eq_true rfl)) hw (va_recv (ci := 2) (q0 := 2) hw.2.2.2.1 hw.1 rfl rfl) rfl hl.1 rfl (Nat.le_of_ble_eq_true rfl) d_P_workOnA_208 ⟨Nat.zero_le _, Nat.zero_le _⟩ (fun H locs hw => ?_)
    have hO24 : z_Ok (z_s_ca σ (if (z_x_ca σ) = 0 then 1 else 0)) := z_ok_ca hO (by omega)
    refine nv_iconst (v := 4) K d_P_workOnA_211 (by decide) ?_
    exact pri K hr hlk hw (by rw [h2]; first | rfl | (rw [nz_not (z_k_ca hO)]; rfl)) (by first | rfl | (simp [h2]; done) | (congr 1; omega) | (simp [h2]; omega)) d_P_workOnA_212
end
section
set_option maxHeartbeats 4000000 in
set_option maxRecDepth 100000 in
theorem c_move {σ : z_St} {b : Nat} (l : Launch) (D : va_G) (cI : ClassId) (a : pAd) (hO : z_Ok σ) (hb : b < 256) : pCi l y_P_move w_P_move 2 44 D cI a [.ref a.1, .int (nI b)] σ (z_eb σ b) (nI (z_tb b)) := by
  refine pci_of (cc := b_P_move) (maxL := 4) (ret := (some .int)) (by decide) rfl (Nat.le_of_ble_eq_true rfl) ?_
  intro p e s m below meth c ls K hr hlk hl hw
  have K : CallFix p m c b_P_move 4 s _ (_ :: T0) "PortProcessor" := K
  have hl : lv_has ls 4 [(0, .ref a.1), (1, .int (nI b))] := hl
  refine lv_iload_n K.1 K.2.1 d_P_move_0 rfl (lv_at hl 1 rfl) ?_
  refine nv_bipush (v := 118) K d_P_move_1 (by decide) ?_
  refine nv_icmp_ne K (by omega) (by omega) d_P_move_3 rfl (fun h1 => ?_) (fun h1 => ?_)
  · refine lv_iload_n K.1 K.2.1 d_P_move_14 rfl (lv_at hl 1 rfl) ?_
    refine psi K (c_targetOf (σ := σ) (b := b) l D cI a hO (by omega)) (cw_P_212 K (Nat.le_of_ble_eq_true rfl) (Nat.le_of_ble_eq_true rfl)) hw rfl hl.1 rfl (Nat.le_of_ble_eq_true rfl) d_P_move_15 ⟨Nat.zero_le _, Nat.zero_le _⟩ (fun H locs hw => ?_)
    refine lv_istore_n (lv' := [(2, .int (nI (b / 8 % 8))), (0, .ref a.1), (1, .int (nI b))]) K.1 K.2.1 d_P_move_18 rfl hl (by decide) rfl (fun ls hl => ?_)
    refine lv_iload_n K.1 K.2.1 d_P_move_19 rfl (lv_at hl 2 rfl) ?_
    refine nv_bipush (v := 7) K d_P_move_20 (by decide) ?_
    refine nv_mask (M := 8) K 3 rfl rfl d_P_move_22 ?_
    refine lv_istore_n (lv' := [(3, .int (nI (b % 8))), (2, .int (nI (b / 8 % 8))), (0, .ref a.1), (1, .int (nI b))]) K.1 K.2.1 d_P_move_23 rfl hl (by decide) rfl (fun ls hl => ?_)
    refine lv_aload_n K.1 K.2.1 d_P_move_24 rfl (lv_at hl 2 rfl) ?_
    refine lv_iload_n K.1 K.2.1 d_P_move_25 rfl (lv_at hl 1 rfl) ?_
    refine lv_aload_n K.1 K.2.1 d_P_move_26 rfl (lv_at hl 2 rfl) ?_
    refine lv_iload_n K.1 K.2.1 d_P_move_27 rfl (lv_at hl 0 rfl) ?_
    refine pki K (c_readRegister (σ := σ) (r := b % 8) l D cI a hO (by omega)) (cw_P_91 K (Nat.le_of_ble_eq_true rfl) (Nat.le_of_ble_eq_true rfl)) hw (va_recv (ci := 0) (q0 := 0) hw.2.2.2.1 hw.1 rfl rfl) rfl hl.1 rfl (Nat.le_of_ble_eq_true rfl) d_P_move_28 ⟨Nat.zero_le _, Nat.zero_le _⟩ (fun H locs hw => ?_)
    have hb2 : z_rg σ (b % 8) < 256 := z_rg_lt hO _
    refine pkv K (c_writeRegister (σ := σ) (r := b / 8 % 8) (v := z_rg σ (b % 8)) l D cI a hO (by omega) (by omega)) (cw_P_218 K (Nat.le_of_ble_eq_true rfl) (Nat.le_of_ble_eq_true rfl)) hw (va_recv (ci := 0) (q0 := 0) hw.2.2.2.1 hw.1 rfl rfl) rfl hl.1 rfl (Nat.le_of_ble_eq_true rfl) d_P_move_31 ⟨Nat.zero_le _, Nat.zero_le _⟩ (fun H locs hw => ?_)
    have hO3 : z_Ok (z_rs σ (b / 8 % 8) (z_rg σ (b % 8))) := z_ok_rs hO _ (by omega)
    refine lv_iload_n K.1 K.2.1 d_P_move_34 rfl (lv_at hl 1 rfl) ?_
    refine nv_bipush (v := 6) K d_P_move_35 (by decide) ?_
    refine nv_icmp_eq K (by omega) (by omega) d_P_move_37 rfl (fun h4 => ?_) (fun h4 => ?_)
    · refine nv_bipush (v := 7) K d_P_move_46 (by decide) ?_
      refine lv_goto K.1 K.2.1 d_P_move_48 rfl ?_
      exact pri K hr hlk hw (by unfold z_eb; first | (rw [if_pos (by omega)]; done) | (rw [if_neg (by omega)]; done)) (congrArg nI (by unfold z_tb; (repeat' split) <;> omega)) d_P_move_52
    · refine lv_iload_n K.1 K.2.1 d_P_move_40 rfl (lv_at hl 0 rfl) ?_
      refine nv_bipush (v := 6) K d_P_move_41 (by decide) ?_
      refine nf_icmp_ne (u := 5) (v := 7) (Y := 52) K (by omega) (by omega) d_P_move_43 rfl (fun _ k => nv_iconst (v := 5) K d_P_move_51 (by decide) k) (fun _ k => nv_bipush (v := 7) K d_P_move_46 (by decide) (lv_goto K.1 K.2.1 d_P_move_48 rfl k)) ?_
      have hb5 : (if (b % 8) = 6 then 7 else 5) < 8 := z_ite_ltB _ (by omega) (by omega)
      exact pri K hr hlk hw (by unfold z_eb; first | (rw [if_pos (by omega)]; done) | (rw [if_neg (by omega)]; done)) (congrArg nI (by unfold z_tb; (repeat' split) <;> omega)) d_P_move_52
  · refine lv_aload_n K.1 K.2.1 d_P_move_6 rfl (lv_at hl 0 rfl) ?_
    refine nv_iconst (v := 1) K d_P_move_7 (by decide) ?_
    refine pp_halted (v := 1) K hw (by omega) d_P_move_8 (fun H locs hw => ?_)
    have hO6 : z_Ok (z_s_ha σ 1) := z_ok_ha hO (by omega)
    refine nv_bipush (v := 7) K d_P_move_11 (by decide) ?_
    exact pri K hr hlk hw (by unfold z_eb; first | (rw [if_pos (by omega)]; done) | (rw [if_neg (by omega)]; done)) (congrArg nI (by unfold z_tb; (repeat' split) <;> omega)) d_P_move_13
end
section
set_option maxHeartbeats 4000000 in
set_option maxRecDepth 100000 in
theorem c_combineWithRegister {σ : z_St} {b : Nat} (l : Launch) (D : va_G) (cI : ClassId) (a : pAd) (hO : z_Ok σ) (hb : b < 256) : pCi l y_P_combineWithRegister w_P_combineWithRegister 3 72 D cI a [.ref a.1, .int (nI b)] σ (z_ec σ b) (nI (z_tc b)) := by
  refine pci_of (cc := b_P_combineWithRegister) (maxL := 3) (ret := (some .int)) (by decide) rfl (Nat.le_of_ble_eq_true rfl) ?_
  intro p e s m below meth c ls K hr hlk hl hw
  have K : CallFix p m c b_P_combineWithRegister 3 s _ (_ :: T0) "PortProcessor" := K
  have hl : lv_has ls 3 [(0, .ref a.1), (1, .int (nI b))] := hl
  refine lv_iload_n K.1 K.2.1 d_P_combineWithRegister_0 rfl (lv_at hl 1 rfl) ?_
  refine nv_bipush (v := 7) K d_P_combineWithRegister_1 (by decide) ?_
  refine nv_mask (M := 8) K 3 rfl rfl d_P_combineWithRegister_3 ?_
  refine lv_istore_n (lv' := [(2, .int (nI (b % 8))), (0, .ref a.1), (1, .int (nI b))]) K.1 K.2.1 d_P_combineWithRegister_4 rfl hl (by decide) rfl (fun ls hl => ?_)
  refine lv_aload_n K.1 K.2.1 d_P_combineWithRegister_5 rfl (lv_at hl 1 rfl) ?_
  refine pg_registers K hw d_P_combineWithRegister_6 ?_
  refine nv_bipush (v := 7) K d_P_combineWithRegister_9 (by decide) ?_
  refine lv_aload_n K.1 K.2.1 d_P_combineWithRegister_11 rfl (lv_at hl 1 rfl) ?_
  refine pg_flags K hw d_P_combineWithRegister_12 ?_
  refine lv_iload_n K.1 K.2.1 d_P_combineWithRegister_15 rfl (lv_at hl 2 rfl) ?_
  refine psi K (c_targetOf (σ := σ) (b := b) l D cI a hO (by omega)) (cw_P_212 K (Nat.le_of_ble_eq_true rfl) (Nat.le_of_ble_eq_true rfl)) hw rfl hl.1 rfl (Nat.le_of_ble_eq_true rfl) d_P_combineWithRegister_16 ⟨Nat.zero_le _, Nat.zero_le _⟩ (fun H locs hw => ?_)
  refine lv_aload_n K.1 K.2.1 d_P_combineWithRegister_19 rfl (lv_at hl 1 rfl) ?_
  refine pg_registers K hw d_P_combineWithRegister_20 ?_
  refine nv_bipush (v := 7) K d_P_combineWithRegister_23 (by decide) ?_
  refine pl_reg (i := 7) (v := z_x_reg σ 7) K hw (by omega) rfl d_P_combineWithRegister_25 ?_
  have hb1 : z_x_reg σ 7 < 256 := z_k_reg hO _
  refine lv_aload_n K.1 K.2.1 d_P_combineWithRegister_26 rfl (lv_at hl 1 rfl) ?_
  refine lv_iload_n K.1 K.2.1 d_P_combineWithRegister_27 rfl (lv_at hl 0 rfl) ?_
  refine pki K (c_readRegister (σ := σ) (r := b % 8) l D cI a hO (by omega)) (cw_P_91 K (Nat.le_of_ble_eq_true rfl) (Nat.le_of_ble_eq_true rfl)) hw (va_recv (ci := 0) (q0 := 0) hw.2.2.2.1 hw.1 rfl rfl) rfl hl.1 rfl (Nat.le_of_ble_eq_true rfl) d_P_combineWithRegister_28 ⟨Nat.zero_le _, Nat.zero_le _⟩ (fun H locs hw => ?_)
  have hb2 : z_rg σ (b % 8) < 256 := z_rg_lt hO _
  refine pki K (c_combined (σ := σ) (k := b / 8 % 8) (x := z_x_reg σ 7) (y := z_rg σ (b % 8)) l D cI a hO (by omega) (by omega) (by omega)) (cw_P_237 K (Nat.le_of_ble_eq_true rfl) (Nat.le_of_ble_eq_true rfl)) hw (va_recv (ci := 2) (q0 := 2) hw.2.2.2.1 hw.1 rfl rfl) rfl hl.1 rfl (Nat.le_of_ble_eq_true rfl) d_P_combineWithRegister_31 ⟨Nat.zero_le _, Nat.zero_le _⟩ (fun H locs hw => ?_)
  have hO3 : z_Ok (z_cm σ (b / 8 % 8) (z_x_reg σ 7) (z_rg σ (b % 8))) := z_ok_cm hO _ (by omega) (by omega)
  have hb4 : z_cv σ (b / 8 % 8) (z_x_reg σ 7) (z_rg σ (b % 8)) < 256 := z_cv_lt _ _ (by omega) (by omega)
  refine ps_reg (i := 7) (v := z_cv σ (b / 8 % 8) (z_x_reg σ 7) (z_rg σ (b % 8))) K hw (by omega) d_P_combineWithRegister_34 (fun H locs hw => ?_)
  have hO5 : z_Ok (z_s_reg (z_cm σ (b / 8 % 8) (z_x_reg σ 7) (z_rg σ (b % 8))) (z_fs (z_x_reg σ) 7 (z_cv σ (b / 8 % 8) (z_x_reg σ 7) (z_rg σ (b % 8))))) := z_ok_reg hO3 (z_fs_lt (z_k_reg hO) (by omega))
  refine lv_iload_n K.1 K.2.1 d_P_combineWithRegister_35 rfl (lv_at hl 0 rfl) ?_
  refine nv_bipush (v := 6) K d_P_combineWithRegister_36 (by decide) ?_
  refine nf_icmp_ne (u := 4) (v := 7) (Y := 47) K (by omega) (by omega) d_P_combineWithRegister_38 rfl (fun _ k => nv_iconst (v := 4) K d_P_combineWithRegister_46 (by decide) k) (fun _ k => nv_bipush (v := 7) K d_P_combineWithRegister_41 (by decide) (lv_goto K.1 K.2.1 d_P_combineWithRegister_43 rfl k)) ?_
  have hb6 : (if (b % 8) = 6 then 7 else 4) < 8 := z_ite_ltB _ (by omega) (by omega)
  exact pri K hr hlk hw (by first | rfl | (simp [z_tc, z_ec, z_rk]; done) | (simp only [z_tc, z_ec, z_rk]; rfl)) (by first | rfl | (simp [z_tc, z_ec, z_rk]; done) | (congr 1; omega) | (simp [z_tc, z_ec, z_rk]; omega)) d_P_combineWithRegister_47
set_option maxHeartbeats 4000000 in
set_option maxRecDepth 100000 in
theorem c_combineWithNext {σ : z_St} {b : Nat} (l : Launch) (D : va_G) (cI : ClassId) (a : pAd) (hO : z_Ok σ) (hb : b < 256) : pCi l y_P_combineWithNext w_P_combineWithNext 3 72 D cI a [.ref a.1, .int (nI b)] σ (z_rk (z_nx σ) (b / 8 % 8) (z_nb σ)) (nI 7) := by
  refine pci_of (cc := b_P_combineWithNext) (maxL := 2) (ret := (some .int)) (by decide) rfl (Nat.le_of_ble_eq_true rfl) ?_
  intro p e s m below meth c ls K hr hlk hl hw
  have K : CallFix p m c b_P_combineWithNext 2 s _ (_ :: T0) "PortProcessor" := K
  have hl : lv_has ls 2 [(0, .ref a.1), (1, .int (nI b))] := hl
  refine lv_aload_n K.1 K.2.1 d_P_combineWithNext_0 rfl (lv_at hl 0 rfl) ?_
  refine pg_registers K hw d_P_combineWithNext_1 ?_
  refine nv_bipush (v := 7) K d_P_combineWithNext_4 (by decide) ?_
  refine lv_aload_n K.1 K.2.1 d_P_combineWithNext_6 rfl (lv_at hl 0 rfl) ?_
  refine pg_flags K hw d_P_combineWithNext_7 ?_
  refine lv_iload_n K.1 K.2.1 d_P_combineWithNext_10 rfl (lv_at hl 1 rfl) ?_
  refine psi K (c_targetOf (σ := σ) (b := b) l D cI a hO (by omega)) (cw_P_212 K (Nat.le_of_ble_eq_true rfl) (Nat.le_of_ble_eq_true rfl)) hw rfl hl.1 rfl (Nat.le_of_ble_eq_true rfl) d_P_combineWithNext_11 ⟨Nat.zero_le _, Nat.zero_le _⟩ (fun H locs hw => ?_)
  refine lv_aload_n K.1 K.2.1 d_P_combineWithNext_14 rfl (lv_at hl 0 rfl) ?_
  refine pg_registers K hw d_P_combineWithNext_15 ?_
  refine nv_bipush (v := 7) K d_P_combineWithNext_18 (by decide) ?_
  refine pl_reg (i := 7) (v := z_x_reg σ 7) K hw (by omega) rfl d_P_combineWithNext_20 ?_
  have hb1 : z_x_reg σ 7 < 256 := z_k_reg hO _
  refine lv_aload_n K.1 K.2.1 d_P_combineWithNext_21 rfl (lv_at hl 0 rfl) ?_
  refine pki K (c_nextByte (σ := σ) l D cI a hO) (cw_P_121 K (Nat.le_of_ble_eq_true rfl) (Nat.le_of_ble_eq_true rfl)) hw (va_recv (ci := 0) (q0 := 0) hw.2.2.2.1 hw.1 rfl rfl) rfl hl.1 rfl (Nat.le_of_ble_eq_true rfl) d_P_combineWithNext_22 ⟨Nat.zero_le _, Nat.zero_le _⟩ (fun H locs hw => ?_)
  have hO2 : z_Ok (z_nx σ) := z_ok_nx hO
  have hb3 : z_nb σ < 256 := z_nb_lt hO
  refine pki K (c_combined (σ := z_nx σ) (k := b / 8 % 8) (x := z_x_reg σ 7) (y := z_nb σ) l D cI a hO2 (by omega) (by omega) (by omega)) (cw_P_237 K (Nat.le_of_ble_eq_true rfl) (Nat.le_of_ble_eq_true rfl)) hw (va_recv (ci := 2) (q0 := 2) hw.2.2.2.1 hw.1 rfl rfl) rfl hl.1 rfl (Nat.le_of_ble_eq_true rfl) d_P_combineWithNext_25 ⟨Nat.zero_le _, Nat.zero_le _⟩ (fun H locs hw => ?_)
  have hO4 : z_Ok (z_cm (z_nx σ) (b / 8 % 8) (z_x_reg σ 7) (z_nb σ)) := z_ok_cm hO2 _ (by omega) (by omega)
  refine nv_as K (y := nI (z_cv σ (b / 8 % 8) (z_x_reg σ 7) (z_nb σ))) rfl ?_
  have hb5 : z_cv σ (b / 8 % 8) (z_x_reg σ 7) (z_nb σ) < 256 := z_cv_lt _ _ (by omega) (by omega)
  refine ps_reg (i := 7) (v := z_cv σ (b / 8 % 8) (z_x_reg σ 7) (z_nb σ)) K hw (by omega) d_P_combineWithNext_28 (fun H locs hw => ?_)
  have hO6 : z_Ok (z_s_reg (z_cm (z_nx σ) (b / 8 % 8) (z_x_reg σ 7) (z_nb σ)) (z_fs (z_x_reg σ) 7 (z_cv σ (b / 8 % 8) (z_x_reg σ 7) (z_nb σ)))) := z_ok_reg hO4 (z_fs_lt (z_k_reg hO) (by omega))
  refine nv_bipush (v := 7) K d_P_combineWithNext_29 (by decide) ?_
  exact pri K hr hlk hw (by first | rfl | (simp [z_rk]; done) | (simp only [z_rk]; rfl)) (by first | rfl | (simp [z_rk]; done) | (congr 1; omega) | (simp [z_rk]; omega)) d_P_combineWithNext_31
end
section
set_option maxHeartbeats 4000000 in
set_option maxRecDepth 100000 in
theorem c_jumpOnCondition {σ : z_St} {b : Nat} (l : Launch) (D : va_G) (cI : ClassId) (a : pAd) (hO : z_Ok σ) (hb : b < 256) : pCi l y_P_jumpOnCondition w_P_jumpOnCondition 3 63 D cI a [.ref a.1, .int (nI b)] σ (if z_hold σ (b / 8 % 8) = 1 then z_s_pc (z_nn σ) (z_nw σ) else z_nn σ) (nI 10) := by
  refine pci_of (cc := b_P_jumpOnCondition) (maxL := 3) (ret := (some .int)) (by decide) rfl (Nat.le_of_ble_eq_true rfl) ?_
  intro p e s m below meth c ls K hr hlk hl hw
  have K : CallFix p m c b_P_jumpOnCondition 3 s _ (_ :: T0) "PortProcessor" := K
  have hl : lv_has ls 3 [(0, .ref a.1), (1, .int (nI b))] := hl
  refine lv_aload_n K.1 K.2.1 d_P_jumpOnCondition_0 rfl (lv_at hl 0 rfl) ?_
  refine pki K (c_nextTwoBytes (σ := σ) l D cI a hO) (cw_P_193 K (Nat.le_of_ble_eq_true rfl) (Nat.le_of_ble_eq_true rfl)) hw (va_recv (ci := 0) (q0 := 0) hw.2.2.2.1 hw.1 rfl rfl) rfl hl.1 rfl (Nat.le_of_ble_eq_true rfl) d_P_jumpOnCondition_1 ⟨Nat.zero_le _, Nat.zero_le _⟩ (fun H locs hw => ?_)
  have hO1 : z_Ok (z_nn σ) := z_ok_nn hO
  have hb2 : z_nw σ < 65536 := z_nw_lt hO
  refine lv_istore_n (lv' := [(2, .int (nI (z_nw σ))), (0, .ref a.1), (1, .int (nI b))]) K.1 K.2.1 d_P_jumpOnCondition_4 rfl hl (by decide) rfl (fun ls hl => ?_)
  refine lv_aload_n K.1 K.2.1 d_P_jumpOnCondition_5 rfl (lv_at hl 1 rfl) ?_
  refine pg_flags K hw d_P_jumpOnCondition_6 ?_
  refine lv_iload_n K.1 K.2.1 d_P_jumpOnCondition_9 rfl (lv_at hl 2 rfl) ?_
  refine psi K (c_targetOf (σ := z_nn σ) (b := b) l D cI a hO1 (by omega)) (cw_P_212 K (Nat.le_of_ble_eq_true rfl) (Nat.le_of_ble_eq_true rfl)) hw rfl hl.1 rfl (Nat.le_of_ble_eq_true rfl) d_P_jumpOnCondition_10 ⟨Nat.zero_le _, Nat.zero_le _⟩ (fun H locs hw => ?_)
  refine pki K (c_meet (σ := z_nn σ) (k := b / 8 % 8) l D cI a hO1 (by omega)) (cw_P_241 K (Nat.le_of_ble_eq_true rfl) (Nat.le_of_ble_eq_true rfl)) hw (va_recv (ci := 2) (q0 := 2) hw.2.2.2.1 hw.1 rfl rfl) rfl hl.1 rfl (Nat.le_of_ble_eq_true rfl) d_P_jumpOnCondition_13 ⟨Nat.zero_le _, Nat.zero_le _⟩ (fun H locs hw => ?_)
  refine nv_as K (y := nI (z_hold σ (b / 8 % 8))) rfl ?_
  have hb3 : z_hold σ (b / 8 % 8) < 2 := z_hold_lt _ _
  refine nv_if_eq K (by omega) d_P_jumpOnCondition_16 rfl (fun h4 => ?_) (fun h4 => ?_)
  · refine nv_bipush (v := 10) K d_P_jumpOnCondition_24 (by decide) ?_
    exact pri K hr hlk hw (by first | (rw [if_pos (by omega)]; done) | (rw [if_neg (by omega)]; done)) (by first | rfl | (simp [h4]; done) | (congr 1; omega) | (simp [h4]; omega)) d_P_jumpOnCondition_26
  · refine lv_aload_n K.1 K.2.1 d_P_jumpOnCondition_19 rfl (lv_at hl 1 rfl) ?_
    refine lv_iload_n K.1 K.2.1 d_P_jumpOnCondition_20 rfl (lv_at hl 0 rfl) ?_
    refine pp_programCounter (v := z_nw σ) K hw d_P_jumpOnCondition_21 (fun H locs hw => ?_)
    have hO5 : z_Ok (z_s_pc (z_nn σ) (z_nw σ)) := z_ok_pc hO1 (by omega)
    refine nv_bipush (v := 10) K d_P_jumpOnCondition_24 (by decide) ?_
    exact pri K hr hlk hw (by first | (rw [if_pos (by omega)]; done) | (rw [if_neg (by omega)]; done)) (by first | rfl | (simp [h4]; done) | (congr 1; omega) | (simp [h4]; omega)) d_P_jumpOnCondition_26
set_option maxHeartbeats 4000000 in
set_option maxRecDepth 100000 in
theorem c_callOnCondition {σ : z_St} {b : Nat} (l : Launch) (D : va_G) (cI : ClassId) (a : pAd) (hO : z_Ok σ) (hb : b < 256) : pCi l y_P_callOnCondition w_P_callOnCondition 3 64 D cI a [.ref a.1, .int (nI b)] σ (if z_hold σ (b / 8 % 8) = 1 then z_ct (z_nn σ) (z_nw σ) else z_nn σ) (nI (if z_hold σ (b / 8 % 8) = 1 then 17 else 11)) := by
  refine pci_of (cc := b_P_callOnCondition) (maxL := 3) (ret := (some .int)) (by decide) rfl (Nat.le_of_ble_eq_true rfl) ?_
  intro p e s m below meth c ls K hr hlk hl hw
  have K : CallFix p m c b_P_callOnCondition 3 s _ (_ :: T0) "PortProcessor" := K
  have hl : lv_has ls 3 [(0, .ref a.1), (1, .int (nI b))] := hl
  refine lv_aload_n K.1 K.2.1 d_P_callOnCondition_0 rfl (lv_at hl 0 rfl) ?_
  refine pki K (c_nextTwoBytes (σ := σ) l D cI a hO) (cw_P_193 K (Nat.le_of_ble_eq_true rfl) (Nat.le_of_ble_eq_true rfl)) hw (va_recv (ci := 0) (q0 := 0) hw.2.2.2.1 hw.1 rfl rfl) rfl hl.1 rfl (Nat.le_of_ble_eq_true rfl) d_P_callOnCondition_1 ⟨Nat.zero_le _, Nat.zero_le _⟩ (fun H locs hw => ?_)
  have hO1 : z_Ok (z_nn σ) := z_ok_nn hO
  have hb2 : z_nw σ < 65536 := z_nw_lt hO
  refine lv_istore_n (lv' := [(2, .int (nI (z_nw σ))), (0, .ref a.1), (1, .int (nI b))]) K.1 K.2.1 d_P_callOnCondition_4 rfl hl (by decide) rfl (fun ls hl => ?_)
  refine lv_aload_n K.1 K.2.1 d_P_callOnCondition_5 rfl (lv_at hl 1 rfl) ?_
  refine pg_flags K hw d_P_callOnCondition_6 ?_
  refine lv_iload_n K.1 K.2.1 d_P_callOnCondition_9 rfl (lv_at hl 2 rfl) ?_
  refine psi K (c_targetOf (σ := z_nn σ) (b := b) l D cI a hO1 (by omega)) (cw_P_212 K (Nat.le_of_ble_eq_true rfl) (Nat.le_of_ble_eq_true rfl)) hw rfl hl.1 rfl (Nat.le_of_ble_eq_true rfl) d_P_callOnCondition_10 ⟨Nat.zero_le _, Nat.zero_le _⟩ (fun H locs hw => ?_)
  refine pki K (c_meet (σ := z_nn σ) (k := b / 8 % 8) l D cI a hO1 (by omega)) (cw_P_241 K (Nat.le_of_ble_eq_true rfl) (Nat.le_of_ble_eq_true rfl)) hw (va_recv (ci := 2) (q0 := 2) hw.2.2.2.1 hw.1 rfl rfl) rfl hl.1 rfl (Nat.le_of_ble_eq_true rfl) d_P_callOnCondition_13 ⟨Nat.zero_le _, Nat.zero_le _⟩ (fun H locs hw => ?_)
  refine nv_as K (y := nI (z_hold σ (b / 8 % 8))) rfl ?_
  have hb3 : z_hold σ (b / 8 % 8) < 2 := z_hold_lt _ _
  refine nv_if_ne K (by omega) d_P_callOnCondition_16 rfl (fun h4 => ?_) (fun h4 => ?_)
  · refine lv_aload_n K.1 K.2.1 d_P_callOnCondition_22 rfl (lv_at hl 1 rfl) ?_
    refine lv_iload_n K.1 K.2.1 d_P_callOnCondition_23 rfl (lv_at hl 0 rfl) ?_
    refine pkv K (c_callTo (σ := z_nn σ) (x := z_nw σ) l D cI a hO1 (by omega)) (cw_P_136 K (Nat.le_of_ble_eq_true rfl) (Nat.le_of_ble_eq_true rfl)) hw (va_recv (ci := 0) (q0 := 0) hw.2.2.2.1 hw.1 rfl rfl) rfl hl.1 rfl (Nat.le_of_ble_eq_true rfl) d_P_callOnCondition_24 ⟨Nat.zero_le _, Nat.zero_le _⟩ (fun H locs hw => ?_)
    have hO5 : z_Ok (z_ct (z_nn σ) (z_nw σ)) := z_ok_ct hO1 (by omega)
    refine nv_bipush (v := 17) K d_P_callOnCondition_27 (by decide) ?_
    exact pri K hr hlk hw (by first | (rw [if_pos (by omega)]; done) | (rw [if_neg (by omega)]; done)) (by first | (rw [if_pos (by omega)]; done) | (rw [if_neg (by omega)]; done)) d_P_callOnCondition_29
  · refine nv_bipush (v := 11) K d_P_callOnCondition_19 (by decide) ?_
    exact pri K hr hlk hw (by first | (rw [if_pos (by omega)]; done) | (rw [if_neg (by omega)]; done)) (by first | (rw [if_pos (by omega)]; done) | (rw [if_neg (by omega)]; done)) d_P_callOnCondition_21
set_option maxHeartbeats 4000000 in
set_option maxRecDepth 100000 in
theorem c_callAlways {σ : z_St} (l : Launch) (D : va_G) (cI : ClassId) (a : pAd) (hO : z_Ok σ) : pCi l y_P_callAlways w_P_callAlways 3 64 D cI a [.ref a.1] σ (z_ct (z_nn σ) (z_nw σ)) (nI 17) := by
  refine pci_of (cc := b_P_callAlways) (maxL := 1) (ret := (some .int)) (by decide) rfl (Nat.le_of_ble_eq_true rfl) ?_
  intro p e s m below meth c ls K hr hlk hl hw
  have K : CallFix p m c b_P_callAlways 1 s _ (_ :: T0) "PortProcessor" := K
  have hl : lv_has ls 1 [(0, .ref a.1)] := hl
  refine lv_aload_n K.1 K.2.1 d_P_callAlways_0 rfl (lv_at hl 0 rfl) ?_
  refine lv_aload_n K.1 K.2.1 d_P_callAlways_1 rfl (lv_at hl 0 rfl) ?_
  refine pki K (c_nextTwoBytes (σ := σ) l D cI a hO) (cw_P_193 K (Nat.le_of_ble_eq_true rfl) (Nat.le_of_ble_eq_true rfl)) hw (va_recv (ci := 0) (q0 := 0) hw.2.2.2.1 hw.1 rfl rfl) rfl hl.1 rfl (Nat.le_of_ble_eq_true rfl) d_P_callAlways_2 ⟨Nat.zero_le _, Nat.zero_le _⟩ (fun H locs hw => ?_)
  have hO1 : z_Ok (z_nn σ) := z_ok_nn hO
  have hb2 : z_nw σ < 65536 := z_nw_lt hO
  refine pkv K (c_callTo (σ := z_nn σ) (x := z_nw σ) l D cI a hO1 (by omega)) (cw_P_136 K (Nat.le_of_ble_eq_true rfl) (Nat.le_of_ble_eq_true rfl)) hw (va_recv (ci := 0) (q0 := 0) hw.2.2.2.1 hw.1 rfl rfl) rfl hl.1 rfl (Nat.le_of_ble_eq_true rfl) d_P_callAlways_5 ⟨Nat.zero_le _, Nat.zero_le _⟩ (fun H locs hw => ?_)
  have hO3 : z_Ok (z_ct (z_nn σ) (z_nw σ)) := z_ok_ct hO1 (by omega)
  refine nv_bipush (v := 17) K d_P_callAlways_8 (by decide) ?_
  exact pri K hr hlk hw (by first | rfl | (simp; done) | (skip; rfl)) (by first | rfl | (simp; done) | (congr 1; omega) | (simp; omega)) d_P_callAlways_10
set_option maxHeartbeats 4000000 in
set_option maxRecDepth 100000 in
theorem c_returnOnCondition {σ : z_St} {b : Nat} (l : Launch) (D : va_G) (cI : ClassId) (a : pAd) (hO : z_Ok σ) (hb : b < 256) : pCi l y_P_returnOnCondition w_P_returnOnCondition 2 43 D cI a [.ref a.1, .int (nI b)] σ (if z_hold σ (b / 8 % 8) = 1 then z_rt σ else σ) (nI (if z_hold σ (b / 8 % 8) = 1 then 11 else 5)) := by
  refine pci_of (cc := b_P_returnOnCondition) (maxL := 2) (ret := (some .int)) (by decide) rfl (Nat.le_of_ble_eq_true rfl) ?_
  intro p e s m below meth c ls K hr hlk hl hw
  have K : CallFix p m c b_P_returnOnCondition 2 s _ (_ :: T0) "PortProcessor" := K
  have hl : lv_has ls 2 [(0, .ref a.1), (1, .int (nI b))] := hl
  refine lv_aload_n K.1 K.2.1 d_P_returnOnCondition_0 rfl (lv_at hl 0 rfl) ?_
  refine pg_flags K hw d_P_returnOnCondition_1 ?_
  refine lv_iload_n K.1 K.2.1 d_P_returnOnCondition_4 rfl (lv_at hl 1 rfl) ?_
  refine psi K (c_targetOf (σ := σ) (b := b) l D cI a hO (by omega)) (cw_P_212 K (Nat.le_of_ble_eq_true rfl) (Nat.le_of_ble_eq_true rfl)) hw rfl hl.1 rfl (Nat.le_of_ble_eq_true rfl) d_P_returnOnCondition_5 ⟨Nat.zero_le _, Nat.zero_le _⟩ (fun H locs hw => ?_)
  refine pki K (c_meet (σ := σ) (k := b / 8 % 8) l D cI a hO (by omega)) (cw_P_241 K (Nat.le_of_ble_eq_true rfl) (Nat.le_of_ble_eq_true rfl)) hw (va_recv (ci := 2) (q0 := 2) hw.2.2.2.1 hw.1 rfl rfl) rfl hl.1 rfl (Nat.le_of_ble_eq_true rfl) d_P_returnOnCondition_8 ⟨Nat.zero_le _, Nat.zero_le _⟩ (fun H locs hw => ?_)
  have hb1 : z_hold σ (b / 8 % 8) < 2 := z_hold_lt _ _
  refine nv_if_ne K (by omega) d_P_returnOnCondition_11 rfl (fun h2 => ?_) (fun h2 => ?_)
  · refine lv_aload_n K.1 K.2.1 d_P_returnOnCondition_16 rfl (lv_at hl 0 rfl) ?_
    refine lv_aload_n K.1 K.2.1 d_P_returnOnCondition_17 rfl (lv_at hl 0 rfl) ?_
    refine pki K (c_pop (σ := σ) l D cI a hO) (cw_P_244 K (Nat.le_of_ble_eq_true rfl) (Nat.le_of_ble_eq_true rfl)) hw (va_recv (ci := 0) (q0 := 0) hw.2.2.2.1 hw.1 rfl rfl) rfl hl.1 rfl (Nat.le_of_ble_eq_true rfl) d_P_returnOnCondition_18 ⟨Nat.zero_le _, Nat.zero_le _⟩ (fun H locs hw => ?_)
    have hO3 : z_Ok (z_po σ) := z_ok_po hO
    have hb4 : z_pv σ < 65536 := z_pv_lt hO
    refine pp_programCounter (v := z_pv σ) K hw d_P_returnOnCondition_21 (fun H locs hw => ?_)
    have hO5 : z_Ok (z_s_pc (z_po σ) (z_pv σ)) := z_ok_pc hO3 (by omega)
    refine nv_bipush (v := 11) K d_P_returnOnCondition_24 (by decide) ?_
    exact pri K hr hlk hw (by first | (rw [if_pos (by omega)]; rfl) | (rw [if_neg (by omega)]; done)) (by first | (rw [if_pos (by omega)]; done) | (rw [if_neg (by omega)]; done)) d_P_returnOnCondition_26
  · refine nv_iconst (v := 5) K d_P_returnOnCondition_14 (by decide) ?_
    exact pri K hr hlk hw (by first | (rw [if_pos (by omega)]; rfl) | (rw [if_neg (by omega)]; done)) (by first | (rw [if_pos (by omega)]; done) | (rw [if_neg (by omega)]; done)) d_P_returnOnCondition_15
end
section
set_option maxHeartbeats 4000000 in
set_option maxRecDepth 100000 in
theorem c_returnOrCopyHl {σ : z_St} {b : Nat} (l : Launch) (D : va_G) (cI : ClassId) (a : pAd) (hO : z_Ok σ) (hb : b < 256) : pCi l y_P_returnOrCopyHl w_P_returnOrCopyHl 2 43 D cI a [.ref a.1, .int (nI b)] σ (if b / 16 % 4 = 2 then z_s_pc σ (z_pg σ 2) else if b / 16 % 4 = 3 then z_s_sp σ (z_pg σ 2) else z_rt σ) (nI (if b / 16 % 4 = 2 then 5 else if b / 16 % 4 = 3 then 5 else 10)) := by
  refine pci_of (cc := b_P_returnOrCopyHl) (maxL := 2) (ret := (some .int)) (by decide) rfl (Nat.le_of_ble_eq_true rfl) ?_
  intro p e s m below meth c ls K hr hlk hl hw
  have K : CallFix p m c b_P_returnOrCopyHl 2 s _ (_ :: T0) "PortProcessor" := K
  have hl : lv_has ls 2 [(0, .ref a.1), (1, .int (nI b))] := hl
  refine lv_iload_n K.1 K.2.1 d_P_returnOrCopyHl_0 rfl (lv_at hl 1 rfl) ?_
  refine psi K (c_pairOf (σ := σ) (b := b) l D cI a hO (by omega)) (cw_P_190 K (Nat.le_of_ble_eq_true rfl) (Nat.le_of_ble_eq_true rfl)) hw rfl hl.1 rfl (Nat.le_of_ble_eq_true rfl) d_P_returnOrCopyHl_1 ⟨Nat.zero_le _, Nat.zero_le _⟩ (fun H locs hw => ?_)
  rcases (by omega : (b / 16 % 4) = 0 ∨ (b / 16 % 4) = 1 ∨ (b / 16 % 4) = 2 ∨ (b / 16 % 4) = 3) with h1 | h1 | h1 | h1
  · refine nv_as K (congrArg nI h1) ?_
    refine nv_lookup (a := 0) (tgt := 54) K d_P_returnOrCopyHl_4 (by decide) rfl rfl rfl ?_
    refine lv_aload_n K.1 K.2.1 d_P_returnOrCopyHl_54 rfl (lv_at hl 0 rfl) ?_
    refine lv_aload_n K.1 K.2.1 d_P_returnOrCopyHl_55 rfl (lv_at hl 0 rfl) ?_
    refine pki K (c_pop (σ := σ) l D cI a hO) (cw_P_244 K (Nat.le_of_ble_eq_true rfl) (Nat.le_of_ble_eq_true rfl)) hw (va_recv (ci := 0) (q0 := 0) hw.2.2.2.1 hw.1 rfl rfl) rfl hl.1 rfl (Nat.le_of_ble_eq_true rfl) d_P_returnOrCopyHl_56 ⟨Nat.zero_le _, Nat.zero_le _⟩ (fun H locs hw => ?_)
    have hO2 : z_Ok (z_po σ) := z_ok_po hO
    have hb3 : z_pv σ < 65536 := z_pv_lt hO
    refine pp_programCounter (v := z_pv σ) K hw d_P_returnOrCopyHl_59 (fun H locs hw => ?_)
    have hO4 : z_Ok (z_s_pc (z_po σ) (z_pv σ)) := z_ok_pc hO2 (by omega)
    refine nv_bipush (v := 10) K d_P_returnOrCopyHl_62 (by decide) ?_
    exact pri K hr hlk hw (by rw [h1]; rfl) (by rw [h1]; rfl) d_P_returnOrCopyHl_64
  · refine nv_as K (congrArg nI h1) ?_
    refine nv_lookup (a := 1) (tgt := 54) K d_P_returnOrCopyHl_4 (by decide) rfl rfl rfl ?_
    refine lv_aload_n K.1 K.2.1 d_P_returnOrCopyHl_54 rfl (lv_at hl 0 rfl) ?_
    refine lv_aload_n K.1 K.2.1 d_P_returnOrCopyHl_55 rfl (lv_at hl 0 rfl) ?_
    refine pki K (c_pop (σ := σ) l D cI a hO) (cw_P_244 K (Nat.le_of_ble_eq_true rfl) (Nat.le_of_ble_eq_true rfl)) hw (va_recv (ci := 0) (q0 := 0) hw.2.2.2.1 hw.1 rfl rfl) rfl hl.1 rfl (Nat.le_of_ble_eq_true rfl) d_P_returnOrCopyHl_56 ⟨Nat.zero_le _, Nat.zero_le _⟩ (fun H locs hw => ?_)
    have hO5 : z_Ok (z_po σ) := z_ok_po hO
    have hb6 : z_pv σ < 65536 := z_pv_lt hO
    refine pp_programCounter (v := z_pv σ) K hw d_P_returnOrCopyHl_59 (fun H locs hw => ?_)
    have hO7 : z_Ok (z_s_pc (z_po σ) (z_pv σ)) := z_ok_pc hO5 (by omega)
    refine nv_bipush (v := 10) K d_P_returnOrCopyHl_62 (by decide) ?_
    exact pri K hr hlk hw (by rw [h1]; rfl) (by rw [h1]; rfl) d_P_returnOrCopyHl_64
  · refine nv_as K (congrArg nI h1) ?_
    refine nv_lookup (a := 2) (tgt := 32) K d_P_returnOrCopyHl_4 (by decide) rfl rfl rfl ?_
    refine lv_aload_n K.1 K.2.1 d_P_returnOrCopyHl_32 rfl (lv_at hl 0 rfl) ?_
    refine lv_aload_n K.1 K.2.1 d_P_returnOrCopyHl_33 rfl (lv_at hl 0 rfl) ?_
    refine nv_iconst (v := 2) K d_P_returnOrCopyHl_34 (by decide) ?_
    refine pki K (c_readPair (σ := σ) (k := 2) l D cI a hO (by omega)) (cw_P_199 K (Nat.le_of_ble_eq_true rfl) (Nat.le_of_ble_eq_true rfl)) hw (va_recv (ci := 0) (q0 := 0) hw.2.2.2.1 hw.1 rfl rfl) rfl hl.1 rfl (Nat.le_of_ble_eq_true rfl) d_P_returnOrCopyHl_35 ⟨Nat.zero_le _, Nat.zero_le _⟩ (fun H locs hw => ?_)
    have hb8 : z_pg σ 2 < 65536 := z_pg_lt hO _
    refine pp_programCounter (v := z_pg σ 2) K hw d_P_returnOrCopyHl_38 (fun H locs hw => ?_)
    have hO9 : z_Ok (z_s_pc σ (z_pg σ 2)) := z_ok_pc hO (by omega)
    refine nv_iconst (v := 5) K d_P_returnOrCopyHl_41 (by decide) ?_
    exact pri K hr hlk hw (by rw [h1]; rfl) (by rw [h1]; rfl) d_P_returnOrCopyHl_42
  · refine nv_as K (congrArg nI h1) ?_
    refine nv_lookup (a := 3) (tgt := 43) K d_P_returnOrCopyHl_4 (by decide) rfl rfl rfl ?_
    refine lv_aload_n K.1 K.2.1 d_P_returnOrCopyHl_43 rfl (lv_at hl 0 rfl) ?_
    refine lv_aload_n K.1 K.2.1 d_P_returnOrCopyHl_44 rfl (lv_at hl 0 rfl) ?_
    refine nv_iconst (v := 2) K d_P_returnOrCopyHl_45 (by decide) ?_
    refine pki K (c_readPair (σ := σ) (k := 2) l D cI a hO (by omega)) (cw_P_199 K (Nat.le_of_ble_eq_true rfl) (Nat.le_of_ble_eq_true rfl)) hw (va_recv (ci := 0) (q0 := 0) hw.2.2.2.1 hw.1 rfl rfl) rfl hl.1 rfl (Nat.le_of_ble_eq_true rfl) d_P_returnOrCopyHl_46 ⟨Nat.zero_le _, Nat.zero_le _⟩ (fun H locs hw => ?_)
    have hb10 : z_pg σ 2 < 65536 := z_pg_lt hO _
    refine pp_stackPointer (v := z_pg σ 2) K hw d_P_returnOrCopyHl_49 (fun H locs hw => ?_)
    have hO11 : z_Ok (z_s_sp σ (z_pg σ 2)) := z_ok_sp hO (by omega)
    refine nv_iconst (v := 5) K d_P_returnOrCopyHl_52 (by decide) ?_
    exact pri K hr hlk hw (by rw [h1]; rfl) (by rw [h1]; rfl) d_P_returnOrCopyHl_53
set_option maxHeartbeats 4000000 in
set_option maxRecDepth 100000 in
theorem c_popPair {σ : z_St} {b : Nat} (l : Launch) (D : va_G) (cI : ClassId) (a : pAd) (hO : z_Ok σ) (hb : b < 256) : pCi l y_P_popPair w_P_popPair 2 43 D cI a [.ref a.1, .int (nI b)] σ (z_pp σ (b / 16 % 4)) (nI 10) := by
  refine pci_of (cc := b_P_popPair) (maxL := 4) (ret := (some .int)) (by decide) rfl (Nat.le_of_ble_eq_true rfl) ?_
  intro p e s m below meth c ls K hr hlk hl hw
  have K : CallFix p m c b_P_popPair 4 s _ (_ :: T0) "PortProcessor" := K
  have hl : lv_has ls 4 [(0, .ref a.1), (1, .int (nI b))] := hl
  refine lv_aload_n K.1 K.2.1 d_P_popPair_0 rfl (lv_at hl 0 rfl) ?_
  refine pki K (c_pop (σ := σ) l D cI a hO) (cw_P_244 K (Nat.le_of_ble_eq_true rfl) (Nat.le_of_ble_eq_true rfl)) hw (va_recv (ci := 0) (q0 := 0) hw.2.2.2.1 hw.1 rfl rfl) rfl hl.1 rfl (Nat.le_of_ble_eq_true rfl) d_P_popPair_1 ⟨Nat.zero_le _, Nat.zero_le _⟩ (fun H locs hw => ?_)
  have hO1 : z_Ok (z_po σ) := z_ok_po hO
  have hb2 : z_pv σ < 65536 := z_pv_lt hO
  refine lv_istore_n (lv' := [(2, .int (nI (z_pv σ))), (0, .ref a.1), (1, .int (nI b))]) K.1 K.2.1 d_P_popPair_4 rfl hl (by decide) rfl (fun ls hl => ?_)
  refine lv_iload_n K.1 K.2.1 d_P_popPair_5 rfl (lv_at hl 2 rfl) ?_
  refine psi K (c_pairOf (σ := z_po σ) (b := b) l D cI a hO1 (by omega)) (cw_P_190 K (Nat.le_of_ble_eq_true rfl) (Nat.le_of_ble_eq_true rfl)) hw rfl hl.1 rfl (Nat.le_of_ble_eq_true rfl) d_P_popPair_6 ⟨Nat.zero_le _, Nat.zero_le _⟩ (fun H locs hw => ?_)
  refine lv_istore_n (lv' := [(3, .int (nI (b / 16 % 4))), (2, .int (nI (z_pv σ))), (0, .ref a.1), (1, .int (nI b))]) K.1 K.2.1 d_P_popPair_9 rfl hl (by decide) rfl (fun ls hl => ?_)
  refine lv_iload_n K.1 K.2.1 d_P_popPair_10 rfl (lv_at hl 0 rfl) ?_
  refine nv_iconst (v := 3) K d_P_popPair_11 (by decide) ?_
  refine nv_icmp_ne K (by omega) (by omega) d_P_popPair_12 rfl (fun h3 => ?_) (fun h3 => ?_)
  · refine lv_aload_n K.1 K.2.1 d_P_popPair_41 rfl (lv_at hl 2 rfl) ?_
    refine lv_iload_n K.1 K.2.1 d_P_popPair_42 rfl (lv_at hl 0 rfl) ?_
    refine lv_iload_n K.1 K.2.1 d_P_popPair_43 rfl (lv_at hl 1 rfl) ?_
    refine pkv K (c_writePair (σ := z_po σ) (k := b / 16 % 4) (v := z_pv σ) l D cI a hO1 (by omega) (by omega)) (cw_P_196 K (Nat.le_of_ble_eq_true rfl) (Nat.le_of_ble_eq_true rfl)) hw (va_recv (ci := 0) (q0 := 0) hw.2.2.2.1 hw.1 rfl rfl) rfl hl.1 rfl (Nat.le_of_ble_eq_true rfl) d_P_popPair_44 ⟨Nat.zero_le _, Nat.zero_le _⟩ (fun H locs hw => ?_)
    have hO4 : z_Ok (z_ps (z_po σ) (b / 16 % 4) (z_pv σ)) := z_ok_ps hO1 _ (by omega)
    refine nv_bipush (v := 10) K d_P_popPair_47 (by decide) ?_
    exact pri K hr hlk hw (by unfold z_pp; first | (rw [if_pos (by omega)]; rfl) | (rw [if_neg (by omega)]; done)) (by first | rfl | (simp [h3]; done) | (congr 1; omega) | (simp [h3]; omega)) d_P_popPair_49
  · refine lv_aload_n K.1 K.2.1 d_P_popPair_15 rfl (lv_at hl 2 rfl) ?_
    refine pg_registers K hw d_P_popPair_16 ?_
    refine nv_bipush (v := 7) K d_P_popPair_19 (by decide) ?_
    refine lv_iload_n K.1 K.2.1 d_P_popPair_21 rfl (lv_at hl 1 rfl) ?_
    refine nv_bipush (v := 8) K d_P_popPair_22 (by decide) ?_
    refine nv_ishr (M := 256) K (by omega) rfl (by omega) d_P_popPair_24 ?_
    refine ps_reg (i := 7) (v := (z_pv σ) / 256) K hw (by omega) d_P_popPair_25 (fun H locs hw => ?_)
    have hO5 : z_Ok (z_s_reg (z_po σ) (z_fs (z_x_reg σ) 7 ((z_pv σ) / 256))) := z_ok_reg hO1 (z_fs_lt (z_k_reg hO) (by omega))
    refine lv_aload_n K.1 K.2.1 d_P_popPair_26 rfl (lv_at hl 2 rfl) ?_
    refine pg_flags K hw d_P_popPair_27 ?_
    refine lv_iload_n K.1 K.2.1 d_P_popPair_30 rfl (lv_at hl 1 rfl) ?_
    refine nv_sipush (v := 255) K d_P_popPair_31 (by decide) ?_
    refine nv_mask (M := 256) K 8 rfl rfl d_P_popPair_34 ?_
    refine pkv K (c_takeByte (σ := z_s_reg (z_po σ) (z_fs (z_x_reg σ) 7 ((z_pv σ) / 256))) (v := (z_pv σ) % 256) l D cI a hO5 (by omega)) (cw_P_98 K (Nat.le_of_ble_eq_true rfl) (Nat.le_of_ble_eq_true rfl)) hw (va_recv (ci := 2) (q0 := 2) hw.2.2.2.1 hw.1 rfl rfl) rfl hl.1 rfl (Nat.le_of_ble_eq_true rfl) d_P_popPair_35 ⟨Nat.zero_le _, Nat.zero_le _⟩ (fun H locs hw => ?_)
    have hO6 : z_Ok (z_ff (z_s_reg (z_po σ) (z_fs (z_x_reg σ) 7 ((z_pv σ) / 256))) ((z_pv σ) % 256)) := z_ok_ff hO5 _
    refine lv_goto K.1 K.2.1 d_P_popPair_38 rfl ?_
    refine nv_bipush (v := 10) K d_P_popPair_47 (by decide) ?_
    exact pri K hr hlk hw (by unfold z_pp; first | (rw [if_pos (by omega)]; rfl) | (rw [if_neg (by omega)]; done)) (by first | rfl | (simp [h3]; done) | (congr 1; omega) | (simp [h3]; omega)) d_P_popPair_49
set_option maxHeartbeats 4000000 in
set_option maxRecDepth 100000 in
theorem c_pushPair {σ : z_St} {b : Nat} (l : Launch) (D : va_G) (cI : ClassId) (a : pAd) (hO : z_Ok σ) (hb : b < 256) : pCi l y_P_pushPair w_P_pushPair 2 43 D cI a [.ref a.1, .int (nI b)] σ (z_pu σ (z_pq σ (b / 16 % 4))) (nI 11) := by
  refine pci_of (cc := b_P_pushPair) (maxL := 3) (ret := (some .int)) (by decide) rfl (Nat.le_of_ble_eq_true rfl) ?_
  intro p e s m below meth c ls K hr hlk hl hw
  have K : CallFix p m c b_P_pushPair 3 s _ (_ :: T0) "PortProcessor" := K
  have hl : lv_has ls 3 [(0, .ref a.1), (1, .int (nI b))] := hl
  refine lv_iload_n K.1 K.2.1 d_P_pushPair_0 rfl (lv_at hl 1 rfl) ?_
  refine psi K (c_pairOf (σ := σ) (b := b) l D cI a hO (by omega)) (cw_P_190 K (Nat.le_of_ble_eq_true rfl) (Nat.le_of_ble_eq_true rfl)) hw rfl hl.1 rfl (Nat.le_of_ble_eq_true rfl) d_P_pushPair_1 ⟨Nat.zero_le _, Nat.zero_le _⟩ (fun H locs hw => ?_)
  refine lv_istore_n (lv' := [(2, .int (nI (b / 16 % 4))), (0, .ref a.1), (1, .int (nI b))]) K.1 K.2.1 d_P_pushPair_4 rfl hl (by decide) rfl (fun ls hl => ?_)
  refine lv_aload_n K.1 K.2.1 d_P_pushPair_5 rfl (lv_at hl 1 rfl) ?_
  refine lv_iload_n K.1 K.2.1 d_P_pushPair_6 rfl (lv_at hl 0 rfl) ?_
  refine nv_iconst (v := 3) K d_P_pushPair_7 (by decide) ?_
  refine nv_icmp_ne K (by omega) (by omega) d_P_pushPair_8 rfl (fun h1 => ?_) (fun h1 => ?_)
  · refine lv_aload_n K.1 K.2.1 d_P_pushPair_32 rfl (lv_at hl 1 rfl) ?_
    refine lv_iload_n K.1 K.2.1 d_P_pushPair_33 rfl (lv_at hl 0 rfl) ?_
    refine pki K (c_readPair (σ := σ) (k := b / 16 % 4) l D cI a hO (by omega)) (cw_P_199 K (Nat.le_of_ble_eq_true rfl) (Nat.le_of_ble_eq_true rfl)) hw (va_recv (ci := 0) (q0 := 0) hw.2.2.2.1 hw.1 rfl rfl) rfl hl.1 rfl (Nat.le_of_ble_eq_true rfl) d_P_pushPair_34 ⟨Nat.zero_le _, Nat.zero_le _⟩ (fun H locs hw => ?_)
    have hb2 : z_pg σ (b / 16 % 4) < 65536 := z_pg_lt hO _
    refine pkv K (c_push (σ := σ) (v := z_pg σ (b / 16 % 4)) l D cI a hO (by omega)) (cw_P_247 K (Nat.le_of_ble_eq_true rfl) (Nat.le_of_ble_eq_true rfl)) hw (va_recv (ci := 0) (q0 := 0) hw.2.2.2.1 hw.1 rfl rfl) rfl hl.1 rfl (Nat.le_of_ble_eq_true rfl) d_P_pushPair_37 ⟨Nat.zero_le _, Nat.zero_le _⟩ (fun H locs hw => ?_)
    have hO3 : z_Ok (z_pu σ (z_pg σ (b / 16 % 4))) := z_ok_pu hO (by omega)
    refine nv_bipush (v := 11) K d_P_pushPair_40 (by decide) ?_
    exact pri K hr hlk hw (by unfold z_pq; first | (rw [if_pos (by omega)]; done) | (rw [if_neg (by omega)]; done)) (by first | rfl | (simp [h1]; done) | (congr 1; omega) | (simp [h1]; omega)) d_P_pushPair_42
  · refine lv_aload_n K.1 K.2.1 d_P_pushPair_11 rfl (lv_at hl 1 rfl) ?_
    refine pg_registers K hw d_P_pushPair_12 ?_
    refine nv_bipush (v := 7) K d_P_pushPair_15 (by decide) ?_
    refine pl_reg (i := 7) (v := z_x_reg σ 7) K hw (by omega) rfl d_P_pushPair_17 ?_
    have hb4 : z_x_reg σ 7 < 256 := z_k_reg hO _
    refine nv_bipush (v := 8) K d_P_pushPair_18 (by decide) ?_
    refine nv_ishl (M := 256) K (by omega) rfl (by omega) d_P_pushPair_20 ?_
    refine lv_aload_n K.1 K.2.1 d_P_pushPair_21 rfl (lv_at hl 1 rfl) ?_
    refine pg_flags K hw d_P_pushPair_22 ?_
    refine pki K (c_asByte (σ := σ) l D cI a hO) (cw_P_84 K (Nat.le_of_ble_eq_true rfl) (Nat.le_of_ble_eq_true rfl)) hw (va_recv (ci := 2) (q0 := 2) hw.2.2.2.1 hw.1 rfl rfl) rfl hl.1 rfl (Nat.le_of_ble_eq_true rfl) d_P_pushPair_25 ⟨Nat.zero_le _, Nat.zero_le _⟩ (fun H locs hw => ?_)
    have hb5 : z_fb σ < 256 := z_fb_lt hO
    refine nv_or256 K (by omega) d_P_pushPair_28 ?_
    refine lv_goto K.1 K.2.1 d_P_pushPair_29 rfl ?_
    refine pkv K (c_push (σ := σ) (v := (z_x_reg σ 7) * 256 + (z_fb σ)) l D cI a hO (by omega)) (cw_P_247 K (Nat.le_of_ble_eq_true rfl) (Nat.le_of_ble_eq_true rfl)) hw (va_recv (ci := 0) (q0 := 0) hw.2.2.2.1 hw.1 rfl rfl) rfl hl.1 rfl (Nat.le_of_ble_eq_true rfl) d_P_pushPair_37 ⟨Nat.zero_le _, Nat.zero_le _⟩ (fun H locs hw => ?_)
    have hO6 : z_Ok (z_pu σ ((z_x_reg σ 7) * 256 + (z_fb σ))) := z_ok_pu hO (by omega)
    refine nv_bipush (v := 11) K d_P_pushPair_40 (by decide) ?_
    exact pri K hr hlk hw (by unfold z_pq; first | (rw [if_pos (by omega)]; done) | (rw [if_neg (by omega)]; done)) (by first | rfl | (simp [h1]; done) | (congr 1; omega) | (simp [h1]; omega)) d_P_pushPair_42
end
section
set_option maxHeartbeats 4000000 in
set_option maxRecDepth 100000 in
theorem c_exchangeHlWithStack {σ : z_St} (l : Launch) (D : va_G) (cI : ClassId) (a : pAd) (hO : z_Ok σ) : pCi l y_P_exchangeHlWithStack w_P_exchangeHlWithStack 1 22 D cI a [.ref a.1] σ (z_xs σ) (nI 18) := by
  refine pci_of (cc := b_P_exchangeHlWithStack) (maxL := 4) (ret := (some .int)) (by decide) rfl (Nat.le_of_ble_eq_true rfl) ?_
  intro p e s m below meth c ls K hr hlk hl hw
  have K : CallFix p m c b_P_exchangeHlWithStack 4 s _ (_ :: T0) "PortProcessor" := K
  have hl : lv_has ls 4 [(0, .ref a.1)] := hl
  refine lv_aload_n K.1 K.2.1 d_P_exchangeHlWithStack_0 rfl (lv_at hl 0 rfl) ?_
  refine pg_stackPointer (v := z_x_sp σ) K hw rfl d_P_exchangeHlWithStack_1 ?_
  have hb1 : z_x_sp σ < 65536 := z_k_sp hO
  refine nv_iconst (v := 1) K d_P_exchangeHlWithStack_4 (by decide) ?_
  refine nv_iadd K d_P_exchangeHlWithStack_5 ?_
  refine nv_ldc (v := 65535) K d_P_exchangeHlWithStack_6 (K.2.2.2.2 _ (List.mem_cons_of_mem _ m_constant_PortProcessor_56_65535)) ?_
  refine nv_mask (M := 65536) K 16 rfl rfl d_P_exchangeHlWithStack_8 ?_
  refine lv_istore_n (lv' := [(1, .int (nI (((z_x_sp σ) + 1) % 65536))), (0, .ref a.1)]) K.1 K.2.1 d_P_exchangeHlWithStack_9 rfl hl (by decide) rfl (fun ls hl => ?_)
  refine lv_aload_n K.1 K.2.1 d_P_exchangeHlWithStack_10 rfl (lv_at hl 1 rfl) ?_
  refine pg_memory K hw d_P_exchangeHlWithStack_11 ?_
  refine lv_aload_n K.1 K.2.1 d_P_exchangeHlWithStack_14 rfl (lv_at hl 1 rfl) ?_
  refine pg_stackPointer (v := z_x_sp σ) K hw rfl d_P_exchangeHlWithStack_15 ?_
  refine pki K (c_read (σ := σ) (x := z_x_sp σ) l D cI a hO (by omega)) (cw_P_52 K (Nat.le_of_ble_eq_true rfl) (Nat.le_of_ble_eq_true rfl)) hw (va_recv (ci := 1) (q0 := 1) hw.2.2.2.1 hw.1 rfl rfl) rfl hl.1 rfl (Nat.le_of_ble_eq_true rfl) d_P_exchangeHlWithStack_18 ⟨Nat.zero_le _, Nat.zero_le _⟩ (fun H locs hw => ?_)
  have hb2 : z_rd σ (z_x_sp σ) < 256 := z_rd_lt hO _
  refine lv_istore_n (lv' := [(2, .int (nI (z_rd σ (z_x_sp σ)))), (1, .int (nI (((z_x_sp σ) + 1) % 65536))), (0, .ref a.1)]) K.1 K.2.1 d_P_exchangeHlWithStack_21 rfl hl (by decide) rfl (fun ls hl => ?_)
  refine lv_aload_n K.1 K.2.1 d_P_exchangeHlWithStack_22 rfl (lv_at hl 2 rfl) ?_
  refine pg_memory K hw d_P_exchangeHlWithStack_23 ?_
  refine lv_iload_n K.1 K.2.1 d_P_exchangeHlWithStack_26 rfl (lv_at hl 1 rfl) ?_
  refine pki K (c_read (σ := σ) (x := ((z_x_sp σ) + 1) % 65536) l D cI a hO (by omega)) (cw_P_52 K (Nat.le_of_ble_eq_true rfl) (Nat.le_of_ble_eq_true rfl)) hw (va_recv (ci := 1) (q0 := 1) hw.2.2.2.1 hw.1 rfl rfl) rfl hl.1 rfl (Nat.le_of_ble_eq_true rfl) d_P_exchangeHlWithStack_27 ⟨Nat.zero_le _, Nat.zero_le _⟩ (fun H locs hw => ?_)
  have hb3 : z_rd σ (((z_x_sp σ) + 1) % 65536) < 256 := z_rd_lt hO _
  refine lv_istore_n (lv' := [(3, .int (nI (z_rd σ (((z_x_sp σ) + 1) % 65536)))), (2, .int (nI (z_rd σ (z_x_sp σ)))), (1, .int (nI (((z_x_sp σ) + 1) % 65536))), (0, .ref a.1)]) K.1 K.2.1 d_P_exchangeHlWithStack_30 rfl hl (by decide) rfl (fun ls hl => ?_)
  refine lv_aload_n K.1 K.2.1 d_P_exchangeHlWithStack_31 rfl (lv_at hl 3 rfl) ?_
  refine pg_memory K hw d_P_exchangeHlWithStack_32 ?_
  refine lv_aload_n K.1 K.2.1 d_P_exchangeHlWithStack_35 rfl (lv_at hl 3 rfl) ?_
  refine pg_stackPointer (v := z_x_sp σ) K hw rfl d_P_exchangeHlWithStack_36 ?_
  refine lv_aload_n K.1 K.2.1 d_P_exchangeHlWithStack_39 rfl (lv_at hl 3 rfl) ?_
  refine pg_registers K hw d_P_exchangeHlWithStack_40 ?_
  refine nv_iconst (v := 5) K d_P_exchangeHlWithStack_43 (by decide) ?_
  refine pl_reg (i := 5) (v := z_x_reg σ 5) K hw (by omega) rfl d_P_exchangeHlWithStack_44 ?_
  have hb4 : z_x_reg σ 5 < 256 := z_k_reg hO _
  refine pkv K (c_write (σ := σ) (x := z_x_sp σ) (v := z_x_reg σ 5) l D cI a hO (by omega) (by omega)) (cw_P_46 K (Nat.le_of_ble_eq_true rfl) (Nat.le_of_ble_eq_true rfl)) hw (va_recv (ci := 1) (q0 := 1) hw.2.2.2.1 hw.1 rfl rfl) rfl hl.1 rfl (Nat.le_of_ble_eq_true rfl) d_P_exchangeHlWithStack_45 ⟨Nat.zero_le _, Nat.zero_le _⟩ (fun H locs hw => ?_)
  have hO5 : z_Ok (z_wr σ (z_x_sp σ) (z_x_reg σ 5)) := z_ok_wr hO _ (by omega)
  refine lv_aload_n K.1 K.2.1 d_P_exchangeHlWithStack_48 rfl (lv_at hl 3 rfl) ?_
  refine pg_memory K hw d_P_exchangeHlWithStack_49 ?_
  refine lv_iload_n K.1 K.2.1 d_P_exchangeHlWithStack_52 rfl (lv_at hl 2 rfl) ?_
  refine lv_aload_n K.1 K.2.1 d_P_exchangeHlWithStack_53 rfl (lv_at hl 3 rfl) ?_
  refine pg_registers K hw d_P_exchangeHlWithStack_54 ?_
  refine nv_iconst (v := 4) K d_P_exchangeHlWithStack_57 (by decide) ?_
  refine pl_reg (i := 4) (v := z_x_reg σ 4) K hw (by omega) rfl d_P_exchangeHlWithStack_58 ?_
  have hb6 : z_x_reg σ 4 < 256 := z_k_reg hO _
  refine pkv K (c_write (σ := z_wr σ (z_x_sp σ) (z_x_reg σ 5)) (x := ((z_x_sp σ) + 1) % 65536) (v := z_x_reg σ 4) l D cI a hO5 (by omega) (by omega)) (cw_P_46 K (Nat.le_of_ble_eq_true rfl) (Nat.le_of_ble_eq_true rfl)) hw (va_recv (ci := 1) (q0 := 1) hw.2.2.2.1 hw.1 rfl rfl) rfl hl.1 rfl (Nat.le_of_ble_eq_true rfl) d_P_exchangeHlWithStack_59 ⟨Nat.zero_le _, Nat.zero_le _⟩ (fun H locs hw => ?_)
  have hO7 : z_Ok (z_wr (z_wr σ (z_x_sp σ) (z_x_reg σ 5)) (((z_x_sp σ) + 1) % 65536) (z_x_reg σ 4)) := z_ok_wr hO5 _ (by omega)
  refine lv_aload_n K.1 K.2.1 d_P_exchangeHlWithStack_62 rfl (lv_at hl 3 rfl) ?_
  refine pg_registers K hw d_P_exchangeHlWithStack_63 ?_
  refine nv_iconst (v := 5) K d_P_exchangeHlWithStack_66 (by decide) ?_
  refine lv_iload_n K.1 K.2.1 d_P_exchangeHlWithStack_67 rfl (lv_at hl 1 rfl) ?_
  refine ps_reg (i := 5) (v := z_rd σ (z_x_sp σ)) K hw (by omega) d_P_exchangeHlWithStack_68 (fun H locs hw => ?_)
  have hO8 : z_Ok (z_s_reg (z_wr (z_wr σ (z_x_sp σ) (z_x_reg σ 5)) (((z_x_sp σ) + 1) % 65536) (z_x_reg σ 4)) (z_fs (z_x_reg σ) 5 (z_rd σ (z_x_sp σ)))) := z_ok_reg hO7 (z_fs_lt (z_k_reg hO) (by omega))
  refine lv_aload_n K.1 K.2.1 d_P_exchangeHlWithStack_69 rfl (lv_at hl 3 rfl) ?_
  refine pg_registers K hw d_P_exchangeHlWithStack_70 ?_
  refine nv_iconst (v := 4) K d_P_exchangeHlWithStack_73 (by decide) ?_
  refine lv_iload_n K.1 K.2.1 d_P_exchangeHlWithStack_74 rfl (lv_at hl 0 rfl) ?_
  refine ps_reg (i := 4) (v := z_rd σ (((z_x_sp σ) + 1) % 65536)) K hw (by omega) d_P_exchangeHlWithStack_75 (fun H locs hw => ?_)
  have hO9 : z_Ok (z_s_reg (z_s_reg (z_wr (z_wr σ (z_x_sp σ) (z_x_reg σ 5)) (((z_x_sp σ) + 1) % 65536) (z_x_reg σ 4)) (z_fs (z_x_reg σ) 5 (z_rd σ (z_x_sp σ)))) (z_fs (z_fs (z_x_reg σ) 5 (z_rd σ (z_x_sp σ))) 4 (z_rd σ (((z_x_sp σ) + 1) % 65536)))) := z_ok_reg hO8 (z_fs_lt (z_k_reg hO8) (by omega))
  refine nv_bipush (v := 18) K d_P_exchangeHlWithStack_76 (by decide) ?_
  exact pri K hr hlk hw (by rw [ss_reg]; rfl) (by first | rfl | (simp [z_xs, z_wr]; done) | (congr 1; omega) | (simp [z_xs, z_wr]; omega)) d_P_exchangeHlWithStack_78
set_option maxHeartbeats 4000000 in
set_option maxRecDepth 100000 in
theorem c_exchangeHlWithDe {σ : z_St} (l : Launch) (D : va_G) (cI : ClassId) (a : pAd) (hO : z_Ok σ) : pCi l y_P_exchangeHlWithDe w_P_exchangeHlWithDe 1 22 D cI a [.ref a.1] σ (z_xd σ) (nI 4) := by
  refine pci_of (cc := b_P_exchangeHlWithDe) (maxL := 2) (ret := (some .int)) (by decide) rfl (Nat.le_of_ble_eq_true rfl) ?_
  intro p e s m below meth c ls K hr hlk hl hw
  have K : CallFix p m c b_P_exchangeHlWithDe 2 s _ (_ :: T0) "PortProcessor" := K
  have hl : lv_has ls 2 [(0, .ref a.1)] := hl
  refine lv_aload_n K.1 K.2.1 d_P_exchangeHlWithDe_0 rfl (lv_at hl 0 rfl) ?_
  refine nv_iconst (v := 2) K d_P_exchangeHlWithDe_1 (by decide) ?_
  refine pki K (c_readPair (σ := σ) (k := 2) l D cI a hO (by omega)) (cw_P_199 K (Nat.le_of_ble_eq_true rfl) (Nat.le_of_ble_eq_true rfl)) hw (va_recv (ci := 0) (q0 := 0) hw.2.2.2.1 hw.1 rfl rfl) rfl hl.1 rfl (Nat.le_of_ble_eq_true rfl) d_P_exchangeHlWithDe_2 ⟨Nat.zero_le _, Nat.zero_le _⟩ (fun H locs hw => ?_)
  have hb1 : z_pg σ 2 < 65536 := z_pg_lt hO _
  refine lv_istore_n (lv' := [(1, .int (nI (z_pg σ 2))), (0, .ref a.1)]) K.1 K.2.1 d_P_exchangeHlWithDe_5 rfl hl (by decide) rfl (fun ls hl => ?_)
  refine lv_aload_n K.1 K.2.1 d_P_exchangeHlWithDe_6 rfl (lv_at hl 1 rfl) ?_
  refine nv_iconst (v := 2) K d_P_exchangeHlWithDe_7 (by decide) ?_
  refine lv_aload_n K.1 K.2.1 d_P_exchangeHlWithDe_8 rfl (lv_at hl 1 rfl) ?_
  refine nv_iconst (v := 1) K d_P_exchangeHlWithDe_9 (by decide) ?_
  refine pki K (c_readPair (σ := σ) (k := 1) l D cI a hO (by omega)) (cw_P_199 K (Nat.le_of_ble_eq_true rfl) (Nat.le_of_ble_eq_true rfl)) hw (va_recv (ci := 0) (q0 := 0) hw.2.2.2.1 hw.1 rfl rfl) rfl hl.1 rfl (Nat.le_of_ble_eq_true rfl) d_P_exchangeHlWithDe_10 ⟨Nat.zero_le _, Nat.zero_le _⟩ (fun H locs hw => ?_)
  have hb2 : z_pg σ 1 < 65536 := z_pg_lt hO _
  refine pkv K (c_writePair (σ := σ) (k := 2) (v := z_pg σ 1) l D cI a hO (by omega) (by omega)) (cw_P_196 K (Nat.le_of_ble_eq_true rfl) (Nat.le_of_ble_eq_true rfl)) hw (va_recv (ci := 0) (q0 := 0) hw.2.2.2.1 hw.1 rfl rfl) rfl hl.1 rfl (Nat.le_of_ble_eq_true rfl) d_P_exchangeHlWithDe_13 ⟨Nat.zero_le _, Nat.zero_le _⟩ (fun H locs hw => ?_)
  have hO3 : z_Ok (z_ps σ 2 (z_pg σ 1)) := z_ok_ps hO _ (by omega)
  refine lv_aload_n K.1 K.2.1 d_P_exchangeHlWithDe_16 rfl (lv_at hl 1 rfl) ?_
  refine nv_iconst (v := 1) K d_P_exchangeHlWithDe_17 (by decide) ?_
  refine lv_iload_n K.1 K.2.1 d_P_exchangeHlWithDe_18 rfl (lv_at hl 0 rfl) ?_
  refine pkv K (c_writePair (σ := z_ps σ 2 (z_pg σ 1)) (k := 1) (v := z_pg σ 2) l D cI a hO3 (by omega) (by omega)) (cw_P_196 K (Nat.le_of_ble_eq_true rfl) (Nat.le_of_ble_eq_true rfl)) hw (va_recv (ci := 0) (q0 := 0) hw.2.2.2.1 hw.1 rfl rfl) rfl hl.1 rfl (Nat.le_of_ble_eq_true rfl) d_P_exchangeHlWithDe_19 ⟨Nat.zero_le _, Nat.zero_le _⟩ (fun H locs hw => ?_)
  have hO4 : z_Ok (z_ps (z_ps σ 2 (z_pg σ 1)) 1 (z_pg σ 2)) := z_ok_ps hO3 _ (by omega)
  refine nv_iconst (v := 4) K d_P_exchangeHlWithDe_22 (by decide) ?_
  exact pri K hr hlk hw (by first | rfl | (simp [z_xd]; done) | (simp only [z_xd]; rfl)) (by first | rfl | (simp [z_xd]; done) | (congr 1; omega) | (simp [z_xd]; omega)) d_P_exchangeHlWithDe_23
end
section
set_option maxHeartbeats 4000000 in
set_option maxRecDepth 100000 in
theorem c_jumpExchangeOrSwitch {σ : z_St} {b : Nat} (l : Launch) (D : va_G) (cI : ClassId) (a : pAd) (hO : z_Ok σ) (hb : b < 256) : pCi l y_P_jumpExchangeOrSwitch w_P_jumpExchangeOrSwitch 3 63 D cI a [.ref a.1, .int (nI b)] σ (z_e3 σ (b / 8 % 8)) (nI (z_t3 (b / 8 % 8))) := by
  refine pci_of (cc := b_P_jumpExchangeOrSwitch) (maxL := 2) (ret := (some .int)) (by decide) rfl (Nat.le_of_ble_eq_true rfl) ?_
  intro p e s m below meth c ls K hr hlk hl hw
  have K : CallFix p m c b_P_jumpExchangeOrSwitch 2 s _ (_ :: T0) "PortProcessor" := K
  have hl : lv_has ls 2 [(0, .ref a.1), (1, .int (nI b))] := hl
  refine lv_iload_n K.1 K.2.1 d_P_jumpExchangeOrSwitch_0 rfl (lv_at hl 1 rfl) ?_
  refine psi K (c_targetOf (σ := σ) (b := b) l D cI a hO (by omega)) (cw_P_212 K (Nat.le_of_ble_eq_true rfl) (Nat.le_of_ble_eq_true rfl)) hw rfl hl.1 rfl (Nat.le_of_ble_eq_true rfl) d_P_jumpExchangeOrSwitch_1 ⟨Nat.zero_le _, Nat.zero_le _⟩ (fun H locs hw => ?_)
  rcases (by omega : (b / 8 % 8) = 0 ∨ (b / 8 % 8) = 1 ∨ (b / 8 % 8) = 2 ∨ (b / 8 % 8) = 3 ∨ (b / 8 % 8) = 4 ∨ (b / 8 % 8) = 5 ∨ (b / 8 % 8) = 6 ∨ (b / 8 % 8) = 7) with h1 | h1 | h1 | h1 | h1 | h1 | h1 | h1
  · refine nv_as K (congrArg nI h1) ?_
    refine nv_tabOut (a := 0) (tgt := 106) K d_P_jumpExchangeOrSwitch_4 (by decide) (by decide) rfl ?_
    refine lv_aload_n K.1 K.2.1 d_P_jumpExchangeOrSwitch_106 rfl (lv_at hl 0 rfl) ?_
    refine lv_aload_n K.1 K.2.1 d_P_jumpExchangeOrSwitch_107 rfl (lv_at hl 0 rfl) ?_
    refine pki K (c_nextTwoBytes (σ := σ) l D cI a hO) (cw_P_193 K (Nat.le_of_ble_eq_true rfl) (Nat.le_of_ble_eq_true rfl)) hw (va_recv (ci := 0) (q0 := 0) hw.2.2.2.1 hw.1 rfl rfl) rfl hl.1 rfl (Nat.le_of_ble_eq_true rfl) d_P_jumpExchangeOrSwitch_108 ⟨Nat.zero_le _, Nat.zero_le _⟩ (fun H locs hw => ?_)
    have hO2 : z_Ok (z_nn σ) := z_ok_nn hO
    have hb3 : z_nw σ < 65536 := z_nw_lt hO
    refine pp_programCounter (v := z_nw σ) K hw d_P_jumpExchangeOrSwitch_111 (fun H locs hw => ?_)
    have hO4 : z_Ok (z_s_pc (z_nn σ) (z_nw σ)) := z_ok_pc hO2 (by omega)
    refine nv_bipush (v := 10) K d_P_jumpExchangeOrSwitch_114 (by decide) ?_
    exact pri K hr hlk hw (by rw [h1]; rfl) (by rw [h1]; rfl) d_P_jumpExchangeOrSwitch_116
  · refine nv_as K (congrArg nI h1) ?_
    refine nv_tabOut (a := 1) (tgt := 106) K d_P_jumpExchangeOrSwitch_4 (by decide) (by decide) rfl ?_
    refine lv_aload_n K.1 K.2.1 d_P_jumpExchangeOrSwitch_106 rfl (lv_at hl 0 rfl) ?_
    refine lv_aload_n K.1 K.2.1 d_P_jumpExchangeOrSwitch_107 rfl (lv_at hl 0 rfl) ?_
    refine pki K (c_nextTwoBytes (σ := σ) l D cI a hO) (cw_P_193 K (Nat.le_of_ble_eq_true rfl) (Nat.le_of_ble_eq_true rfl)) hw (va_recv (ci := 0) (q0 := 0) hw.2.2.2.1 hw.1 rfl rfl) rfl hl.1 rfl (Nat.le_of_ble_eq_true rfl) d_P_jumpExchangeOrSwitch_108 ⟨Nat.zero_le _, Nat.zero_le _⟩ (fun H locs hw => ?_)
    have hO5 : z_Ok (z_nn σ) := z_ok_nn hO
    have hb6 : z_nw σ < 65536 := z_nw_lt hO
    refine pp_programCounter (v := z_nw σ) K hw d_P_jumpExchangeOrSwitch_111 (fun H locs hw => ?_)
    have hO7 : z_Ok (z_s_pc (z_nn σ) (z_nw σ)) := z_ok_pc hO5 (by omega)
    refine nv_bipush (v := 10) K d_P_jumpExchangeOrSwitch_114 (by decide) ?_
    exact pri K hr hlk hw (by rw [h1]; rfl) (by rw [h1]; rfl) d_P_jumpExchangeOrSwitch_116
  · refine nv_as K (congrArg nI h1) ?_
    refine nv_tabIn (a := 2) (tgt := 44) K d_P_jumpExchangeOrSwitch_4 (by decide) (by decide) (by decide) rfl rfl ?_
    refine lv_aload_n K.1 K.2.1 d_P_jumpExchangeOrSwitch_44 rfl (lv_at hl 0 rfl) ?_
    refine pg_putOut K hw d_P_jumpExchangeOrSwitch_45 ?_
    refine lv_aload_n K.1 K.2.1 d_P_jumpExchangeOrSwitch_48 rfl (lv_at hl 0 rfl) ?_
    refine pki K (c_nextByte (σ := σ) l D cI a hO) (cw_P_121 K (Nat.le_of_ble_eq_true rfl) (Nat.le_of_ble_eq_true rfl)) hw (va_recv (ci := 0) (q0 := 0) hw.2.2.2.1 hw.1 rfl rfl) rfl hl.1 rfl (Nat.le_of_ble_eq_true rfl) d_P_jumpExchangeOrSwitch_49 ⟨Nat.zero_le _, Nat.zero_le _⟩ (fun H locs hw => ?_)
    have hO8 : z_Ok (z_nx σ) := z_ok_nx hO
    have hb9 : z_nb σ < 256 := z_nb_lt hO
    refine lv_aload_n K.1 K.2.1 d_P_jumpExchangeOrSwitch_52 rfl (lv_at hl 0 rfl) ?_
    refine pg_registers K hw d_P_jumpExchangeOrSwitch_53 ?_
    refine nv_bipush (v := 7) K d_P_jumpExchangeOrSwitch_56 (by decide) ?_
    refine pl_reg (i := 7) (v := z_x_reg σ 7) K hw (by omega) rfl d_P_jumpExchangeOrSwitch_58 ?_
    have hb10 : z_x_reg σ 7 < 256 := z_k_reg hO _
    refine ps_put (i := z_nb σ) (v := z_x_reg σ 7) K hw (by omega) d_P_jumpExchangeOrSwitch_59 (fun H locs hw => ?_)
    have hO11 : z_Ok (z_s_put (z_nx σ) (z_fs (z_x_put σ) (z_nb σ) ((z_x_reg σ 7) + 1))) := z_ok_put hO8 (z_fs_lt (z_k_put hO) (by omega))
    refine nv_bipush (v := 10) K d_P_jumpExchangeOrSwitch_60 (by decide) ?_
    exact pri K hr hlk hw (by rw [h1]; rfl) (by rw [h1]; rfl) d_P_jumpExchangeOrSwitch_62
  · refine nv_as K (congrArg nI h1) ?_
    refine nv_tabIn (a := 3) (tgt := 63) K d_P_jumpExchangeOrSwitch_4 (by decide) (by decide) (by decide) rfl rfl ?_
    refine lv_aload_n K.1 K.2.1 d_P_jumpExchangeOrSwitch_63 rfl (lv_at hl 0 rfl) ?_
    refine pg_registers K hw d_P_jumpExchangeOrSwitch_64 ?_
    refine nv_bipush (v := 7) K d_P_jumpExchangeOrSwitch_67 (by decide) ?_
    refine lv_aload_n K.1 K.2.1 d_P_jumpExchangeOrSwitch_69 rfl (lv_at hl 0 rfl) ?_
    refine pg_broughtIn K hw d_P_jumpExchangeOrSwitch_70 ?_
    refine lv_aload_n K.1 K.2.1 d_P_jumpExchangeOrSwitch_73 rfl (lv_at hl 0 rfl) ?_
    refine pki K (c_nextByte (σ := σ) l D cI a hO) (cw_P_121 K (Nat.le_of_ble_eq_true rfl) (Nat.le_of_ble_eq_true rfl)) hw (va_recv (ci := 0) (q0 := 0) hw.2.2.2.1 hw.1 rfl rfl) rfl hl.1 rfl (Nat.le_of_ble_eq_true rfl) d_P_jumpExchangeOrSwitch_74 ⟨Nat.zero_le _, Nat.zero_le _⟩ (fun H locs hw => ?_)
    have hO12 : z_Ok (z_nx σ) := z_ok_nx hO
    have hb13 : z_nb σ < 256 := z_nb_lt hO
    refine pl_inn (i := z_nb σ) (v := z_x_inn σ (z_nb σ)) K hw (by omega) rfl d_P_jumpExchangeOrSwitch_77 ?_
    have hb14 : z_x_inn σ (z_nb σ) < 256 := z_k_inn hO _
    refine ps_reg (i := 7) (v := z_x_inn σ (z_nb σ)) K hw (by omega) d_P_jumpExchangeOrSwitch_78 (fun H locs hw => ?_)
    have hO15 : z_Ok (z_s_reg (z_nx σ) (z_fs (z_x_reg σ) 7 (z_x_inn σ (z_nb σ)))) := z_ok_reg hO12 (z_fs_lt (z_k_reg hO) (by omega))
    refine nv_bipush (v := 10) K d_P_jumpExchangeOrSwitch_79 (by decide) ?_
    exact pri K hr hlk hw (by rw [h1]; rfl) (by rw [h1]; rfl) d_P_jumpExchangeOrSwitch_81
  · refine nv_as K (congrArg nI h1) ?_
    refine nv_tabIn (a := 4) (tgt := 82) K d_P_jumpExchangeOrSwitch_4 (by decide) (by decide) (by decide) rfl rfl ?_
    refine lv_aload_n K.1 K.2.1 d_P_jumpExchangeOrSwitch_82 rfl (lv_at hl 0 rfl) ?_
    refine pki K (c_exchangeHlWithStack (σ := σ) l D cI a hO) (cw_P_250 K (Nat.le_of_ble_eq_true rfl) (Nat.le_of_ble_eq_true rfl)) hw (va_recv (ci := 0) (q0 := 0) hw.2.2.2.1 hw.1 rfl rfl) rfl hl.1 rfl (Nat.le_of_ble_eq_true rfl) d_P_jumpExchangeOrSwitch_83 ⟨Nat.zero_le _, Nat.zero_le _⟩ (fun H locs hw => ?_)
    have hO16 : z_Ok (z_xs σ) := z_ok_xs hO
    exact pri K hr hlk hw (by rw [h1]; rfl) (by rw [h1]; rfl) d_P_jumpExchangeOrSwitch_86
  · refine nv_as K (congrArg nI h1) ?_
    refine nv_tabIn (a := 5) (tgt := 87) K d_P_jumpExchangeOrSwitch_4 (by decide) (by decide) (by decide) rfl rfl ?_
    refine lv_aload_n K.1 K.2.1 d_P_jumpExchangeOrSwitch_87 rfl (lv_at hl 0 rfl) ?_
    refine pki K (c_exchangeHlWithDe (σ := σ) l D cI a hO) (cw_P_253 K (Nat.le_of_ble_eq_true rfl) (Nat.le_of_ble_eq_true rfl)) hw (va_recv (ci := 0) (q0 := 0) hw.2.2.2.1 hw.1 rfl rfl) rfl hl.1 rfl (Nat.le_of_ble_eq_true rfl) d_P_jumpExchangeOrSwitch_88 ⟨Nat.zero_le _, Nat.zero_le _⟩ (fun H locs hw => ?_)
    have hO17 : z_Ok (z_xd σ) := z_ok_xd hO
    exact pri K hr hlk hw (by rw [h1]; rfl) (by rw [h1]; rfl) d_P_jumpExchangeOrSwitch_91
  · refine nv_as K (congrArg nI h1) ?_
    refine nv_tabIn (a := 6) (tgt := 92) K d_P_jumpExchangeOrSwitch_4 (by decide) (by decide) (by decide) rfl rfl ?_
    refine lv_aload_n K.1 K.2.1 d_P_jumpExchangeOrSwitch_92 rfl (lv_at hl 0 rfl) ?_
    refine nv_iconst (v := 0) K d_P_jumpExchangeOrSwitch_93 (by decide) ?_
    refine pp_interruptsOn (v := 0) K hw (by omega) d_P_jumpExchangeOrSwitch_94 (fun H locs hw => ?_)
    have hO18 : z_Ok (z_s_it σ 0) := z_ok_it hO (by omega)
    refine nv_iconst (v := 4) K d_P_jumpExchangeOrSwitch_97 (by decide) ?_
    exact pri K hr hlk hw (by rw [h1]; rfl) (by rw [h1]; rfl) d_P_jumpExchangeOrSwitch_98
  · refine nv_as K (congrArg nI h1) ?_
    refine nv_tabIn (a := 7) (tgt := 99) K d_P_jumpExchangeOrSwitch_4 (by decide) (by decide) (by decide) rfl rfl ?_
    refine lv_aload_n K.1 K.2.1 d_P_jumpExchangeOrSwitch_99 rfl (lv_at hl 0 rfl) ?_
    refine nv_iconst (v := 1) K d_P_jumpExchangeOrSwitch_100 (by decide) ?_
    refine pp_interruptsOn (v := 1) K hw (by omega) d_P_jumpExchangeOrSwitch_101 (fun H locs hw => ?_)
    have hO19 : z_Ok (z_s_it σ 1) := z_ok_it hO (by omega)
    refine nv_iconst (v := 4) K d_P_jumpExchangeOrSwitch_104 (by decide) ?_
    exact pri K hr hlk hw (by rw [h1]; rfl) (by rw [h1]; rfl) d_P_jumpExchangeOrSwitch_105
end
section
set_option maxHeartbeats 4000000 in
set_option maxRecDepth 100000 in
theorem c_doFirstQuarter {σ : z_St} {b : Nat} (l : Launch) (D : va_G) (cI : ClassId) (a : pAd) (hO : z_Ok σ) (hb : b < 64) : pCi l y_P_doFirstQuarter w_P_doFirstQuarter 4 87 D cI a [.ref a.1, .int (nI b)] σ (z_ea σ b) (nI (z_ta b)) := by
  refine pci_of (cc := b_P_doFirstQuarter) (maxL := 2) (ret := (some .int)) (by decide) rfl (Nat.le_of_ble_eq_true rfl) ?_
  intro p e s m below meth c ls K hr hlk hl hw
  have K : CallFix p m c b_P_doFirstQuarter 2 s _ (_ :: T0) "PortProcessor" := K
  have hl : lv_has ls 2 [(0, .ref a.1), (1, .int (nI b))] := hl
  refine lv_iload_n K.1 K.2.1 d_P_doFirstQuarter_0 rfl (lv_at hl 1 rfl) ?_
  refine nv_bipush (v := 7) K d_P_doFirstQuarter_1 (by decide) ?_
  refine nv_mask (M := 8) K 3 rfl rfl d_P_doFirstQuarter_3 ?_
  rcases (by omega : (b % 8) = 0 ∨ (b % 8) = 1 ∨ (b % 8) = 2 ∨ (b % 8) = 3 ∨ (b % 8) = 4 ∨ (b % 8) = 5 ∨ (b % 8) = 6 ∨ (b % 8) = 7) with h1 | h1 | h1 | h1 | h1 | h1 | h1 | h1
  · refine nv_as K (congrArg nI h1) ?_
    refine nv_tabOut (a := 0) (tgt := 105) K d_P_doFirstQuarter_4 (by decide) (by decide) rfl ?_
    refine nv_iconst (v := 4) K d_P_doFirstQuarter_105 (by decide) ?_
    exact pri K hr hlk hw (by unfold z_ea; rw [h1]; rfl) (by unfold z_ta; rw [h1]; rfl) d_P_doFirstQuarter_106
  · refine nv_as K (congrArg nI h1) ?_
    refine nv_tabIn (a := 1) (tgt := 48) K d_P_doFirstQuarter_4 (by decide) (by decide) (by decide) rfl rfl ?_
    refine lv_iload_n K.1 K.2.1 d_P_doFirstQuarter_48 rfl (lv_at hl 1 rfl) ?_
    refine nv_bipush (v := 8) K d_P_doFirstQuarter_49 (by decide) ?_
    refine nv_iand K d_P_doFirstQuarter_51 ?_
    have hb2 : b &&& 8 ≤ 8 := Nat.and_le_right
    have hb3 : b &&& 8 = 8 * (b / 8 % 2) := nz_b8 _ (by omega)
    refine nv_if_ne K (by omega) d_P_doFirstQuarter_52 rfl (fun h4 => ?_) (fun h4 => ?_)
    · refine lv_aload_n K.1 K.2.1 d_P_doFirstQuarter_63 rfl (lv_at hl 0 rfl) ?_
      refine lv_iload_n K.1 K.2.1 d_P_doFirstQuarter_64 rfl (lv_at hl 1 rfl) ?_
      refine pki K (c_addPair (σ := σ) (b := b) l D cI a hO (by omega)) (cw_P_142 K (Nat.le_of_ble_eq_true rfl) (Nat.le_of_ble_eq_true rfl)) hw (va_recv (ci := 0) (q0 := 0) hw.2.2.2.1 hw.1 rfl rfl) rfl hl.1 rfl (Nat.le_of_ble_eq_true rfl) d_P_doFirstQuarter_65 ⟨Nat.zero_le _, Nat.zero_le _⟩ (fun H locs hw => ?_)
      have hO5 : z_Ok (z_ad σ (b / 16 % 4)) := z_ok_ad hO _
      exact pri K hr hlk hw (by unfold z_ea; exact ((if_neg (by omega)).trans ((if_pos h1).trans (if_neg (by omega)))).symm) (by unfold z_ta; rw [h1]; rfl) d_P_doFirstQuarter_68
    · refine lv_aload_n K.1 K.2.1 d_P_doFirstQuarter_55 rfl (lv_at hl 0 rfl) ?_
      refine lv_iload_n K.1 K.2.1 d_P_doFirstQuarter_56 rfl (lv_at hl 1 rfl) ?_
      refine pki K (c_fillPair (σ := σ) (b := b) l D cI a hO (by omega)) (cw_P_139 K (Nat.le_of_ble_eq_true rfl) (Nat.le_of_ble_eq_true rfl)) hw (va_recv (ci := 0) (q0 := 0) hw.2.2.2.1 hw.1 rfl rfl) rfl hl.1 rfl (Nat.le_of_ble_eq_true rfl) d_P_doFirstQuarter_57 ⟨Nat.zero_le _, Nat.zero_le _⟩ (fun H locs hw => ?_)
      have hO6 : z_Ok (z_ps (z_nn σ) (b / 16 % 4) (z_nw σ)) := z_ok_ps (z_ok_nn hO) _ (z_nw_lt hO)
      refine lv_goto K.1 K.2.1 d_P_doFirstQuarter_60 rfl ?_
      exact pri K hr hlk hw (by unfold z_ea; exact ((if_neg (by omega)).trans ((if_pos h1).trans (if_pos (by omega)))).symm) (by unfold z_ta; rw [h1]; rfl) d_P_doFirstQuarter_68
  · refine nv_as K (congrArg nI h1) ?_
    refine nv_tabIn (a := 2) (tgt := 69) K d_P_doFirstQuarter_4 (by decide) (by decide) (by decide) rfl rfl ?_
    refine lv_aload_n K.1 K.2.1 d_P_doFirstQuarter_69 rfl (lv_at hl 0 rfl) ?_
    refine lv_iload_n K.1 K.2.1 d_P_doFirstQuarter_70 rfl (lv_at hl 1 rfl) ?_
    refine pki K (c_storeOrFetch (σ := σ) (b := b) l D cI a hO (by omega)) (cw_P_145 K (Nat.le_of_ble_eq_true rfl) (Nat.le_of_ble_eq_true rfl)) hw (va_recv (ci := 0) (q0 := 0) hw.2.2.2.1 hw.1 rfl rfl) rfl hl.1 rfl (Nat.le_of_ble_eq_true rfl) d_P_doFirstQuarter_71 ⟨Nat.zero_le _, Nat.zero_le _⟩ (fun H locs hw => ?_)
    have hO7 : z_Ok (z_e2 σ (b / 8)) := z_ok_e2 hO _
    have hb8 : z_t2 (b / 8) < 17 := z_t2_lt _
    exact pri K hr hlk hw (by unfold z_ea; rw [h1]; rfl) (by unfold z_ta; rw [h1]; rfl) d_P_doFirstQuarter_74
  · refine nv_as K (congrArg nI h1) ?_
    refine nv_tabIn (a := 3) (tgt := 75) K d_P_doFirstQuarter_4 (by decide) (by decide) (by decide) rfl rfl ?_
    refine lv_aload_n K.1 K.2.1 d_P_doFirstQuarter_75 rfl (lv_at hl 0 rfl) ?_
    refine lv_iload_n K.1 K.2.1 d_P_doFirstQuarter_76 rfl (lv_at hl 1 rfl) ?_
    refine pki K (c_countPair (σ := σ) (b := b) l D cI a hO (by omega)) (cw_P_148 K (Nat.le_of_ble_eq_true rfl) (Nat.le_of_ble_eq_true rfl)) hw (va_recv (ci := 0) (q0 := 0) hw.2.2.2.1 hw.1 rfl rfl) rfl hl.1 rfl (Nat.le_of_ble_eq_true rfl) d_P_doFirstQuarter_77 ⟨Nat.zero_le _, Nat.zero_le _⟩ (fun H locs hw => ?_)
    have hO9 : z_Ok (z_ps σ (b / 16 % 4) ((z_pg σ (b / 16 % 4) + (if b / 8 % 2 = 0 then 1 else 65535)) % 65536)) := z_ok_ps hO _ (by omega)
    exact pri K hr hlk hw (by unfold z_ea; rw [h1]; rfl) (by unfold z_ta; rw [h1]; rfl) d_P_doFirstQuarter_80
  · refine nv_as K (congrArg nI h1) ?_
    refine nv_tabIn (a := 4) (tgt := 81) K d_P_doFirstQuarter_4 (by decide) (by decide) (by decide) rfl rfl ?_
    refine lv_aload_n K.1 K.2.1 d_P_doFirstQuarter_81 rfl (lv_at hl 0 rfl) ?_
    refine lv_iload_n K.1 K.2.1 d_P_doFirstQuarter_82 rfl (lv_at hl 1 rfl) ?_
    refine pki K (c_raise (σ := σ) (b := b) l D cI a hO (by omega)) (cw_P_151 K (Nat.le_of_ble_eq_true rfl) (Nat.le_of_ble_eq_true rfl)) hw (va_recv (ci := 0) (q0 := 0) hw.2.2.2.1 hw.1 rfl rfl) rfl hl.1 rfl (Nat.le_of_ble_eq_true rfl) d_P_doFirstQuarter_83 ⟨Nat.zero_le _, Nat.zero_le _⟩ (fun H locs hw => ?_)
    have hO10 : z_Ok (z_rs (z_up σ (z_rg σ (b / 8 % 8))) (b / 8 % 8) ((z_rg σ (b / 8 % 8) + 1) % 256)) := z_ok_rs (z_ok_up hO _) _ (by omega)
    have hb11 : (if b / 8 % 8 = 6 then 10 else 5) < 11 := z_ite_ltB _ (by omega) (by omega)
    exact pri K hr hlk hw (by unfold z_ea; rw [h1]; rfl) (by unfold z_ta; rw [h1]; rfl) d_P_doFirstQuarter_86
  · refine nv_as K (congrArg nI h1) ?_
    refine nv_tabIn (a := 5) (tgt := 87) K d_P_doFirstQuarter_4 (by decide) (by decide) (by decide) rfl rfl ?_
    refine lv_aload_n K.1 K.2.1 d_P_doFirstQuarter_87 rfl (lv_at hl 0 rfl) ?_
    refine lv_iload_n K.1 K.2.1 d_P_doFirstQuarter_88 rfl (lv_at hl 1 rfl) ?_
    refine pki K (c_lower (σ := σ) (b := b) l D cI a hO (by omega)) (cw_P_154 K (Nat.le_of_ble_eq_true rfl) (Nat.le_of_ble_eq_true rfl)) hw (va_recv (ci := 0) (q0 := 0) hw.2.2.2.1 hw.1 rfl rfl) rfl hl.1 rfl (Nat.le_of_ble_eq_true rfl) d_P_doFirstQuarter_89 ⟨Nat.zero_le _, Nat.zero_le _⟩ (fun H locs hw => ?_)
    have hO12 : z_Ok (z_rs (z_dn σ (z_rg σ (b / 8 % 8))) (b / 8 % 8) ((z_rg σ (b / 8 % 8) + 255) % 256)) := z_ok_rs (z_ok_dn hO _) _ (by omega)
    have hb13 : (if b / 8 % 8 = 6 then 10 else 5) < 11 := z_ite_ltB _ (by omega) (by omega)
    exact pri K hr hlk hw (by unfold z_ea; rw [h1]; rfl) (by unfold z_ta; rw [h1]; rfl) d_P_doFirstQuarter_92
  · refine nv_as K (congrArg nI h1) ?_
    refine nv_tabIn (a := 6) (tgt := 93) K d_P_doFirstQuarter_4 (by decide) (by decide) (by decide) rfl rfl ?_
    refine lv_aload_n K.1 K.2.1 d_P_doFirstQuarter_93 rfl (lv_at hl 0 rfl) ?_
    refine lv_iload_n K.1 K.2.1 d_P_doFirstQuarter_94 rfl (lv_at hl 1 rfl) ?_
    refine pki K (c_fillRegister (σ := σ) (b := b) l D cI a hO (by omega)) (cw_P_157 K (Nat.le_of_ble_eq_true rfl) (Nat.le_of_ble_eq_true rfl)) hw (va_recv (ci := 0) (q0 := 0) hw.2.2.2.1 hw.1 rfl rfl) rfl hl.1 rfl (Nat.le_of_ble_eq_true rfl) d_P_doFirstQuarter_95 ⟨Nat.zero_le _, Nat.zero_le _⟩ (fun H locs hw => ?_)
    have hO14 : z_Ok (z_rs (z_nx σ) (b / 8 % 8) (z_nb σ)) := z_ok_rs (z_ok_nx hO) _ (z_nb_lt hO)
    have hb15 : (if b / 8 % 8 = 6 then 10 else 7) < 11 := z_ite_ltB _ (by omega) (by omega)
    exact pri K hr hlk hw (by unfold z_ea; rw [h1]; rfl) (by unfold z_ta; rw [h1]; rfl) d_P_doFirstQuarter_98
  · refine nv_as K (congrArg nI h1) ?_
    refine nv_tabIn (a := 7) (tgt := 99) K d_P_doFirstQuarter_4 (by decide) (by decide) (by decide) rfl rfl ?_
    refine lv_aload_n K.1 K.2.1 d_P_doFirstQuarter_99 rfl (lv_at hl 0 rfl) ?_
    refine lv_iload_n K.1 K.2.1 d_P_doFirstQuarter_100 rfl (lv_at hl 1 rfl) ?_
    refine pki K (c_workOnA (σ := σ) (b := b) l D cI a hO (by omega)) (cw_P_160 K (Nat.le_of_ble_eq_true rfl) (Nat.le_of_ble_eq_true rfl)) hw (va_recv (ci := 0) (q0 := 0) hw.2.2.2.1 hw.1 rfl rfl) rfl hl.1 rfl (Nat.le_of_ble_eq_true rfl) d_P_doFirstQuarter_101 ⟨Nat.zero_le _, Nat.zero_le _⟩ (fun H locs hw => ?_)
    have hO16 : z_Ok (z_e7 σ (b / 8)) := z_ok_e7 hO _
    exact pri K hr hlk hw (by unfold z_ea; rw [h1]; rfl) (by unfold z_ta; rw [h1]; rfl) d_P_doFirstQuarter_104
end
section
set_option maxHeartbeats 4000000 in
set_option maxRecDepth 100000 in
theorem c_doLastQuarter {σ : z_St} {b : Nat} (l : Launch) (D : va_G) (cI : ClassId) (a : pAd) (hO : z_Ok σ) (hb : b < 256) : pCi l y_P_doLastQuarter w_P_doLastQuarter 4 93 D cI a [.ref a.1, .int (nI b)] σ (z_ed σ b) (nI (z_td σ b)) := by
  refine pci_of (cc := b_P_doLastQuarter) (maxL := 2) (ret := (some .int)) (by decide) rfl (Nat.le_of_ble_eq_true rfl) ?_
  intro p e s m below meth c ls K hr hlk hl hw
  have K : CallFix p m c b_P_doLastQuarter 2 s _ (_ :: T0) "PortProcessor" := K
  have hl : lv_has ls 2 [(0, .ref a.1), (1, .int (nI b))] := hl
  refine lv_iload_n K.1 K.2.1 d_P_doLastQuarter_0 rfl (lv_at hl 1 rfl) ?_
  refine nv_bipush (v := 7) K d_P_doLastQuarter_1 (by decide) ?_
  refine nv_mask (M := 8) K 3 rfl rfl d_P_doLastQuarter_3 ?_
  rcases (by omega : (b % 8) = 0 ∨ (b % 8) = 1 ∨ (b % 8) = 2 ∨ (b % 8) = 3 ∨ (b % 8) = 4 ∨ (b % 8) = 5 ∨ (b % 8) = 6 ∨ (b % 8) = 7) with h1 | h1 | h1 | h1 | h1 | h1 | h1 | h1
  · refine nv_as K (congrArg nI h1) ?_
    refine nv_tabIn (a := 0) (tgt := 48) K d_P_doLastQuarter_4 (by decide) (by decide) (by decide) rfl rfl ?_
    refine lv_aload_n K.1 K.2.1 d_P_doLastQuarter_48 rfl (lv_at hl 0 rfl) ?_
    refine lv_iload_n K.1 K.2.1 d_P_doLastQuarter_49 rfl (lv_at hl 1 rfl) ?_
    refine pki K (c_returnOnCondition (σ := σ) (b := b) l D cI a hO (by omega)) (cw_P_163 K (Nat.le_of_ble_eq_true rfl) (Nat.le_of_ble_eq_true rfl)) hw (va_recv (ci := 0) (q0 := 0) hw.2.2.2.1 hw.1 rfl rfl) rfl hl.1 rfl (Nat.le_of_ble_eq_true rfl) d_P_doLastQuarter_50 ⟨Nat.zero_le _, Nat.zero_le _⟩ (fun H locs hw => ?_)
    have hO2 : z_Ok (if z_hold σ (b / 8 % 8) = 1 then z_rt σ else σ) := z_ok_j3 hO _
    have hb3 : (if z_hold σ (b / 8 % 8) = 1 then 11 else 5) < 12 := z_ite_ltB _ (by omega) (by omega)
    exact pri K hr hlk hw (by unfold z_ed; rw [h1]; rfl) (by unfold z_td; rw [h1]; rfl) d_P_doLastQuarter_53
  · refine nv_as K (congrArg nI h1) ?_
    refine nv_tabIn (a := 1) (tgt := 54) K d_P_doLastQuarter_4 (by decide) (by decide) (by decide) rfl rfl ?_
    refine lv_iload_n K.1 K.2.1 d_P_doLastQuarter_54 rfl (lv_at hl 1 rfl) ?_
    refine nv_bipush (v := 8) K d_P_doLastQuarter_55 (by decide) ?_
    refine nv_iand K d_P_doLastQuarter_57 ?_
    have hb4 : b &&& 8 ≤ 8 := Nat.and_le_right
    have hb5 : b &&& 8 = 8 * (b / 8 % 2) := nz_b8 _ (by omega)
    refine nv_if_ne K (by omega) d_P_doLastQuarter_58 rfl (fun h6 => ?_) (fun h6 => ?_)
    · refine lv_aload_n K.1 K.2.1 d_P_doLastQuarter_69 rfl (lv_at hl 0 rfl) ?_
      refine lv_iload_n K.1 K.2.1 d_P_doLastQuarter_70 rfl (lv_at hl 1 rfl) ?_
      refine pki K (c_returnOrCopyHl (σ := σ) (b := b) l D cI a hO (by omega)) (cw_P_169 K (Nat.le_of_ble_eq_true rfl) (Nat.le_of_ble_eq_true rfl)) hw (va_recv (ci := 0) (q0 := 0) hw.2.2.2.1 hw.1 rfl rfl) rfl hl.1 rfl (Nat.le_of_ble_eq_true rfl) d_P_doLastQuarter_71 ⟨Nat.zero_le _, Nat.zero_le _⟩ (fun H locs hw => ?_)
      have hO7 : z_Ok (if b / 16 % 4 = 2 then z_s_pc σ (z_pg σ 2) else if b / 16 % 4 = 3 then z_s_sp σ (z_pg σ 2) else z_rt σ) := z_ok_j4 hO _
      have hb8 : (if b / 16 % 4 = 2 then 5 else if b / 16 % 4 = 3 then 5 else 10) < 11 := z_ite_ltB _ (by omega) (z_ite_ltB _ (by omega) (by omega))
      exact pri K hr hlk hw (by unfold z_ed; exact ((if_neg (by omega)).trans ((if_pos h1).trans (if_neg (by omega)))).symm) (congrArg nI (by unfold z_td; exact ((if_neg (by omega)).trans ((if_pos h1).trans (if_neg (by omega)))).symm)) d_P_doLastQuarter_74
    · refine lv_aload_n K.1 K.2.1 d_P_doLastQuarter_61 rfl (lv_at hl 0 rfl) ?_
      refine lv_iload_n K.1 K.2.1 d_P_doLastQuarter_62 rfl (lv_at hl 1 rfl) ?_
      refine pki K (c_popPair (σ := σ) (b := b) l D cI a hO (by omega)) (cw_P_166 K (Nat.le_of_ble_eq_true rfl) (Nat.le_of_ble_eq_true rfl)) hw (va_recv (ci := 0) (q0 := 0) hw.2.2.2.1 hw.1 rfl rfl) rfl hl.1 rfl (Nat.le_of_ble_eq_true rfl) d_P_doLastQuarter_63 ⟨Nat.zero_le _, Nat.zero_le _⟩ (fun H locs hw => ?_)
      have hO9 : z_Ok (z_pp σ (b / 16 % 4)) := z_ok_pp hO _
      refine lv_goto K.1 K.2.1 d_P_doLastQuarter_66 rfl ?_
      exact pri K hr hlk hw (by unfold z_ed; exact ((if_neg (by omega)).trans ((if_pos h1).trans (if_pos (by omega)))).symm) (congrArg nI (by unfold z_td; exact ((if_neg (by omega)).trans ((if_pos h1).trans (if_pos (by omega)))).symm)) d_P_doLastQuarter_74
  · refine nv_as K (congrArg nI h1) ?_
    refine nv_tabIn (a := 2) (tgt := 75) K d_P_doLastQuarter_4 (by decide) (by decide) (by decide) rfl rfl ?_
    refine lv_aload_n K.1 K.2.1 d_P_doLastQuarter_75 rfl (lv_at hl 0 rfl) ?_
    refine lv_iload_n K.1 K.2.1 d_P_doLastQuarter_76 rfl (lv_at hl 1 rfl) ?_
    refine pki K (c_jumpOnCondition (σ := σ) (b := b) l D cI a hO (by omega)) (cw_P_172 K (Nat.le_of_ble_eq_true rfl) (Nat.le_of_ble_eq_true rfl)) hw (va_recv (ci := 0) (q0 := 0) hw.2.2.2.1 hw.1 rfl rfl) rfl hl.1 rfl (Nat.le_of_ble_eq_true rfl) d_P_doLastQuarter_77 ⟨Nat.zero_le _, Nat.zero_le _⟩ (fun H locs hw => ?_)
    have hO10 : z_Ok (if z_hold σ (b / 8 % 8) = 1 then z_s_pc (z_nn σ) (z_nw σ) else z_nn σ) := z_ok_j1 hO _
    exact pri K hr hlk hw (by unfold z_ed; rw [h1]; rfl) (by unfold z_td; rw [h1]; rfl) d_P_doLastQuarter_80
  · refine nv_as K (congrArg nI h1) ?_
    refine nv_tabIn (a := 3) (tgt := 81) K d_P_doLastQuarter_4 (by decide) (by decide) (by decide) rfl rfl ?_
    refine lv_aload_n K.1 K.2.1 d_P_doLastQuarter_81 rfl (lv_at hl 0 rfl) ?_
    refine lv_iload_n K.1 K.2.1 d_P_doLastQuarter_82 rfl (lv_at hl 1 rfl) ?_
    refine pki K (c_jumpExchangeOrSwitch (σ := σ) (b := b) l D cI a hO (by omega)) (cw_P_175 K (Nat.le_of_ble_eq_true rfl) (Nat.le_of_ble_eq_true rfl)) hw (va_recv (ci := 0) (q0 := 0) hw.2.2.2.1 hw.1 rfl rfl) rfl hl.1 rfl (Nat.le_of_ble_eq_true rfl) d_P_doLastQuarter_83 ⟨Nat.zero_le _, Nat.zero_le _⟩ (fun H locs hw => ?_)
    have hO11 : z_Ok (z_e3 σ (b / 8 % 8)) := z_ok_e3 hO _
    have hb12 : z_t3 (b / 8 % 8) < 19 := z_t3_lt _
    exact pri K hr hlk hw (by unfold z_ed; rw [h1]; rfl) (by unfold z_td; rw [h1]; rfl) d_P_doLastQuarter_86
  · refine nv_as K (congrArg nI h1) ?_
    refine nv_tabIn (a := 4) (tgt := 87) K d_P_doLastQuarter_4 (by decide) (by decide) (by decide) rfl rfl ?_
    refine lv_aload_n K.1 K.2.1 d_P_doLastQuarter_87 rfl (lv_at hl 0 rfl) ?_
    refine lv_iload_n K.1 K.2.1 d_P_doLastQuarter_88 rfl (lv_at hl 1 rfl) ?_
    refine pki K (c_callOnCondition (σ := σ) (b := b) l D cI a hO (by omega)) (cw_P_178 K (Nat.le_of_ble_eq_true rfl) (Nat.le_of_ble_eq_true rfl)) hw (va_recv (ci := 0) (q0 := 0) hw.2.2.2.1 hw.1 rfl rfl) rfl hl.1 rfl (Nat.le_of_ble_eq_true rfl) d_P_doLastQuarter_89 ⟨Nat.zero_le _, Nat.zero_le _⟩ (fun H locs hw => ?_)
    have hO13 : z_Ok (if z_hold σ (b / 8 % 8) = 1 then z_ct (z_nn σ) (z_nw σ) else z_nn σ) := z_ok_j2 hO _
    have hb14 : (if z_hold σ (b / 8 % 8) = 1 then 17 else 11) < 18 := z_ite_ltB _ (by omega) (by omega)
    exact pri K hr hlk hw (by unfold z_ed; rw [h1]; rfl) (by unfold z_td; rw [h1]; rfl) d_P_doLastQuarter_92
  · refine nv_as K (congrArg nI h1) ?_
    refine nv_tabIn (a := 5) (tgt := 93) K d_P_doLastQuarter_4 (by decide) (by decide) (by decide) rfl rfl ?_
    refine lv_iload_n K.1 K.2.1 d_P_doLastQuarter_93 rfl (lv_at hl 1 rfl) ?_
    refine nv_bipush (v := 8) K d_P_doLastQuarter_94 (by decide) ?_
    refine nv_iand K d_P_doLastQuarter_96 ?_
    have hb15 : b &&& 8 ≤ 8 := Nat.and_le_right
    have hb16 : b &&& 8 = 8 * (b / 8 % 2) := nz_b8 _ (by omega)
    refine nv_if_ne K (by omega) d_P_doLastQuarter_97 rfl (fun h17 => ?_) (fun h17 => ?_)
    · refine lv_aload_n K.1 K.2.1 d_P_doLastQuarter_108 rfl (lv_at hl 0 rfl) ?_
      refine pki K (c_callAlways (σ := σ) l D cI a hO) (cw_P_184 K (Nat.le_of_ble_eq_true rfl) (Nat.le_of_ble_eq_true rfl)) hw (va_recv (ci := 0) (q0 := 0) hw.2.2.2.1 hw.1 rfl rfl) rfl hl.1 rfl (Nat.le_of_ble_eq_true rfl) d_P_doLastQuarter_109 ⟨Nat.zero_le _, Nat.zero_le _⟩ (fun H locs hw => ?_)
      have hO18 : z_Ok (z_ct (z_nn σ) (z_nw σ)) := z_ok_ct (z_ok_nn hO) (z_nw_lt hO)
      exact pri K hr hlk hw (by unfold z_ed; exact ((if_neg (by omega)).trans ((if_neg (by omega)).trans ((if_neg (by omega)).trans ((if_neg (by omega)).trans ((if_neg (by omega)).trans ((if_pos h1).trans (if_neg (by omega)))))))).symm) (congrArg nI (by unfold z_td; exact ((if_neg (by omega)).trans ((if_neg (by omega)).trans ((if_neg (by omega)).trans ((if_neg (by omega)).trans ((if_neg (by omega)).trans ((if_pos h1).trans (if_neg (by omega)))))))).symm)) d_P_doLastQuarter_112
    · refine lv_aload_n K.1 K.2.1 d_P_doLastQuarter_100 rfl (lv_at hl 0 rfl) ?_
      refine lv_iload_n K.1 K.2.1 d_P_doLastQuarter_101 rfl (lv_at hl 1 rfl) ?_
      refine pki K (c_pushPair (σ := σ) (b := b) l D cI a hO (by omega)) (cw_P_181 K (Nat.le_of_ble_eq_true rfl) (Nat.le_of_ble_eq_true rfl)) hw (va_recv (ci := 0) (q0 := 0) hw.2.2.2.1 hw.1 rfl rfl) rfl hl.1 rfl (Nat.le_of_ble_eq_true rfl) d_P_doLastQuarter_102 ⟨Nat.zero_le _, Nat.zero_le _⟩ (fun H locs hw => ?_)
      have hO19 : z_Ok (z_pu σ (z_pq σ (b / 16 % 4))) := z_ok_pu hO (z_pq_lt hO _)
      refine lv_goto K.1 K.2.1 d_P_doLastQuarter_105 rfl ?_
      exact pri K hr hlk hw (by unfold z_ed; exact ((if_neg (by omega)).trans ((if_neg (by omega)).trans ((if_neg (by omega)).trans ((if_neg (by omega)).trans ((if_neg (by omega)).trans ((if_pos h1).trans (if_pos (by omega)))))))).symm) (congrArg nI (by unfold z_td; exact ((if_neg (by omega)).trans ((if_neg (by omega)).trans ((if_neg (by omega)).trans ((if_neg (by omega)).trans ((if_neg (by omega)).trans ((if_pos h1).trans (if_pos (by omega)))))))).symm)) d_P_doLastQuarter_112
  · refine nv_as K (congrArg nI h1) ?_
    refine nv_tabIn (a := 6) (tgt := 113) K d_P_doLastQuarter_4 (by decide) (by decide) (by decide) rfl rfl ?_
    refine lv_aload_n K.1 K.2.1 d_P_doLastQuarter_113 rfl (lv_at hl 0 rfl) ?_
    refine lv_iload_n K.1 K.2.1 d_P_doLastQuarter_114 rfl (lv_at hl 1 rfl) ?_
    refine pki K (c_combineWithNext (σ := σ) (b := b) l D cI a hO (by omega)) (cw_P_187 K (Nat.le_of_ble_eq_true rfl) (Nat.le_of_ble_eq_true rfl)) hw (va_recv (ci := 0) (q0 := 0) hw.2.2.2.1 hw.1 rfl rfl) rfl hl.1 rfl (Nat.le_of_ble_eq_true rfl) d_P_doLastQuarter_115 ⟨Nat.zero_le _, Nat.zero_le _⟩ (fun H locs hw => ?_)
    have hO20 : z_Ok (z_rk (z_nx σ) (b / 8 % 8) (z_nb σ)) := z_ok_rk (z_ok_nx hO) _ (z_nb_lt hO)
    exact pri K hr hlk hw (by unfold z_ed; rw [h1]; rfl) (by unfold z_td; rw [h1]; rfl) d_P_doLastQuarter_118
  · refine nv_as K (congrArg nI h1) ?_
    refine nv_tabOut (a := 7) (tgt := 119) K d_P_doLastQuarter_4 (by decide) (by decide) rfl ?_
    refine lv_aload_n K.1 K.2.1 d_P_doLastQuarter_119 rfl (lv_at hl 0 rfl) ?_
    refine lv_iload_n K.1 K.2.1 d_P_doLastQuarter_120 rfl (lv_at hl 1 rfl) ?_
    refine nv_bipush (v := 56) K d_P_doLastQuarter_121 (by decide) ?_
    refine nv_iand K d_P_doLastQuarter_123 ?_
    have hb21 : b &&& 56 ≤ 56 := Nat.and_le_right
    have hb22 : b &&& 56 = 8 * (b / 8 % 8) := nz_b56 _ (by omega)
    refine pkv K (c_callTo (σ := σ) (x := b &&& 56) l D cI a hO (by omega)) (cw_P_136 K (Nat.le_of_ble_eq_true rfl) (Nat.le_of_ble_eq_true rfl)) hw (va_recv (ci := 0) (q0 := 0) hw.2.2.2.1 hw.1 rfl rfl) rfl hl.1 rfl (Nat.le_of_ble_eq_true rfl) d_P_doLastQuarter_124 ⟨Nat.zero_le _, Nat.zero_le _⟩ (fun H locs hw => ?_)
    have hO23 : z_Ok (z_ct σ (b &&& 56)) := z_ok_ct hO (by omega)
    refine nv_bipush (v := 11) K d_P_doLastQuarter_127 (by decide) ?_
    exact pri K hr hlk hw (by unfold z_ed; rw [h1]; simp [nz_b56 b hb]) (by unfold z_td; rw [h1]; rfl) d_P_doLastQuarter_129
end
section
set_option maxHeartbeats 4000000 in
set_option maxRecDepth 100000 in
theorem c_letInterruptIn {σ : z_St} (l : Launch) (D : va_G) (cI : ClassId) (a : pAd) (hO : z_Ok σ) (hwa : z_x_wa σ ≠ 0) : pCv l y_P_letInterruptIn w_P_letInterruptIn 3 64 D cI a [.ref a.1] σ (z_li σ) := by
  refine pcv_of (cc := b_P_letInterruptIn) (maxL := 1) (ret := none) (by decide) rfl (Nat.le_of_ble_eq_true rfl) ?_
  intro p e s m below meth c ls K hr hlk hl hw
  have K : CallFix p m c b_P_letInterruptIn 1 s _ (_ :: T0) "PortProcessor" := K
  have hl : lv_has ls 1 [(0, .ref a.1)] := hl
  refine lv_aload_n K.1 K.2.1 d_P_letInterruptIn_0 rfl (lv_at hl 0 rfl) ?_
  refine nv_iconst (v := 0) K d_P_letInterruptIn_1 (by decide) ?_
  refine pp_interruptsOn (v := 0) K hw (by omega) d_P_letInterruptIn_2 (fun H locs hw => ?_)
  have hO1 : z_Ok (z_s_it σ 0) := z_ok_it hO (by omega)
  refine lv_aload_n K.1 K.2.1 d_P_letInterruptIn_5 rfl (lv_at hl 0 rfl) ?_
  refine nv_iconst (v := 0) K d_P_letInterruptIn_6 (by decide) ?_
  refine pp_halted (v := 0) K hw (by omega) d_P_letInterruptIn_7 (fun H locs hw => ?_)
  have hO2 : z_Ok (z_s_ha (z_s_it σ 0) 0) := z_ok_ha hO1 (by omega)
  refine lv_aload_n K.1 K.2.1 d_P_letInterruptIn_10 rfl (lv_at hl 0 rfl) ?_
  refine nv_bipush (v := 8) K d_P_letInterruptIn_11 (by decide) ?_
  refine lv_aload_n K.1 K.2.1 d_P_letInterruptIn_13 rfl (lv_at hl 0 rfl) ?_
  refine pg_waitingInterrupt (v := z_x_wa σ) K hw rfl d_P_letInterruptIn_14 ?_
  have hb3 : z_x_wa σ < 9 := z_k_wa hO
  refine nv_as K (nz_pred hwa) ?_
  refine nv_imul K d_P_letInterruptIn_17 ?_
  refine pkv K (c_callTo (σ := z_s_ha (z_s_it σ 0) 0) (x := 8 * (z_x_wa σ - 1)) l D cI a hO2 (by omega)) (cw_P_136 K (Nat.le_of_ble_eq_true rfl) (Nat.le_of_ble_eq_true rfl)) hw (va_recv (ci := 0) (q0 := 0) hw.2.2.2.1 hw.1 rfl rfl) rfl hl.1 rfl (Nat.le_of_ble_eq_true rfl) d_P_letInterruptIn_18 ⟨Nat.zero_le _, Nat.zero_le _⟩ (fun H locs hw => ?_)
  have hO4 : z_Ok (z_ct (z_s_ha (z_s_it σ 0) 0) (8 * (z_x_wa σ - 1))) := z_ok_ct hO2 (by omega)
  refine lv_aload_n K.1 K.2.1 d_P_letInterruptIn_21 rfl (lv_at hl 0 rfl) ?_
  refine lv_iconst (v := -1) K.1 K.2.1 d_P_letInterruptIn_22 (by decide) ?_
  refine pp_waitingInterrupt0 K hw d_P_letInterruptIn_23 (fun H locs hw => ?_)
  have hO5 : z_Ok (z_s_wa (z_ct (z_s_ha (z_s_it σ 0) 0) (8 * (z_x_wa σ - 1))) 0) := z_ok_wa hO4 (by omega)
  exact prv K hr hlk hw (by first | rfl | (simp [z_li, z_ct]; done) | (simp only [z_li, z_ct]; rfl)) d_P_letInterruptIn_26
end
section
theorem sx_i {σ : z_St} (h1 : z_x_wa σ ≠ 0) (h2 : z_x_it σ = 1) (h3 : z_x_la σ = 0) : z_sx σ = z_s_st (z_li σ) (z_x_st σ + 11) := if_pos ⟨h1, h2, h3⟩
theorem sv_i {σ : z_St} (h1 : z_x_wa σ ≠ 0) (h2 : z_x_it σ = 1) (h3 : z_x_la σ = 0) : z_sv σ = 1 := if_pos ⟨h1, h2, h3⟩
theorem sx_h {σ : z_St} (hn : ¬ (z_x_wa σ ≠ 0 ∧ z_x_it σ = 1 ∧ z_x_la σ = 0)) (hh : z_x_ha σ = 1) : z_sx σ = z_s_st σ (z_x_st σ + 4) := (if_neg hn).trans (if_pos hh)
theorem sv_h {σ : z_St} (hn : ¬ (z_x_wa σ ≠ 0 ∧ z_x_it σ = 1 ∧ z_x_la σ = 0)) (hh : z_x_ha σ = 1) : z_sv σ = 0 := (if_neg hn).trans (if_pos hh)
theorem sx_q {σ : z_St} (hn : ¬ (z_x_wa σ ≠ 0 ∧ z_x_it σ = 1 ∧ z_x_la σ = 0)) (hh : ¬ z_x_ha σ = 1) {E : z_St} {T : Nat} (he : z_ex (z_go σ) (z_nb σ) = E) (ht : z_tm (z_go σ) (z_nb σ) = T) : z_sx σ = z_s_st E (z_x_st σ + T) := by
  rw [← he, ← ht]
  exact (if_neg hn).trans (if_neg hh)
theorem sv_q {σ : z_St} (hn : ¬ (z_x_wa σ ≠ 0 ∧ z_x_it σ = 1 ∧ z_x_la σ = 0)) (hh : ¬ z_x_ha σ = 1) : z_sv σ = 1 := (if_neg hn).trans (if_neg hh)
theorem st_wr (τ : z_St) (a v : Nat) : z_x_st (z_wr τ a v) = z_x_st τ := rfl
theorem st_sp (τ : z_St) (v : Nat) : z_x_st (z_s_sp τ v) = z_x_st τ := rfl
theorem st_pc (τ : z_St) (v : Nat) : z_x_st (z_s_pc τ v) = z_x_st τ := rfl
theorem st_p1 (τ : z_St) (v : Nat) : z_x_st (z_p1 τ v) = z_x_st τ := by
  unfold z_p1
  rw [st_wr, st_sp]
theorem st_pu (τ : z_St) (v : Nat) : z_x_st (z_pu τ v) = z_x_st τ := by
  unfold z_pu
  rw [st_p1, st_p1]
theorem st_ct (τ : z_St) (v : Nat) : z_x_st (z_ct τ v) = z_x_st τ := by
  unfold z_ct
  rw [st_pc, st_pu]
theorem st_ha (τ : z_St) (v : Nat) : z_x_st (z_s_ha τ v) = z_x_st τ := rfl
theorem st_it (τ : z_St) (v : Nat) : z_x_st (z_s_it τ v) = z_x_st τ := rfl
theorem st_wa (τ : z_St) (v : Nat) : z_x_st (z_s_wa τ v) = z_x_st τ := rfl
theorem st_li (σ : z_St) : z_x_st (z_li σ) = z_x_st σ := by
  unfold z_li
  rw [st_wa, st_ct, st_ha, st_it]
end
section
set_option maxHeartbeats 4000000 in
set_option maxRecDepth 100000 in
theorem c_step {σ : z_St} (l : Launch) (D : va_G) (cI : ClassId) (a : pAd) (hO : z_Ok σ) : pCi l y_P_step w_P_step 5 114 D cI a [.ref a.1] σ (z_sx σ) (nI (z_sv σ)) := by
  refine pci_of (cc := b_P_step) (maxL := 2) (ret := (some .boolean)) (by decide) rfl (Nat.le_of_ble_eq_true rfl) ?_
  intro p e s m below meth c ls K hr hlk hl hw
  have K : CallFix p m c b_P_step 2 s _ (_ :: T0) "PortProcessor" := K
  have hl : lv_has ls 2 [(0, .ref a.1)] := hl
  refine lv_aload_n K.1 K.2.1 d_P_step_0 rfl (lv_at hl 0 rfl) ?_
  refine pg_waitingInterrupt (v := z_x_wa σ) K hw rfl d_P_step_1 ?_
  have hb1 : z_x_wa σ < 9 := z_k_wa hO
  refine lv_iconst (v := -1) K.1 K.2.1 d_P_step_4 (by decide) ?_
  refine nv_wa (w := z_x_wa σ) K (by omega) d_P_step_5 rfl (fun h2 => ?_) (fun h2 => ?_)
  · refine lv_aload_n K.1 K.2.1 d_P_step_40 rfl (lv_at hl 0 rfl) ?_
    refine pg_halted (v := z_x_ha σ) K hw rfl d_P_step_41 ?_
    have hb3 : z_x_ha σ < 2 := z_k_ha hO
    refine nv_if_eq K (by omega) d_P_step_44 rfl (fun h4 => ?_) (fun h4 => ?_)
    · refine lv_aload_n K.1 K.2.1 d_P_step_61 rfl (lv_at hl 0 rfl) ?_
      refine pki K (c_nextByte (σ := σ) l D cI a hO) (cw_P_121 K (Nat.le_of_ble_eq_true rfl) (Nat.le_of_ble_eq_true rfl)) hw (va_recv (ci := 0) (q0 := 0) hw.2.2.2.1 hw.1 rfl rfl) rfl hl.1 rfl (Nat.le_of_ble_eq_true rfl) d_P_step_62 ⟨Nat.zero_le _, Nat.zero_le _⟩ (fun H locs hw => ?_)
      have hO5 : z_Ok (z_nx σ) := z_ok_nx hO
      have hb6 : z_nb σ < 256 := z_nb_lt hO
      refine lv_istore_n (lv' := [(1, .int (nI (z_nb σ))), (0, .ref a.1)]) K.1 K.2.1 d_P_step_65 rfl hl (by decide) rfl (fun ls hl => ?_)
      refine lv_aload_n K.1 K.2.1 d_P_step_66 rfl (lv_at hl 1 rfl) ?_
      refine lv_iload_n K.1 K.2.1 d_P_step_67 rfl (lv_at hl 0 rfl) ?_
      refine nv_sipush (v := 251) K d_P_step_68 (by decide) ?_
      refine nf_icmp_ne (u := 0) (v := 1) (Y := 79) K (by omega) (by omega) d_P_step_71 rfl (fun _ k => nv_iconst (v := 0) K d_P_step_78 (by decide) k) (fun _ k => nv_iconst (v := 1) K d_P_step_74 (by decide) (lv_goto K.1 K.2.1 d_P_step_75 rfl k)) ?_
      have hb7 : (if (z_nb σ) = 251 then 1 else 0) < 2 := z_ite_ltB _ (by omega) (by omega)
      refine pp_lastLetInterruptsIn (v := (if (z_nb σ) = 251 then 1 else 0)) K hw (by omega) d_P_step_79 (fun H locs hw => ?_)
      have hO8 : z_Ok (z_s_la (z_nx σ) (if (z_nb σ) = 251 then 1 else 0)) := z_ok_la hO5 (by omega)
      refine lv_iload_n K.1 K.2.1 d_P_step_82 rfl (lv_at hl 0 rfl) ?_
      refine nv_bipush (v := 6) K d_P_step_83 (by decide) ?_
      refine nv_ishr (M := 64) K (by omega) rfl (by omega) d_P_step_85 ?_
      rcases (by omega : ((z_nb σ) / 64) = 0 ∨ ((z_nb σ) / 64) = 1 ∨ ((z_nb σ) / 64) = 2 ∨ ((z_nb σ) / 64) = 3) with h9 | h9 | h9 | h9
      · refine nv_as K (congrArg nI h9) ?_
        refine nv_tabIn (a := 0) (tgt := 112) K d_P_step_86 (by decide) (by decide) (by decide) rfl rfl ?_
        refine lv_aload_n K.1 K.2.1 d_P_step_112 rfl (lv_at hl 1 rfl) ?_
        refine lv_dup K.1 K.2.1 d_P_step_113 rfl ?_
        refine pg_stateCount (v := z_x_st σ) K hw rfl d_P_step_114 ?_
        refine lv_aload_n K.1 K.2.1 d_P_step_117 rfl (lv_at hl 1 rfl) ?_
        refine lv_iload_n K.1 K.2.1 d_P_step_118 rfl (lv_at hl 0 rfl) ?_
        refine pki K (c_doFirstQuarter (σ := z_s_la (z_nx σ) (if (z_nb σ) = 251 then 1 else 0)) (b := z_nb σ) l D cI a hO8 (by omega)) (cw_P_124 K (Nat.le_of_ble_eq_true rfl) (Nat.le_of_ble_eq_true rfl)) hw (va_recv (ci := 0) (q0 := 0) hw.2.2.2.1 hw.1 rfl rfl) rfl hl.1 rfl (Nat.le_of_ble_eq_true rfl) d_P_step_119 ⟨Nat.zero_le _, Nat.zero_le _⟩ (fun H locs hw => ?_)
        have hO10 : z_Ok (z_ea (z_s_la (z_nx σ) (if (z_nb σ) = 251 then 1 else 0)) (z_nb σ)) := z_ok_ea hO8 _
        have hb11 : z_ta (z_nb σ) < 17 := z_ta_lt _
        refine lv_i2l K.1 K.2.1 d_P_step_122 (nI_l (by omega)) ?_
        refine lv_ladd K.1 K.2.1 d_P_step_123 (lv_asl K (lN_add _ _) ?_)
        refine pp_stateCount (v := (z_x_st σ) + (z_ta (z_nb σ))) K hw d_P_step_124 (fun H locs hw => ?_)
        have hO12 : z_Ok (z_s_st (z_ea (z_s_la (z_nx σ) (if (z_nb σ) = 251 then 1 else 0)) (z_nb σ)) ((z_x_st σ) + (z_ta (z_nb σ)))) := z_ok_st hO10
        refine lv_goto K.1 K.2.1 d_P_step_127 rfl ?_
        refine nv_iconst (v := 1) K d_P_step_181 (by decide) ?_
        exact prz K hr hlk hw ((sx_q (by omega) (by omega) (by unfold z_ex; exact if_pos (by omega)) (by unfold z_tm; exact if_pos (by omega))).symm) (by omega) (congrArg nI (sv_q (by omega) (by omega)).symm) d_P_step_182
      · refine nv_as K (congrArg nI h9) ?_
        refine nv_tabIn (a := 1) (tgt := 130) K d_P_step_86 (by decide) (by decide) (by decide) rfl rfl ?_
        refine lv_aload_n K.1 K.2.1 d_P_step_130 rfl (lv_at hl 1 rfl) ?_
        refine lv_dup K.1 K.2.1 d_P_step_131 rfl ?_
        refine pg_stateCount (v := z_x_st σ) K hw rfl d_P_step_132 ?_
        refine lv_aload_n K.1 K.2.1 d_P_step_135 rfl (lv_at hl 1 rfl) ?_
        refine lv_iload_n K.1 K.2.1 d_P_step_136 rfl (lv_at hl 0 rfl) ?_
        refine pki K (c_move (σ := z_s_la (z_nx σ) (if (z_nb σ) = 251 then 1 else 0)) (b := z_nb σ) l D cI a hO8 (by omega)) (cw_P_127 K (Nat.le_of_ble_eq_true rfl) (Nat.le_of_ble_eq_true rfl)) hw (va_recv (ci := 0) (q0 := 0) hw.2.2.2.1 hw.1 rfl rfl) rfl hl.1 rfl (Nat.le_of_ble_eq_true rfl) d_P_step_137 ⟨Nat.zero_le _, Nat.zero_le _⟩ (fun H locs hw => ?_)
        have hO13 : z_Ok (z_eb (z_s_la (z_nx σ) (if (z_nb σ) = 251 then 1 else 0)) (z_nb σ)) := z_ok_eb hO8 _
        have hb14 : z_tb (z_nb σ) < 8 := z_tb_lt _
        refine lv_i2l K.1 K.2.1 d_P_step_140 (nI_l (by omega)) ?_
        refine lv_ladd K.1 K.2.1 d_P_step_141 (lv_asl K (lN_add _ _) ?_)
        refine pp_stateCount (v := (z_x_st σ) + (z_tb (z_nb σ))) K hw d_P_step_142 (fun H locs hw => ?_)
        have hO15 : z_Ok (z_s_st (z_eb (z_s_la (z_nx σ) (if (z_nb σ) = 251 then 1 else 0)) (z_nb σ)) ((z_x_st σ) + (z_tb (z_nb σ)))) := z_ok_st hO13
        refine lv_goto K.1 K.2.1 d_P_step_145 rfl ?_
        refine nv_iconst (v := 1) K d_P_step_181 (by decide) ?_
        exact prz K hr hlk hw ((sx_q (by omega) (by omega) (by unfold z_ex; exact (if_neg (by omega)).trans (if_pos (by omega))) (by unfold z_tm; exact (if_neg (by omega)).trans (if_pos (by omega)))).symm) (by omega) (congrArg nI (sv_q (by omega) (by omega)).symm) d_P_step_182
      · refine nv_as K (congrArg nI h9) ?_
        refine nv_tabIn (a := 2) (tgt := 148) K d_P_step_86 (by decide) (by decide) (by decide) rfl rfl ?_
        refine lv_aload_n K.1 K.2.1 d_P_step_148 rfl (lv_at hl 1 rfl) ?_
        refine lv_dup K.1 K.2.1 d_P_step_149 rfl ?_
        refine pg_stateCount (v := z_x_st σ) K hw rfl d_P_step_150 ?_
        refine lv_aload_n K.1 K.2.1 d_P_step_153 rfl (lv_at hl 1 rfl) ?_
        refine lv_iload_n K.1 K.2.1 d_P_step_154 rfl (lv_at hl 0 rfl) ?_
        refine pki K (c_combineWithRegister (σ := z_s_la (z_nx σ) (if (z_nb σ) = 251 then 1 else 0)) (b := z_nb σ) l D cI a hO8 (by omega)) (cw_P_130 K (Nat.le_of_ble_eq_true rfl) (Nat.le_of_ble_eq_true rfl)) hw (va_recv (ci := 0) (q0 := 0) hw.2.2.2.1 hw.1 rfl rfl) rfl hl.1 rfl (Nat.le_of_ble_eq_true rfl) d_P_step_155 ⟨Nat.zero_le _, Nat.zero_le _⟩ (fun H locs hw => ?_)
        have hO16 : z_Ok (z_ec (z_s_la (z_nx σ) (if (z_nb σ) = 251 then 1 else 0)) (z_nb σ)) := z_ok_ec hO8 _
        have hb17 : z_tc (z_nb σ) < 8 := z_tc_lt _
        refine lv_i2l K.1 K.2.1 d_P_step_158 (nI_l (by omega)) ?_
        refine lv_ladd K.1 K.2.1 d_P_step_159 (lv_asl K (lN_add _ _) ?_)
        refine pp_stateCount (v := (z_x_st σ) + (z_tc (z_nb σ))) K hw d_P_step_160 (fun H locs hw => ?_)
        have hO18 : z_Ok (z_s_st (z_ec (z_s_la (z_nx σ) (if (z_nb σ) = 251 then 1 else 0)) (z_nb σ)) ((z_x_st σ) + (z_tc (z_nb σ)))) := z_ok_st hO16
        refine lv_goto K.1 K.2.1 d_P_step_163 rfl ?_
        refine nv_iconst (v := 1) K d_P_step_181 (by decide) ?_
        exact prz K hr hlk hw ((sx_q (by omega) (by omega) (by unfold z_ex; exact (if_neg (by omega)).trans ((if_neg (by omega)).trans (if_pos (by omega)))) (by unfold z_tm; exact (if_neg (by omega)).trans ((if_neg (by omega)).trans (if_pos (by omega))))).symm) (by omega) (congrArg nI (sv_q (by omega) (by omega)).symm) d_P_step_182
      · refine nv_as K (congrArg nI h9) ?_
        refine nv_tabOut (a := 3) (tgt := 166) K d_P_step_86 (by decide) (by decide) rfl ?_
        refine lv_aload_n K.1 K.2.1 d_P_step_166 rfl (lv_at hl 1 rfl) ?_
        refine lv_dup K.1 K.2.1 d_P_step_167 rfl ?_
        refine pg_stateCount (v := z_x_st σ) K hw rfl d_P_step_168 ?_
        refine lv_aload_n K.1 K.2.1 d_P_step_171 rfl (lv_at hl 1 rfl) ?_
        refine lv_iload_n K.1 K.2.1 d_P_step_172 rfl (lv_at hl 0 rfl) ?_
        refine pki K (c_doLastQuarter (σ := z_s_la (z_nx σ) (if (z_nb σ) = 251 then 1 else 0)) (b := z_nb σ) l D cI a hO8 (by omega)) (cw_P_133 K (Nat.le_of_ble_eq_true rfl) (Nat.le_of_ble_eq_true rfl)) hw (va_recv (ci := 0) (q0 := 0) hw.2.2.2.1 hw.1 rfl rfl) rfl hl.1 rfl (Nat.le_of_ble_eq_true rfl) d_P_step_173 ⟨Nat.zero_le _, Nat.zero_le _⟩ (fun H locs hw => ?_)
        have hO19 : z_Ok (z_ed (z_s_la (z_nx σ) (if (z_nb σ) = 251 then 1 else 0)) (z_nb σ)) := z_ok_ed hO8 _
        refine nv_as K (y := nI (z_td σ (z_nb σ))) rfl ?_
        have hb20 : z_td σ (z_nb σ) < 19 := z_td_lt _ _
        refine lv_i2l K.1 K.2.1 d_P_step_176 (nI_l (by omega)) ?_
        refine lv_ladd K.1 K.2.1 d_P_step_177 (lv_asl K (lN_add _ _) ?_)
        refine pp_stateCount (v := (z_x_st σ) + (z_td σ (z_nb σ))) K hw d_P_step_178 (fun H locs hw => ?_)
        have hO21 : z_Ok (z_s_st (z_ed (z_s_la (z_nx σ) (if (z_nb σ) = 251 then 1 else 0)) (z_nb σ)) ((z_x_st σ) + (z_td σ (z_nb σ)))) := z_ok_st hO19
        refine nv_iconst (v := 1) K d_P_step_181 (by decide) ?_
        exact prz K hr hlk hw ((sx_q (by omega) (by omega) (by unfold z_ex; exact (if_neg (by omega)).trans ((if_neg (by omega)).trans (if_neg (by omega)))) (by unfold z_tm; exact (if_neg (by omega)).trans ((if_neg (by omega)).trans (if_neg (by omega))))).symm) (by omega) (congrArg nI (sv_q (by omega) (by omega)).symm) d_P_step_182
    · refine lv_aload_n K.1 K.2.1 d_P_step_47 rfl (lv_at hl 0 rfl) ?_
      refine lv_dup K.1 K.2.1 d_P_step_48 rfl ?_
      refine pg_stateCount (v := z_x_st σ) K hw rfl d_P_step_49 ?_
      refine lv_ldc2 (v := lN 4) K.1 K.2.1 K.2.2.2.1 (K.2.2.2.2 _ (List.mem_cons_of_mem _ m_constantLong_PortProcessor_119_4)) d_P_step_52 ?_
      refine lv_ladd K.1 K.2.1 d_P_step_55 (lv_asl K (lN_add _ _) ?_)
      refine pp_stateCount (v := (z_x_st σ) + 4) K hw d_P_step_56 (fun H locs hw => ?_)
      have hO22 : z_Ok (z_s_st σ ((z_x_st σ) + 4)) := z_ok_st hO
      refine nv_iconst (v := 0) K d_P_step_59 (by decide) ?_
      exact prz K hr hlk hw ((sx_h (by omega) (by omega)).symm) (by omega) (congrArg nI (sv_h (by omega) (by omega)).symm) d_P_step_60
  · refine lv_aload_n K.1 K.2.1 d_P_step_8 rfl (lv_at hl 0 rfl) ?_
    refine pg_interruptsOn (v := z_x_it σ) K hw rfl d_P_step_9 ?_
    have hb23 : z_x_it σ < 2 := z_k_it hO
    refine nv_if_eq K (by omega) d_P_step_12 rfl (fun h24 => ?_) (fun h24 => ?_)
    · refine lv_aload_n K.1 K.2.1 d_P_step_40 rfl (lv_at hl 0 rfl) ?_
      refine pg_halted (v := z_x_ha σ) K hw rfl d_P_step_41 ?_
      have hb25 : z_x_ha σ < 2 := z_k_ha hO
      refine nv_if_eq K (by omega) d_P_step_44 rfl (fun h26 => ?_) (fun h26 => ?_)
      · refine lv_aload_n K.1 K.2.1 d_P_step_61 rfl (lv_at hl 0 rfl) ?_
        refine pki K (c_nextByte (σ := σ) l D cI a hO) (cw_P_121 K (Nat.le_of_ble_eq_true rfl) (Nat.le_of_ble_eq_true rfl)) hw (va_recv (ci := 0) (q0 := 0) hw.2.2.2.1 hw.1 rfl rfl) rfl hl.1 rfl (Nat.le_of_ble_eq_true rfl) d_P_step_62 ⟨Nat.zero_le _, Nat.zero_le _⟩ (fun H locs hw => ?_)
        have hO27 : z_Ok (z_nx σ) := z_ok_nx hO
        have hb28 : z_nb σ < 256 := z_nb_lt hO
        refine lv_istore_n (lv' := [(1, .int (nI (z_nb σ))), (0, .ref a.1)]) K.1 K.2.1 d_P_step_65 rfl hl (by decide) rfl (fun ls hl => ?_)
        refine lv_aload_n K.1 K.2.1 d_P_step_66 rfl (lv_at hl 1 rfl) ?_
        refine lv_iload_n K.1 K.2.1 d_P_step_67 rfl (lv_at hl 0 rfl) ?_
        refine nv_sipush (v := 251) K d_P_step_68 (by decide) ?_
        refine nf_icmp_ne (u := 0) (v := 1) (Y := 79) K (by omega) (by omega) d_P_step_71 rfl (fun _ k => nv_iconst (v := 0) K d_P_step_78 (by decide) k) (fun _ k => nv_iconst (v := 1) K d_P_step_74 (by decide) (lv_goto K.1 K.2.1 d_P_step_75 rfl k)) ?_
        have hb29 : (if (z_nb σ) = 251 then 1 else 0) < 2 := z_ite_ltB _ (by omega) (by omega)
        refine pp_lastLetInterruptsIn (v := (if (z_nb σ) = 251 then 1 else 0)) K hw (by omega) d_P_step_79 (fun H locs hw => ?_)
        have hO30 : z_Ok (z_s_la (z_nx σ) (if (z_nb σ) = 251 then 1 else 0)) := z_ok_la hO27 (by omega)
        refine lv_iload_n K.1 K.2.1 d_P_step_82 rfl (lv_at hl 0 rfl) ?_
        refine nv_bipush (v := 6) K d_P_step_83 (by decide) ?_
        refine nv_ishr (M := 64) K (by omega) rfl (by omega) d_P_step_85 ?_
        rcases (by omega : ((z_nb σ) / 64) = 0 ∨ ((z_nb σ) / 64) = 1 ∨ ((z_nb σ) / 64) = 2 ∨ ((z_nb σ) / 64) = 3) with h31 | h31 | h31 | h31
        · refine nv_as K (congrArg nI h31) ?_
          refine nv_tabIn (a := 0) (tgt := 112) K d_P_step_86 (by decide) (by decide) (by decide) rfl rfl ?_
          refine lv_aload_n K.1 K.2.1 d_P_step_112 rfl (lv_at hl 1 rfl) ?_
          refine lv_dup K.1 K.2.1 d_P_step_113 rfl ?_
          refine pg_stateCount (v := z_x_st σ) K hw rfl d_P_step_114 ?_
          refine lv_aload_n K.1 K.2.1 d_P_step_117 rfl (lv_at hl 1 rfl) ?_
          refine lv_iload_n K.1 K.2.1 d_P_step_118 rfl (lv_at hl 0 rfl) ?_
          refine pki K (c_doFirstQuarter (σ := z_s_la (z_nx σ) (if (z_nb σ) = 251 then 1 else 0)) (b := z_nb σ) l D cI a hO30 (by omega)) (cw_P_124 K (Nat.le_of_ble_eq_true rfl) (Nat.le_of_ble_eq_true rfl)) hw (va_recv (ci := 0) (q0 := 0) hw.2.2.2.1 hw.1 rfl rfl) rfl hl.1 rfl (Nat.le_of_ble_eq_true rfl) d_P_step_119 ⟨Nat.zero_le _, Nat.zero_le _⟩ (fun H locs hw => ?_)
          have hO32 : z_Ok (z_ea (z_s_la (z_nx σ) (if (z_nb σ) = 251 then 1 else 0)) (z_nb σ)) := z_ok_ea hO30 _
          have hb33 : z_ta (z_nb σ) < 17 := z_ta_lt _
          refine lv_i2l K.1 K.2.1 d_P_step_122 (nI_l (by omega)) ?_
          refine lv_ladd K.1 K.2.1 d_P_step_123 (lv_asl K (lN_add _ _) ?_)
          refine pp_stateCount (v := (z_x_st σ) + (z_ta (z_nb σ))) K hw d_P_step_124 (fun H locs hw => ?_)
          have hO34 : z_Ok (z_s_st (z_ea (z_s_la (z_nx σ) (if (z_nb σ) = 251 then 1 else 0)) (z_nb σ)) ((z_x_st σ) + (z_ta (z_nb σ)))) := z_ok_st hO32
          refine lv_goto K.1 K.2.1 d_P_step_127 rfl ?_
          refine nv_iconst (v := 1) K d_P_step_181 (by decide) ?_
          exact prz K hr hlk hw ((sx_q (by omega) (by omega) (by unfold z_ex; exact if_pos (by omega)) (by unfold z_tm; exact if_pos (by omega))).symm) (by omega) (congrArg nI (sv_q (by omega) (by omega)).symm) d_P_step_182
        · refine nv_as K (congrArg nI h31) ?_
          refine nv_tabIn (a := 1) (tgt := 130) K d_P_step_86 (by decide) (by decide) (by decide) rfl rfl ?_
          refine lv_aload_n K.1 K.2.1 d_P_step_130 rfl (lv_at hl 1 rfl) ?_
          refine lv_dup K.1 K.2.1 d_P_step_131 rfl ?_
          refine pg_stateCount (v := z_x_st σ) K hw rfl d_P_step_132 ?_
          refine lv_aload_n K.1 K.2.1 d_P_step_135 rfl (lv_at hl 1 rfl) ?_
          refine lv_iload_n K.1 K.2.1 d_P_step_136 rfl (lv_at hl 0 rfl) ?_
          refine pki K (c_move (σ := z_s_la (z_nx σ) (if (z_nb σ) = 251 then 1 else 0)) (b := z_nb σ) l D cI a hO30 (by omega)) (cw_P_127 K (Nat.le_of_ble_eq_true rfl) (Nat.le_of_ble_eq_true rfl)) hw (va_recv (ci := 0) (q0 := 0) hw.2.2.2.1 hw.1 rfl rfl) rfl hl.1 rfl (Nat.le_of_ble_eq_true rfl) d_P_step_137 ⟨Nat.zero_le _, Nat.zero_le _⟩ (fun H locs hw => ?_)
          have hO35 : z_Ok (z_eb (z_s_la (z_nx σ) (if (z_nb σ) = 251 then 1 else 0)) (z_nb σ)) := z_ok_eb hO30 _
          have hb36 : z_tb (z_nb σ) < 8 := z_tb_lt _
          refine lv_i2l K.1 K.2.1 d_P_step_140 (nI_l (by omega)) ?_
          refine lv_ladd K.1 K.2.1 d_P_step_141 (lv_asl K (lN_add _ _) ?_)
          refine pp_stateCount (v := (z_x_st σ) + (z_tb (z_nb σ))) K hw d_P_step_142 (fun H locs hw => ?_)
          have hO37 : z_Ok (z_s_st (z_eb (z_s_la (z_nx σ) (if (z_nb σ) = 251 then 1 else 0)) (z_nb σ)) ((z_x_st σ) + (z_tb (z_nb σ)))) := z_ok_st hO35
          refine lv_goto K.1 K.2.1 d_P_step_145 rfl ?_
          refine nv_iconst (v := 1) K d_P_step_181 (by decide) ?_
          exact prz K hr hlk hw ((sx_q (by omega) (by omega) (by unfold z_ex; exact (if_neg (by omega)).trans (if_pos (by omega))) (by unfold z_tm; exact (if_neg (by omega)).trans (if_pos (by omega)))).symm) (by omega) (congrArg nI (sv_q (by omega) (by omega)).symm) d_P_step_182
        · refine nv_as K (congrArg nI h31) ?_
          refine nv_tabIn (a := 2) (tgt := 148) K d_P_step_86 (by decide) (by decide) (by decide) rfl rfl ?_
          refine lv_aload_n K.1 K.2.1 d_P_step_148 rfl (lv_at hl 1 rfl) ?_
          refine lv_dup K.1 K.2.1 d_P_step_149 rfl ?_
          refine pg_stateCount (v := z_x_st σ) K hw rfl d_P_step_150 ?_
          refine lv_aload_n K.1 K.2.1 d_P_step_153 rfl (lv_at hl 1 rfl) ?_
          refine lv_iload_n K.1 K.2.1 d_P_step_154 rfl (lv_at hl 0 rfl) ?_
          refine pki K (c_combineWithRegister (σ := z_s_la (z_nx σ) (if (z_nb σ) = 251 then 1 else 0)) (b := z_nb σ) l D cI a hO30 (by omega)) (cw_P_130 K (Nat.le_of_ble_eq_true rfl) (Nat.le_of_ble_eq_true rfl)) hw (va_recv (ci := 0) (q0 := 0) hw.2.2.2.1 hw.1 rfl rfl) rfl hl.1 rfl (Nat.le_of_ble_eq_true rfl) d_P_step_155 ⟨Nat.zero_le _, Nat.zero_le _⟩ (fun H locs hw => ?_)
          have hO38 : z_Ok (z_ec (z_s_la (z_nx σ) (if (z_nb σ) = 251 then 1 else 0)) (z_nb σ)) := z_ok_ec hO30 _
          have hb39 : z_tc (z_nb σ) < 8 := z_tc_lt _
          refine lv_i2l K.1 K.2.1 d_P_step_158 (nI_l (by omega)) ?_
          refine lv_ladd K.1 K.2.1 d_P_step_159 (lv_asl K (lN_add _ _) ?_)
          refine pp_stateCount (v := (z_x_st σ) + (z_tc (z_nb σ))) K hw d_P_step_160 (fun H locs hw => ?_)
          have hO40 : z_Ok (z_s_st (z_ec (z_s_la (z_nx σ) (if (z_nb σ) = 251 then 1 else 0)) (z_nb σ)) ((z_x_st σ) + (z_tc (z_nb σ)))) := z_ok_st hO38
          refine lv_goto K.1 K.2.1 d_P_step_163 rfl ?_
          refine nv_iconst (v := 1) K d_P_step_181 (by decide) ?_
          exact prz K hr hlk hw ((sx_q (by omega) (by omega) (by unfold z_ex; exact (if_neg (by omega)).trans ((if_neg (by omega)).trans (if_pos (by omega)))) (by unfold z_tm; exact (if_neg (by omega)).trans ((if_neg (by omega)).trans (if_pos (by omega))))).symm) (by omega) (congrArg nI (sv_q (by omega) (by omega)).symm) d_P_step_182
        · refine nv_as K (congrArg nI h31) ?_
          refine nv_tabOut (a := 3) (tgt := 166) K d_P_step_86 (by decide) (by decide) rfl ?_
          refine lv_aload_n K.1 K.2.1 d_P_step_166 rfl (lv_at hl 1 rfl) ?_
          refine lv_dup K.1 K.2.1 d_P_step_167 rfl ?_
          refine pg_stateCount (v := z_x_st σ) K hw rfl d_P_step_168 ?_
          refine lv_aload_n K.1 K.2.1 d_P_step_171 rfl (lv_at hl 1 rfl) ?_
          refine lv_iload_n K.1 K.2.1 d_P_step_172 rfl (lv_at hl 0 rfl) ?_
          refine pki K (c_doLastQuarter (σ := z_s_la (z_nx σ) (if (z_nb σ) = 251 then 1 else 0)) (b := z_nb σ) l D cI a hO30 (by omega)) (cw_P_133 K (Nat.le_of_ble_eq_true rfl) (Nat.le_of_ble_eq_true rfl)) hw (va_recv (ci := 0) (q0 := 0) hw.2.2.2.1 hw.1 rfl rfl) rfl hl.1 rfl (Nat.le_of_ble_eq_true rfl) d_P_step_173 ⟨Nat.zero_le _, Nat.zero_le _⟩ (fun H locs hw => ?_)
          have hO41 : z_Ok (z_ed (z_s_la (z_nx σ) (if (z_nb σ) = 251 then 1 else 0)) (z_nb σ)) := z_ok_ed hO30 _
          refine nv_as K (y := nI (z_td σ (z_nb σ))) rfl ?_
          have hb42 : z_td σ (z_nb σ) < 19 := z_td_lt _ _
          refine lv_i2l K.1 K.2.1 d_P_step_176 (nI_l (by omega)) ?_
          refine lv_ladd K.1 K.2.1 d_P_step_177 (lv_asl K (lN_add _ _) ?_)
          refine pp_stateCount (v := (z_x_st σ) + (z_td σ (z_nb σ))) K hw d_P_step_178 (fun H locs hw => ?_)
          have hO43 : z_Ok (z_s_st (z_ed (z_s_la (z_nx σ) (if (z_nb σ) = 251 then 1 else 0)) (z_nb σ)) ((z_x_st σ) + (z_td σ (z_nb σ)))) := z_ok_st hO41
          refine nv_iconst (v := 1) K d_P_step_181 (by decide) ?_
          exact prz K hr hlk hw ((sx_q (by omega) (by omega) (by unfold z_ex; exact (if_neg (by omega)).trans ((if_neg (by omega)).trans (if_neg (by omega)))) (by unfold z_tm; exact (if_neg (by omega)).trans ((if_neg (by omega)).trans (if_neg (by omega))))).symm) (by omega) (congrArg nI (sv_q (by omega) (by omega)).symm) d_P_step_182
      · refine lv_aload_n K.1 K.2.1 d_P_step_47 rfl (lv_at hl 0 rfl) ?_
        refine lv_dup K.1 K.2.1 d_P_step_48 rfl ?_
        refine pg_stateCount (v := z_x_st σ) K hw rfl d_P_step_49 ?_
        refine lv_ldc2 (v := lN 4) K.1 K.2.1 K.2.2.2.1 (K.2.2.2.2 _ (List.mem_cons_of_mem _ m_constantLong_PortProcessor_119_4)) d_P_step_52 ?_
        refine lv_ladd K.1 K.2.1 d_P_step_55 (lv_asl K (lN_add _ _) ?_)
        refine pp_stateCount (v := (z_x_st σ) + 4) K hw d_P_step_56 (fun H locs hw => ?_)
        have hO44 : z_Ok (z_s_st σ ((z_x_st σ) + 4)) := z_ok_st hO
        refine nv_iconst (v := 0) K d_P_step_59 (by decide) ?_
        exact prz K hr hlk hw ((sx_h (by omega) (by omega)).symm) (by omega) (congrArg nI (sv_h (by omega) (by omega)).symm) d_P_step_60
    · refine lv_aload_n K.1 K.2.1 d_P_step_15 rfl (lv_at hl 0 rfl) ?_
      refine pg_lastLetInterruptsIn (v := z_x_la σ) K hw rfl d_P_step_16 ?_
      have hb45 : z_x_la σ < 2 := z_k_la hO
      refine nv_if_ne K (by omega) d_P_step_19 rfl (fun h46 => ?_) (fun h46 => ?_)
      · refine lv_aload_n K.1 K.2.1 d_P_step_40 rfl (lv_at hl 0 rfl) ?_
        refine pg_halted (v := z_x_ha σ) K hw rfl d_P_step_41 ?_
        have hb47 : z_x_ha σ < 2 := z_k_ha hO
        refine nv_if_eq K (by omega) d_P_step_44 rfl (fun h48 => ?_) (fun h48 => ?_)
        · refine lv_aload_n K.1 K.2.1 d_P_step_61 rfl (lv_at hl 0 rfl) ?_
          refine pki K (c_nextByte (σ := σ) l D cI a hO) (cw_P_121 K (Nat.le_of_ble_eq_true rfl) (Nat.le_of_ble_eq_true rfl)) hw (va_recv (ci := 0) (q0 := 0) hw.2.2.2.1 hw.1 rfl rfl) rfl hl.1 rfl (Nat.le_of_ble_eq_true rfl) d_P_step_62 ⟨Nat.zero_le _, Nat.zero_le _⟩ (fun H locs hw => ?_)
          have hO49 : z_Ok (z_nx σ) := z_ok_nx hO
          have hb50 : z_nb σ < 256 := z_nb_lt hO
          refine lv_istore_n (lv' := [(1, .int (nI (z_nb σ))), (0, .ref a.1)]) K.1 K.2.1 d_P_step_65 rfl hl (by decide) rfl (fun ls hl => ?_)
          refine lv_aload_n K.1 K.2.1 d_P_step_66 rfl (lv_at hl 1 rfl) ?_
          refine lv_iload_n K.1 K.2.1 d_P_step_67 rfl (lv_at hl 0 rfl) ?_
          refine nv_sipush (v := 251) K d_P_step_68 (by decide) ?_
          refine nf_icmp_ne (u := 0) (v := 1) (Y := 79) K (by omega) (by omega) d_P_step_71 rfl (fun _ k => nv_iconst (v := 0) K d_P_step_78 (by decide) k) (fun _ k => nv_iconst (v := 1) K d_P_step_74 (by decide) (lv_goto K.1 K.2.1 d_P_step_75 rfl k)) ?_
          have hb51 : (if (z_nb σ) = 251 then 1 else 0) < 2 := z_ite_ltB _ (by omega) (by omega)
          refine pp_lastLetInterruptsIn (v := (if (z_nb σ) = 251 then 1 else 0)) K hw (by omega) d_P_step_79 (fun H locs hw => ?_)
          have hO52 : z_Ok (z_s_la (z_nx σ) (if (z_nb σ) = 251 then 1 else 0)) := z_ok_la hO49 (by omega)
          refine lv_iload_n K.1 K.2.1 d_P_step_82 rfl (lv_at hl 0 rfl) ?_
          refine nv_bipush (v := 6) K d_P_step_83 (by decide) ?_
          refine nv_ishr (M := 64) K (by omega) rfl (by omega) d_P_step_85 ?_
          rcases (by omega : ((z_nb σ) / 64) = 0 ∨ ((z_nb σ) / 64) = 1 ∨ ((z_nb σ) / 64) = 2 ∨ ((z_nb σ) / 64) = 3) with h53 | h53 | h53 | h53
          · refine nv_as K (congrArg nI h53) ?_
            refine nv_tabIn (a := 0) (tgt := 112) K d_P_step_86 (by decide) (by decide) (by decide) rfl rfl ?_
            refine lv_aload_n K.1 K.2.1 d_P_step_112 rfl (lv_at hl 1 rfl) ?_
            refine lv_dup K.1 K.2.1 d_P_step_113 rfl ?_
            refine pg_stateCount (v := z_x_st σ) K hw rfl d_P_step_114 ?_
            refine lv_aload_n K.1 K.2.1 d_P_step_117 rfl (lv_at hl 1 rfl) ?_
            refine lv_iload_n K.1 K.2.1 d_P_step_118 rfl (lv_at hl 0 rfl) ?_
            refine pki K (c_doFirstQuarter (σ := z_s_la (z_nx σ) (if (z_nb σ) = 251 then 1 else 0)) (b := z_nb σ) l D cI a hO52 (by omega)) (cw_P_124 K (Nat.le_of_ble_eq_true rfl) (Nat.le_of_ble_eq_true rfl)) hw (va_recv (ci := 0) (q0 := 0) hw.2.2.2.1 hw.1 rfl rfl) rfl hl.1 rfl (Nat.le_of_ble_eq_true rfl) d_P_step_119 ⟨Nat.zero_le _, Nat.zero_le _⟩ (fun H locs hw => ?_)
            have hO54 : z_Ok (z_ea (z_s_la (z_nx σ) (if (z_nb σ) = 251 then 1 else 0)) (z_nb σ)) := z_ok_ea hO52 _
            have hb55 : z_ta (z_nb σ) < 17 := z_ta_lt _
            refine lv_i2l K.1 K.2.1 d_P_step_122 (nI_l (by omega)) ?_
            refine lv_ladd K.1 K.2.1 d_P_step_123 (lv_asl K (lN_add _ _) ?_)
            refine pp_stateCount (v := (z_x_st σ) + (z_ta (z_nb σ))) K hw d_P_step_124 (fun H locs hw => ?_)
            have hO56 : z_Ok (z_s_st (z_ea (z_s_la (z_nx σ) (if (z_nb σ) = 251 then 1 else 0)) (z_nb σ)) ((z_x_st σ) + (z_ta (z_nb σ)))) := z_ok_st hO54
            refine lv_goto K.1 K.2.1 d_P_step_127 rfl ?_
            refine nv_iconst (v := 1) K d_P_step_181 (by decide) ?_
            exact prz K hr hlk hw ((sx_q (by omega) (by omega) (by unfold z_ex; exact if_pos (by omega)) (by unfold z_tm; exact if_pos (by omega))).symm) (by omega) (congrArg nI (sv_q (by omega) (by omega)).symm) d_P_step_182
          · refine nv_as K (congrArg nI h53) ?_
            refine nv_tabIn (a := 1) (tgt := 130) K d_P_step_86 (by decide) (by decide) (by decide) rfl rfl ?_
            refine lv_aload_n K.1 K.2.1 d_P_step_130 rfl (lv_at hl 1 rfl) ?_
            refine lv_dup K.1 K.2.1 d_P_step_131 rfl ?_
            refine pg_stateCount (v := z_x_st σ) K hw rfl d_P_step_132 ?_
            refine lv_aload_n K.1 K.2.1 d_P_step_135 rfl (lv_at hl 1 rfl) ?_
            refine lv_iload_n K.1 K.2.1 d_P_step_136 rfl (lv_at hl 0 rfl) ?_
            refine pki K (c_move (σ := z_s_la (z_nx σ) (if (z_nb σ) = 251 then 1 else 0)) (b := z_nb σ) l D cI a hO52 (by omega)) (cw_P_127 K (Nat.le_of_ble_eq_true rfl) (Nat.le_of_ble_eq_true rfl)) hw (va_recv (ci := 0) (q0 := 0) hw.2.2.2.1 hw.1 rfl rfl) rfl hl.1 rfl (Nat.le_of_ble_eq_true rfl) d_P_step_137 ⟨Nat.zero_le _, Nat.zero_le _⟩ (fun H locs hw => ?_)
            have hO57 : z_Ok (z_eb (z_s_la (z_nx σ) (if (z_nb σ) = 251 then 1 else 0)) (z_nb σ)) := z_ok_eb hO52 _
            have hb58 : z_tb (z_nb σ) < 8 := z_tb_lt _
            refine lv_i2l K.1 K.2.1 d_P_step_140 (nI_l (by omega)) ?_
            refine lv_ladd K.1 K.2.1 d_P_step_141 (lv_asl K (lN_add _ _) ?_)
            refine pp_stateCount (v := (z_x_st σ) + (z_tb (z_nb σ))) K hw d_P_step_142 (fun H locs hw => ?_)
            have hO59 : z_Ok (z_s_st (z_eb (z_s_la (z_nx σ) (if (z_nb σ) = 251 then 1 else 0)) (z_nb σ)) ((z_x_st σ) + (z_tb (z_nb σ)))) := z_ok_st hO57
            refine lv_goto K.1 K.2.1 d_P_step_145 rfl ?_
            refine nv_iconst (v := 1) K d_P_step_181 (by decide) ?_
            exact prz K hr hlk hw ((sx_q (by omega) (by omega) (by unfold z_ex; exact (if_neg (by omega)).trans (if_pos (by omega))) (by unfold z_tm; exact (if_neg (by omega)).trans (if_pos (by omega)))).symm) (by omega) (congrArg nI (sv_q (by omega) (by omega)).symm) d_P_step_182
          · refine nv_as K (congrArg nI h53) ?_
            refine nv_tabIn (a := 2) (tgt := 148) K d_P_step_86 (by decide) (by decide) (by decide) rfl rfl ?_
            refine lv_aload_n K.1 K.2.1 d_P_step_148 rfl (lv_at hl 1 rfl) ?_
            refine lv_dup K.1 K.2.1 d_P_step_149 rfl ?_
            refine pg_stateCount (v := z_x_st σ) K hw rfl d_P_step_150 ?_
            refine lv_aload_n K.1 K.2.1 d_P_step_153 rfl (lv_at hl 1 rfl) ?_
            refine lv_iload_n K.1 K.2.1 d_P_step_154 rfl (lv_at hl 0 rfl) ?_
            refine pki K (c_combineWithRegister (σ := z_s_la (z_nx σ) (if (z_nb σ) = 251 then 1 else 0)) (b := z_nb σ) l D cI a hO52 (by omega)) (cw_P_130 K (Nat.le_of_ble_eq_true rfl) (Nat.le_of_ble_eq_true rfl)) hw (va_recv (ci := 0) (q0 := 0) hw.2.2.2.1 hw.1 rfl rfl) rfl hl.1 rfl (Nat.le_of_ble_eq_true rfl) d_P_step_155 ⟨Nat.zero_le _, Nat.zero_le _⟩ (fun H locs hw => ?_)
            have hO60 : z_Ok (z_ec (z_s_la (z_nx σ) (if (z_nb σ) = 251 then 1 else 0)) (z_nb σ)) := z_ok_ec hO52 _
            have hb61 : z_tc (z_nb σ) < 8 := z_tc_lt _
            refine lv_i2l K.1 K.2.1 d_P_step_158 (nI_l (by omega)) ?_
            refine lv_ladd K.1 K.2.1 d_P_step_159 (lv_asl K (lN_add _ _) ?_)
            refine pp_stateCount (v := (z_x_st σ) + (z_tc (z_nb σ))) K hw d_P_step_160 (fun H locs hw => ?_)
            have hO62 : z_Ok (z_s_st (z_ec (z_s_la (z_nx σ) (if (z_nb σ) = 251 then 1 else 0)) (z_nb σ)) ((z_x_st σ) + (z_tc (z_nb σ)))) := z_ok_st hO60
            refine lv_goto K.1 K.2.1 d_P_step_163 rfl ?_
            refine nv_iconst (v := 1) K d_P_step_181 (by decide) ?_
            exact prz K hr hlk hw ((sx_q (by omega) (by omega) (by unfold z_ex; exact (if_neg (by omega)).trans ((if_neg (by omega)).trans (if_pos (by omega)))) (by unfold z_tm; exact (if_neg (by omega)).trans ((if_neg (by omega)).trans (if_pos (by omega))))).symm) (by omega) (congrArg nI (sv_q (by omega) (by omega)).symm) d_P_step_182
          · refine nv_as K (congrArg nI h53) ?_
            refine nv_tabOut (a := 3) (tgt := 166) K d_P_step_86 (by decide) (by decide) rfl ?_
            refine lv_aload_n K.1 K.2.1 d_P_step_166 rfl (lv_at hl 1 rfl) ?_
            refine lv_dup K.1 K.2.1 d_P_step_167 rfl ?_
            refine pg_stateCount (v := z_x_st σ) K hw rfl d_P_step_168 ?_
            refine lv_aload_n K.1 K.2.1 d_P_step_171 rfl (lv_at hl 1 rfl) ?_
            refine lv_iload_n K.1 K.2.1 d_P_step_172 rfl (lv_at hl 0 rfl) ?_
            refine pki K (c_doLastQuarter (σ := z_s_la (z_nx σ) (if (z_nb σ) = 251 then 1 else 0)) (b := z_nb σ) l D cI a hO52 (by omega)) (cw_P_133 K (Nat.le_of_ble_eq_true rfl) (Nat.le_of_ble_eq_true rfl)) hw (va_recv (ci := 0) (q0 := 0) hw.2.2.2.1 hw.1 rfl rfl) rfl hl.1 rfl (Nat.le_of_ble_eq_true rfl) d_P_step_173 ⟨Nat.zero_le _, Nat.zero_le _⟩ (fun H locs hw => ?_)
            have hO63 : z_Ok (z_ed (z_s_la (z_nx σ) (if (z_nb σ) = 251 then 1 else 0)) (z_nb σ)) := z_ok_ed hO52 _
            refine nv_as K (y := nI (z_td σ (z_nb σ))) rfl ?_
            have hb64 : z_td σ (z_nb σ) < 19 := z_td_lt _ _
            refine lv_i2l K.1 K.2.1 d_P_step_176 (nI_l (by omega)) ?_
            refine lv_ladd K.1 K.2.1 d_P_step_177 (lv_asl K (lN_add _ _) ?_)
            refine pp_stateCount (v := (z_x_st σ) + (z_td σ (z_nb σ))) K hw d_P_step_178 (fun H locs hw => ?_)
            have hO65 : z_Ok (z_s_st (z_ed (z_s_la (z_nx σ) (if (z_nb σ) = 251 then 1 else 0)) (z_nb σ)) ((z_x_st σ) + (z_td σ (z_nb σ)))) := z_ok_st hO63
            refine nv_iconst (v := 1) K d_P_step_181 (by decide) ?_
            exact prz K hr hlk hw ((sx_q (by omega) (by omega) (by unfold z_ex; exact (if_neg (by omega)).trans ((if_neg (by omega)).trans (if_neg (by omega)))) (by unfold z_tm; exact (if_neg (by omega)).trans ((if_neg (by omega)).trans (if_neg (by omega))))).symm) (by omega) (congrArg nI (sv_q (by omega) (by omega)).symm) d_P_step_182
        · refine lv_aload_n K.1 K.2.1 d_P_step_47 rfl (lv_at hl 0 rfl) ?_
          refine lv_dup K.1 K.2.1 d_P_step_48 rfl ?_
          refine pg_stateCount (v := z_x_st σ) K hw rfl d_P_step_49 ?_
          refine lv_ldc2 (v := lN 4) K.1 K.2.1 K.2.2.2.1 (K.2.2.2.2 _ (List.mem_cons_of_mem _ m_constantLong_PortProcessor_119_4)) d_P_step_52 ?_
          refine lv_ladd K.1 K.2.1 d_P_step_55 (lv_asl K (lN_add _ _) ?_)
          refine pp_stateCount (v := (z_x_st σ) + 4) K hw d_P_step_56 (fun H locs hw => ?_)
          have hO66 : z_Ok (z_s_st σ ((z_x_st σ) + 4)) := z_ok_st hO
          refine nv_iconst (v := 0) K d_P_step_59 (by decide) ?_
          exact prz K hr hlk hw ((sx_h (by omega) (by omega)).symm) (by omega) (congrArg nI (sv_h (by omega) (by omega)).symm) d_P_step_60
      · refine lv_aload_n K.1 K.2.1 d_P_step_22 rfl (lv_at hl 0 rfl) ?_
        refine pkv K (c_letInterruptIn (σ := σ) l D cI a hO (by omega)) (cw_P_114 K (Nat.le_of_ble_eq_true rfl) (Nat.le_of_ble_eq_true rfl)) hw (va_recv (ci := 0) (q0 := 0) hw.2.2.2.1 hw.1 rfl rfl) rfl hl.1 rfl (Nat.le_of_ble_eq_true rfl) d_P_step_23 ⟨Nat.zero_le _, Nat.zero_le _⟩ (fun H locs hw => ?_)
        have hO67 : z_Ok (z_li σ) := z_ok_li hO
        refine lv_aload_n K.1 K.2.1 d_P_step_26 rfl (lv_at hl 0 rfl) ?_
        refine lv_dup K.1 K.2.1 d_P_step_27 rfl ?_
        refine pg_stateCount (v := z_x_st σ) K hw (st_li σ) d_P_step_28 ?_
        refine lv_ldc2 (v := lN 11) K.1 K.2.1 K.2.2.2.1 (K.2.2.2.2 _ (List.mem_cons_of_mem _ m_constantLong_PortProcessor_117_11)) d_P_step_31 ?_
        refine lv_ladd K.1 K.2.1 d_P_step_34 (lv_asl K (lN_add _ _) ?_)
        refine pp_stateCount (v := (z_x_st σ) + 11) K hw d_P_step_35 (fun H locs hw => ?_)
        have hO68 : z_Ok (z_s_st (z_li σ) ((z_x_st σ) + 11)) := z_ok_st hO67
        refine nv_iconst (v := 1) K d_P_step_38 (by decide) ?_
        exact prz K hr hlk hw ((sx_i (by omega) (by omega) (by omega)).symm) (by omega) (congrArg nI (sv_i (by omega) (by omega) (by omega)).symm) d_P_step_39
end
